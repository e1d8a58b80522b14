section
-- ===== PART A: goes FIRST, ahead of the names: the tables' words, and 'selects' of the private methods out of them =====
/-- a private method of a class that the tables say can be made, by its rows of tables_1 -/
def lw_okq (q : MethodName × Nat) : Prop := (q.1.cls ≠ "java/lang/invoke/MethodHandle" ∧ q.1.cls ≠ "java/lang/invoke/VarHandle") ∧ Cond.instantiable q.1.cls q.2 ∈ tables_1 ∧ Cond.privateMethod q.1 ∈ tables_1 ∧ Cond.instanceMethod q.1 ∈ tables_1
theorem lw_p0 : lw_okq (⟨"ChargeLines", "takeTimes", "(II)I"⟩, 4) := ⟨⟨by decide +kernel, by decide +kernel⟩, List.mem_of_getElem? (i := 14) (by decide +kernel), List.mem_of_getElem? (i := 281) (by decide +kernel), List.mem_of_getElem? (i := 282) (by decide +kernel)⟩
theorem lw_p1 : lw_okq (⟨"ChargeLines$Line", "handOver", "(II)V"⟩, 9) := ⟨⟨by decide +kernel, by decide +kernel⟩, List.mem_of_getElem? (i := 22) (by decide +kernel), List.mem_of_getElem? (i := 302) (by decide +kernel), List.mem_of_getElem? (i := 303) (by decide +kernel)⟩
theorem lw_p2 : lw_okq (⟨"ChargeLines$Line", "learnFrom", "(II)V"⟩, 9) := ⟨⟨by decide +kernel, by decide +kernel⟩, List.mem_of_getElem? (i := 22) (by decide +kernel), List.mem_of_getElem? (i := 325) (by decide +kernel), List.mem_of_getElem? (i := 326) (by decide +kernel)⟩
theorem lw_p3 : lw_okq (⟨"ChargeLines$Pairs", "mendBy", "(II)I"⟩, 2) := ⟨⟨by decide +kernel, by decide +kernel⟩, List.mem_of_getElem? (i := 69) (by decide +kernel), List.mem_of_getElem? (i := 342) (by decide +kernel), List.mem_of_getElem? (i := 343) (by decide +kernel)⟩
theorem lw_p4 : lw_okq (⟨"ChargeLines$Pairs", "mendBetween", "(III)I"⟩, 2) := ⟨⟨by decide +kernel, by decide +kernel⟩, List.mem_of_getElem? (i := 69) (by decide +kernel), List.mem_of_getElem? (i := 350) (by decide +kernel), List.mem_of_getElem? (i := 351) (by decide +kernel)⟩
theorem lw_p5 : lw_okq (⟨"ChargeLines", "outputWithoutShares", "(I)I"⟩, 4) := ⟨⟨by decide +kernel, by decide +kernel⟩, List.mem_of_getElem? (i := 14) (by decide +kernel), List.mem_of_getElem? (i := 446) (by decide +kernel), List.mem_of_getElem? (i := 447) (by decide +kernel)⟩
theorem lw_p6 : lw_okq (⟨"ChargeLines", "settingOfCount", "(I)I"⟩, 4) := ⟨⟨by decide +kernel, by decide +kernel⟩, List.mem_of_getElem? (i := 14) (by decide +kernel), List.mem_of_getElem? (i := 468) (by decide +kernel), List.mem_of_getElem? (i := 469) (by decide +kernel)⟩
theorem lw_p7 : lw_okq (⟨"ChargeLines$Text", "readForm", "()Z"⟩, 9) := ⟨⟨by decide +kernel, by decide +kernel⟩, List.mem_of_getElem? (i := 149) (by decide +kernel), List.mem_of_getElem? (i := 510) (by decide +kernel), List.mem_of_getElem? (i := 511) (by decide +kernel)⟩
theorem lw_p8 : lw_okq (⟨"ChargeLines$Text", "reads", "(C)Z"⟩, 9) := ⟨⟨by decide +kernel, by decide +kernel⟩, List.mem_of_getElem? (i := 149) (by decide +kernel), List.mem_of_getElem? (i := 514) (by decide +kernel), List.mem_of_getElem? (i := 515) (by decide +kernel)⟩
theorem lw_p9 : lw_okq (⟨"ChargeLines$Text", "readsNumber", "(II)Z"⟩, 9) := ⟨⟨by decide +kernel, by decide +kernel⟩, List.mem_of_getElem? (i := 149) (by decide +kernel), List.mem_of_getElem? (i := 518) (by decide +kernel), List.mem_of_getElem? (i := 519) (by decide +kernel)⟩
theorem lw_p10 : lw_okq (⟨"ChargeLines$Text", "atDigit", "()Z"⟩, 9) := ⟨⟨by decide +kernel, by decide +kernel⟩, List.mem_of_getElem? (i := 149) (by decide +kernel), List.mem_of_getElem? (i := 522) (by decide +kernel), List.mem_of_getElem? (i := 523) (by decide +kernel)⟩
theorem lw_p11 : lw_okq (⟨"ChargeLines$Text", "findOutOfRange", "()V"⟩, 9) := ⟨⟨by decide +kernel, by decide +kernel⟩, List.mem_of_getElem? (i := 149) (by decide +kernel), List.mem_of_getElem? (i := 526) (by decide +kernel), List.mem_of_getElem? (i := 527) (by decide +kernel)⟩
theorem lw_p12 : lw_okq (⟨"ChargeLines", "playPart", "()V"⟩, 4) := ⟨⟨by decide +kernel, by decide +kernel⟩, List.mem_of_getElem? (i := 14) (by decide +kernel), List.mem_of_getElem? (i := 535) (by decide +kernel), List.mem_of_getElem? (i := 536) (by decide +kernel)⟩
theorem lw_p13 : lw_okq (⟨"ChargeLinesModel", "begins", "()V"⟩, 13) := ⟨⟨by decide +kernel, by decide +kernel⟩, List.mem_of_getElem? (i := 539) (by decide +kernel), List.mem_of_getElem? (i := 545) (by decide +kernel), List.mem_of_getElem? (i := 546) (by decide +kernel)⟩
theorem lw_p14 : lw_okq (⟨"ChargeLinesModel", "records", "()V"⟩, 13) := ⟨⟨by decide +kernel, by decide +kernel⟩, List.mem_of_getElem? (i := 539) (by decide +kernel), List.mem_of_getElem? (i := 602) (by decide +kernel), List.mem_of_getElem? (i := 603) (by decide +kernel)⟩
theorem lw_p15 : lw_okq (⟨"ChargeLinesModel", "isStage", "(I)Z"⟩, 13) := ⟨⟨by decide +kernel, by decide +kernel⟩, List.mem_of_getElem? (i := 539) (by decide +kernel), List.mem_of_getElem? (i := 610) (by decide +kernel), List.mem_of_getElem? (i := 611) (by decide +kernel)⟩
def lw_privs_1 : List (MethodName × Nat) := [(⟨"ChargeLines", "takeTimes", "(II)I"⟩, 4), (⟨"ChargeLines$Line", "handOver", "(II)V"⟩, 9), (⟨"ChargeLines$Line", "learnFrom", "(II)V"⟩, 9), (⟨"ChargeLines$Pairs", "mendBy", "(II)I"⟩, 2), (⟨"ChargeLines$Pairs", "mendBetween", "(III)I"⟩, 2), (⟨"ChargeLines", "outputWithoutShares", "(I)I"⟩, 4), (⟨"ChargeLines", "settingOfCount", "(I)I"⟩, 4), (⟨"ChargeLines$Text", "readForm", "()Z"⟩, 9), (⟨"ChargeLines$Text", "reads", "(C)Z"⟩, 9), (⟨"ChargeLines$Text", "readsNumber", "(II)Z"⟩, 9), (⟨"ChargeLines$Text", "atDigit", "()Z"⟩, 9), (⟨"ChargeLines$Text", "findOutOfRange", "()V"⟩, 9), (⟨"ChargeLines", "playPart", "()V"⟩, 4), (⟨"ChargeLinesModel", "begins", "()V"⟩, 13), (⟨"ChargeLinesModel", "records", "()V"⟩, 13), (⟨"ChargeLinesModel", "isStage", "(I)Z"⟩, 13)]
theorem lw_r1 : ∀ q ∈ lw_privs_1, lw_okq q := List.forall_mem_cons.mpr ⟨lw_p0, List.forall_mem_cons.mpr ⟨lw_p1, List.forall_mem_cons.mpr ⟨lw_p2, List.forall_mem_cons.mpr ⟨lw_p3, List.forall_mem_cons.mpr ⟨lw_p4, List.forall_mem_cons.mpr ⟨lw_p5, List.forall_mem_cons.mpr ⟨lw_p6, List.forall_mem_cons.mpr ⟨lw_p7, List.forall_mem_cons.mpr ⟨lw_p8, List.forall_mem_cons.mpr ⟨lw_p9, List.forall_mem_cons.mpr ⟨lw_p10, List.forall_mem_cons.mpr ⟨lw_p11, List.forall_mem_cons.mpr ⟨lw_p12, List.forall_mem_cons.mpr ⟨lw_p13, List.forall_mem_cons.mpr ⟨lw_p14, List.forall_mem_cons.mpr ⟨lw_p15, fun _ h => absurd h List.not_mem_nil⟩⟩⟩⟩⟩⟩⟩⟩⟩⟩⟩⟩⟩⟩⟩⟩
theorem lw_p16 : lw_okq (⟨"ChargeLinesModel", "shares", "(III)I"⟩, 13) := ⟨⟨by decide +kernel, by decide +kernel⟩, List.mem_of_getElem? (i := 539) (by decide +kernel), List.mem_of_getElem? (i := 614) (by decide +kernel), List.mem_of_getElem? (i := 615) (by decide +kernel)⟩
theorem lw_p17 : lw_okq (⟨"ChargeLinesModel", "handedBehind", "(I)I"⟩, 13) := ⟨⟨by decide +kernel, by decide +kernel⟩, List.mem_of_getElem? (i := 539) (by decide +kernel), List.mem_of_getElem? (i := 630) (by decide +kernel), List.mem_of_getElem? (i := 631) (by decide +kernel)⟩
theorem lw_p18 : lw_okq (⟨"ChargeLinesModel", "isDue", "(I)Z"⟩, 13) := ⟨⟨by decide +kernel, by decide +kernel⟩, List.mem_of_getElem? (i := 539) (by decide +kernel), List.mem_of_getElem? (i := 634) (by decide +kernel), List.mem_of_getElem? (i := 635) (by decide +kernel)⟩
theorem lw_p19 : lw_okq (⟨"ChargeLinesModel", "gives", "(I)V"⟩, 13) := ⟨⟨by decide +kernel, by decide +kernel⟩, List.mem_of_getElem? (i := 539) (by decide +kernel), List.mem_of_getElem? (i := 639) (by decide +kernel), List.mem_of_getElem? (i := 640) (by decide +kernel)⟩
theorem lw_p20 : lw_okq (⟨"ChargeLinesModel", "passes", "(II)V"⟩, 13) := ⟨⟨by decide +kernel, by decide +kernel⟩, List.mem_of_getElem? (i := 539) (by decide +kernel), List.mem_of_getElem? (i := 643) (by decide +kernel), List.mem_of_getElem? (i := 644) (by decide +kernel)⟩
theorem lw_p21 : lw_okq (⟨"ChargeLinesModel", "comes", "(IIII)V"⟩, 13) := ⟨⟨by decide +kernel, by decide +kernel⟩, List.mem_of_getElem? (i := 539) (by decide +kernel), List.mem_of_getElem? (i := 659) (by decide +kernel), List.mem_of_getElem? (i := 660) (by decide +kernel)⟩
theorem lw_p22 : lw_okq (⟨"ChargeLinesModel", "mends", "(I)I"⟩, 13) := ⟨⟨by decide +kernel, by decide +kernel⟩, List.mem_of_getElem? (i := 539) (by decide +kernel), List.mem_of_getElem? (i := 663) (by decide +kernel), List.mem_of_getElem? (i := 664) (by decide +kernel)⟩
theorem lw_p23 : lw_okq (⟨"ChargeLinesModel", "laysRow", "()V"⟩, 13) := ⟨⟨by decide +kernel, by decide +kernel⟩, List.mem_of_getElem? (i := 539) (by decide +kernel), List.mem_of_getElem? (i := 667) (by decide +kernel), List.mem_of_getElem? (i := 668) (by decide +kernel)⟩
theorem lw_p24 : lw_okq (⟨"ChargeLinesModel", "counts", "(I)Z"⟩, 13) := ⟨⟨by decide +kernel, by decide +kernel⟩, List.mem_of_getElem? (i := 539) (by decide +kernel), List.mem_of_getElem? (i := 671) (by decide +kernel), List.mem_of_getElem? (i := 672) (by decide +kernel)⟩
theorem lw_p25 : lw_okq (⟨"ChargeLinesModel", "alone", "(II)J"⟩, 13) := ⟨⟨by decide +kernel, by decide +kernel⟩, List.mem_of_getElem? (i := 539) (by decide +kernel), List.mem_of_getElem? (i := 675) (by decide +kernel), List.mem_of_getElem? (i := 676) (by decide +kernel)⟩
theorem lw_p26 : lw_okq (⟨"ChargeLinesModel", "between", "(III)J"⟩, 13) := ⟨⟨by decide +kernel, by decide +kernel⟩, List.mem_of_getElem? (i := 539) (by decide +kernel), List.mem_of_getElem? (i := 679) (by decide +kernel), List.mem_of_getElem? (i := 680) (by decide +kernel)⟩
theorem lw_p27 : lw_okq (⟨"ChargeLinesModel", "error", "(I)I"⟩, 13) := ⟨⟨by decide +kernel, by decide +kernel⟩, List.mem_of_getElem? (i := 539) (by decide +kernel), List.mem_of_getElem? (i := 709) (by decide +kernel), List.mem_of_getElem? (i := 710) (by decide +kernel)⟩
theorem lw_p28 : lw_okq (⟨"ChargeLinesModel", "of", "(II)I"⟩, 13) := ⟨⟨by decide +kernel, by decide +kernel⟩, List.mem_of_getElem? (i := 539) (by decide +kernel), List.mem_of_getElem? (i := 713) (by decide +kernel), List.mem_of_getElem? (i := 714) (by decide +kernel)⟩
theorem lw_p29 : lw_okq (⟨"ChargeLinesModel", "tries", "(Z)V"⟩, 13) := ⟨⟨by decide +kernel, by decide +kernel⟩, List.mem_of_getElem? (i := 539) (by decide +kernel), List.mem_of_getElem? (i := 746) (by decide +kernel), List.mem_of_getElem? (i := 747) (by decide +kernel)⟩
theorem lw_p30 : lw_okq (⟨"ChargeLinesModel", "echoes", "(II)I"⟩, 13) := ⟨⟨by decide +kernel, by decide +kernel⟩, List.mem_of_getElem? (i := 539) (by decide +kernel), List.mem_of_getElem? (i := 750) (by decide +kernel), List.mem_of_getElem? (i := 751) (by decide +kernel)⟩
theorem lw_p31 : lw_okq (⟨"ChargeLinesModel", "isSafe", "(I)Z"⟩, 13) := ⟨⟨by decide +kernel, by decide +kernel⟩, List.mem_of_getElem? (i := 539) (by decide +kernel), List.mem_of_getElem? (i := 766) (by decide +kernel), List.mem_of_getElem? (i := 767) (by decide +kernel)⟩
def lw_privs_2 : List (MethodName × Nat) := [(⟨"ChargeLinesModel", "shares", "(III)I"⟩, 13), (⟨"ChargeLinesModel", "handedBehind", "(I)I"⟩, 13), (⟨"ChargeLinesModel", "isDue", "(I)Z"⟩, 13), (⟨"ChargeLinesModel", "gives", "(I)V"⟩, 13), (⟨"ChargeLinesModel", "passes", "(II)V"⟩, 13), (⟨"ChargeLinesModel", "comes", "(IIII)V"⟩, 13), (⟨"ChargeLinesModel", "mends", "(I)I"⟩, 13), (⟨"ChargeLinesModel", "laysRow", "()V"⟩, 13), (⟨"ChargeLinesModel", "counts", "(I)Z"⟩, 13), (⟨"ChargeLinesModel", "alone", "(II)J"⟩, 13), (⟨"ChargeLinesModel", "between", "(III)J"⟩, 13), (⟨"ChargeLinesModel", "error", "(I)I"⟩, 13), (⟨"ChargeLinesModel", "of", "(II)I"⟩, 13), (⟨"ChargeLinesModel", "tries", "(Z)V"⟩, 13), (⟨"ChargeLinesModel", "echoes", "(II)I"⟩, 13), (⟨"ChargeLinesModel", "isSafe", "(I)Z"⟩, 13)]
theorem lw_r2 : ∀ q ∈ lw_privs_2, lw_okq q := List.forall_mem_cons.mpr ⟨lw_p16, List.forall_mem_cons.mpr ⟨lw_p17, List.forall_mem_cons.mpr ⟨lw_p18, List.forall_mem_cons.mpr ⟨lw_p19, List.forall_mem_cons.mpr ⟨lw_p20, List.forall_mem_cons.mpr ⟨lw_p21, List.forall_mem_cons.mpr ⟨lw_p22, List.forall_mem_cons.mpr ⟨lw_p23, List.forall_mem_cons.mpr ⟨lw_p24, List.forall_mem_cons.mpr ⟨lw_p25, List.forall_mem_cons.mpr ⟨lw_p26, List.forall_mem_cons.mpr ⟨lw_p27, List.forall_mem_cons.mpr ⟨lw_p28, List.forall_mem_cons.mpr ⟨lw_p29, List.forall_mem_cons.mpr ⟨lw_p30, List.forall_mem_cons.mpr ⟨lw_p31, fun _ h => absurd h List.not_mem_nil⟩⟩⟩⟩⟩⟩⟩⟩⟩⟩⟩⟩⟩⟩⟩⟩
theorem lw_p32 : lw_okq (⟨"ChargeLinesModel", "pairs", "()I"⟩, 13) := ⟨⟨by decide +kernel, by decide +kernel⟩, List.mem_of_getElem? (i := 539) (by decide +kernel), List.mem_of_getElem? (i := 774) (by decide +kernel), List.mem_of_getElem? (i := 775) (by decide +kernel)⟩
theorem lw_p33 : lw_okq (⟨"ChargeLinesModel", "position", "()I"⟩, 13) := ⟨⟨by decide +kernel, by decide +kernel⟩, List.mem_of_getElem? (i := 539) (by decide +kernel), List.mem_of_getElem? (i := 790) (by decide +kernel), List.mem_of_getElem? (i := 791) (by decide +kernel)⟩
theorem lw_p34 : lw_okq (⟨"ChargeLinesModel", "reads", "()Z"⟩, 13) := ⟨⟨by decide +kernel, by decide +kernel⟩, List.mem_of_getElem? (i := 539) (by decide +kernel), List.mem_of_getElem? (i := 794) (by decide +kernel), List.mem_of_getElem? (i := 795) (by decide +kernel)⟩
theorem lw_p35 : lw_okq (⟨"ChargeLinesModel", "hasForm", "()Z"⟩, 13) := ⟨⟨by decide +kernel, by decide +kernel⟩, List.mem_of_getElem? (i := 539) (by decide +kernel), List.mem_of_getElem? (i := 798) (by decide +kernel), List.mem_of_getElem? (i := 799) (by decide +kernel)⟩
theorem lw_p36 : lw_okq (⟨"ChargeLinesModel", "takes", "(I)Z"⟩, 13) := ⟨⟨by decide +kernel, by decide +kernel⟩, List.mem_of_getElem? (i := 539) (by decide +kernel), List.mem_of_getElem? (i := 802) (by decide +kernel), List.mem_of_getElem? (i := 803) (by decide +kernel)⟩
theorem lw_p37 : lw_okq (⟨"ChargeLinesModel", "takesNumber", "(II)Z"⟩, 13) := ⟨⟨by decide +kernel, by decide +kernel⟩, List.mem_of_getElem? (i := 539) (by decide +kernel), List.mem_of_getElem? (i := 806) (by decide +kernel), List.mem_of_getElem? (i := 807) (by decide +kernel)⟩
theorem lw_p38 : lw_okq (⟨"ChargeLinesModel", "wrongNumber", "()I"⟩, 13) := ⟨⟨by decide +kernel, by decide +kernel⟩, List.mem_of_getElem? (i := 539) (by decide +kernel), List.mem_of_getElem? (i := 810) (by decide +kernel), List.mem_of_getElem? (i := 811) (by decide +kernel)⟩
def lw_privs_3 : List (MethodName × Nat) := [(⟨"ChargeLinesModel", "pairs", "()I"⟩, 13), (⟨"ChargeLinesModel", "position", "()I"⟩, 13), (⟨"ChargeLinesModel", "reads", "()Z"⟩, 13), (⟨"ChargeLinesModel", "hasForm", "()Z"⟩, 13), (⟨"ChargeLinesModel", "takes", "(I)Z"⟩, 13), (⟨"ChargeLinesModel", "takesNumber", "(II)Z"⟩, 13), (⟨"ChargeLinesModel", "wrongNumber", "()I"⟩, 13)]
theorem lw_r3 : ∀ q ∈ lw_privs_3, lw_okq q := List.forall_mem_cons.mpr ⟨lw_p32, List.forall_mem_cons.mpr ⟨lw_p33, List.forall_mem_cons.mpr ⟨lw_p34, List.forall_mem_cons.mpr ⟨lw_p35, List.forall_mem_cons.mpr ⟨lw_p36, List.forall_mem_cons.mpr ⟨lw_p37, List.forall_mem_cons.mpr ⟨lw_p38, fun _ h => absurd h List.not_mem_nil⟩⟩⟩⟩⟩⟩⟩
def lw_privs : List (MethodName × Nat) := lw_privs_1 ++ (lw_privs_2 ++ (lw_privs_3))
def lw_tbl : List Cond := k2_sels lw_privs ++ tables_1
theorem lw_privs_ok : ∀ q ∈ lw_privs, lw_okq q := by
  show ∀ q ∈ lw_privs_1 ++ (lw_privs_2 ++ (lw_privs_3)), lw_okq q
  exact List.forall_mem_append.mpr ⟨lw_r1, List.forall_mem_append.mpr ⟨lw_r2, lw_r3⟩⟩
/-- the streams that the claim lets the run draw from -/
abbrev lw_cs : List Choice := [Jvm.Choice.named "NaN.bits"]
theorem lw_bits : nanBits ∈ lw_cs := by first | decide | exact List.mem_cons_self | simp [lw_cs, nanBits]

/-! ===== BEGIN words of one list among another's, by their places ===== -/
theorem goodIn_r {big : List Cond} (ws : List Cond) (ps : List Nat) (hp : ws = ps.filterMap (fun i => big[i]?)) (h : ws.all goodWord = true) : GoodIn big ws := by
  intro w hw
  have h1 := List.all_eq_true.mp h w hw
  rw [hp] at hw
  obtain ⟨i, -, hi⟩ := List.mem_filterMap.mp hw
  have hm : w ∈ big := by first | exact List.mem_of_getElem? hi | exact List.getElem?_mem hi
  exact ⟨hm, good_of_word h1⟩
theorem goodIn_app {big a b : List Cond} (ha : GoodIn big a) (hb : GoodIn big b) : GoodIn big (a ++ b) := fun w h => (List.mem_append.mp h).elim (ha w) (hb w)
theorem goodIn_ca {big a b : List Cond} {c : Cond} (ha : GoodIn big (c :: a)) (hb : GoodIn big b) : GoodIn big (c :: (a ++ b)) := fun w h => (List.mem_cons.mp h).elim (fun e => ha w (List.mem_cons.mpr (Or.inl e))) (fun h => (List.mem_append.mp h).elim (fun h => ha w (List.mem_cons.mpr (Or.inr h))) (hb w))
theorem goodIn_sub {big ws : List Cond} (hm : ∀ w ∈ ws, w ∈ big) (h : ws.all goodWord = true) : GoodIn big ws := fun w hw => ⟨hm w hw, good_of_word (List.all_eq_true.mp h w hw)⟩
/-! ===== END ===== -/

/-! ===== BEGIN printed: names, fields, word lists, decode rows ===== -/
def RX0 : String := "ChargeLines$History"
def TX0 : u_T := fun k => match k with
  | 0 => ("ChargeLines$History", "states", "[LChargeLines$Line;", true)
  | 1 => ("ChargeLines$History", "first", "I", false)
  | _ => ("ChargeLines$History", "many", "I", false)
def tyX0 : Nat → FieldType := fun k => match k with
  | 0 => .array (.object "ChargeLines$Line")
  | 1 => .int
  | _ => .int
abbrev wsX00 : List Cond := u_ws RX0 TX0 3
theorem nmX0 : ∀ a, a < 3 → ∀ b, b < 3 → a ≠ b → (TX0 a).2.1 ≠ (TX0 b).2.1 := by decide +kernel
theorem tyX0_ok : ∀ k, k < 3 → parseFieldDescriptor (TX0 k).2.2.1 = some (tyX0 k) := by decide +kernel
abbrev cX0_init : ByteArray := prog_2_method_1_code
def yX0_init : MethodName := ⟨RX0, "<init>", "()V"⟩
abbrev cX0_keep : ByteArray := prog_2_method_2_code
def yX0_keep : MethodName := ⟨RX0, "keep", "(LChargeLines$Line;)V"⟩
abbrev cX0_restore : ByteArray := prog_2_method_3_code
def yX0_restore : MethodName := ⟨RX0, "restore", "(LChargeLines$Line;)V"⟩
def RX1 : String := "ChargeLines$Line"
def TX1 : u_T := fun k => match k with
  | 0 => ("ChargeLines$Line", "stages", "LChargeLines$Stages;", true)
  | 1 => ("ChargeLines$Line", "pairs", "LChargeLines$Pairs;", true)
  | 2 => ("ChargeLines$Line", "settings", "[I", true)
  | 3 => ("ChargeLines$Line", "handOvers", "I", false)
  | 4 => ("ChargeLines$Line", "references", "I", false)
  | 5 => ("ChargeLines$Line", "samples", "[I", true)
  | 6 => ("ChargeLines$Line", "referencesOfSamples", "[I", true)
  | 7 => ("ChargeLines$Line", "outputs", "[I", true)
  | _ => ("ChargeLines$Line", "mendedOutputs", "[I", true)
def tyX1 : Nat → FieldType := fun k => match k with
  | 0 => .object "ChargeLines$Stages"
  | 1 => .object "ChargeLines$Pairs"
  | 2 => .array .int
  | 3 => .int
  | 4 => .int
  | 5 => .array .int
  | 6 => .array .int
  | 7 => .array .int
  | _ => .array .int
abbrev wsX10 : List Cond := u_ws RX1 TX1 9
theorem nmX1 : ∀ a, a < 9 → ∀ b, b < 9 → a ≠ b → (TX1 a).2.1 ≠ (TX1 b).2.1 := by decide +kernel
theorem tyX1_ok : ∀ k, k < 9 → parseFieldDescriptor (TX1 k).2.2.1 = some (tyX1 k) := by decide +kernel
abbrev cX1_init : ByteArray := prog_3_method_1_code
def yX1_init : MethodName := ⟨RX1, "<init>", "()V"⟩
abbrev cX1_copyFrom : ByteArray := prog_3_method_2_code
def yX1_copyFrom : MethodName := ⟨RX1, "copyFrom", "(LChargeLines$Line;)V"⟩
abbrev cX1_startAnew : ByteArray := prog_3_method_3_code
def yX1_startAnew : MethodName := ⟨RX1, "startAnew", "(I)V"⟩
abbrev cX1_isForReference : ByteArray := prog_3_method_4_code
def yX1_isForReference : MethodName := ⟨RX1, "isForReference", "(I)Z"⟩
abbrev cX1_nextReference : ByteArray := prog_3_method_5_code
def yX1_nextReference : MethodName := ⟨RX1, "nextReference", "()I"⟩
abbrev cX1_handOversBehind : ByteArray := prog_3_method_6_code
def yX1_handOversBehind : MethodName := ⟨RX1, "handOversBehind", "(I)I"⟩
abbrev cX1_take : ByteArray := prog_3_method_7_code
def yX1_take : MethodName := ⟨RX1, "take", "(I)V"⟩
abbrev cX1_handOver : ByteArray := prog_3_method_8_code
def yX1_handOver : MethodName := ⟨RX1, "handOver", "(II)V"⟩
abbrev cX1_learnFrom : ByteArray := prog_3_method_9_code
def yX1_learnFrom : MethodName := ⟨RX1, "learnFrom", "(II)V"⟩
abbrev cX1_keptOutputs : ByteArray := prog_3_method_10_code
def yX1_keptOutputs : MethodName := ⟨RX1, "keptOutputs", "()I"⟩
abbrev cX1_sourceSlot : ByteArray := prog_3_method_11_code
def yX1_sourceSlot : MethodName := ⟨RX1, "sourceSlot", "(I)I"⟩
abbrev cX1_isOfReference : ByteArray := prog_3_method_12_code
def yX1_isOfReference : MethodName := ⟨RX1, "isOfReference", "(I)Z"⟩
abbrev cX1_errorOf : ByteArray := prog_3_method_13_code
def yX1_errorOf : MethodName := ⟨RX1, "errorOf", "(I)I"⟩
def RX2 : String := "ChargeLines$Pairs"
def TX2 : u_T := fun k => match k with
  | 0 => ("ChargeLines$Pairs", "outputs", "[I", true)
  | _ => ("ChargeLines$Pairs", "sizes", "[I", true)
def tyX2 : Nat → FieldType := fun k => match k with
  | 0 => .array .int
  | _ => .array .int
abbrev wsX20 : List Cond := u_ws RX2 TX2 2
theorem nmX2 : ∀ a, a < 2 → ∀ b, b < 2 → a ≠ b → (TX2 a).2.1 ≠ (TX2 b).2.1 := by decide +kernel
theorem tyX2_ok : ∀ k, k < 2 → parseFieldDescriptor (TX2 k).2.2.1 = some (tyX2 k) := by decide +kernel
abbrev cX2_init : ByteArray := prog_4_method_1_code
def yX2_init : MethodName := ⟨RX2, "<init>", "()V"⟩
abbrev cX2_copyFrom : ByteArray := prog_4_method_2_code
def yX2_copyFrom : MethodName := ⟨RX2, "copyFrom", "(LChargeLines$Pairs;)V"⟩
abbrev cX2_forget : ByteArray := prog_4_method_3_code
def yX2_forget : MethodName := ⟨RX2, "forget", "()V"⟩
abbrev cX2_learn : ByteArray := prog_4_method_4_code
def yX2_learn : MethodName := ⟨RX2, "learn", "(III)V"⟩
abbrev cX2_isKnown : ByteArray := prog_4_method_5_code
def yX2_isKnown : MethodName := ⟨RX2, "isKnown", "(I)Z"⟩
abbrev cX2_known : ByteArray := prog_4_method_6_code
def yX2_known : MethodName := ⟨RX2, "known", "()I"⟩
abbrev cX2_mend : ByteArray := prog_4_method_7_code
def yX2_mend : MethodName := ⟨RX2, "mend", "(I)I"⟩
abbrev cX2_mendBetween : ByteArray := prog_4_method_8_code
def yX2_mendBetween : MethodName := ⟨RX2, "mendBetween", "(III)I"⟩
abbrev cX2_mendBy : ByteArray := prog_4_method_9_code
def yX2_mendBy : MethodName := ⟨RX2, "mendBy", "(II)I"⟩
def RX3 : String := "ChargeLines$Stages"
def TX3 : u_T := fun k => match k with
  | 0 => ("ChargeLines$Stages", "many", "I", false)
  | 1 => ("ChargeLines$Stages", "charge", "[I", true)
  | 2 => ("ChargeLines$Stages", "stays", "[I", true)
  | 3 => ("ChargeLines$Stages", "leaks", "[I", true)
  | 4 => ("ChargeLines$Stages", "given", "I", false)
  | 5 => ("ChargeLines$Stages", "cameOut", "I", false)
  | 6 => ("ChargeLines$Stages", "leaked", "I", false)
  | _ => ("ChargeLines$Stages", "spilled", "I", false)
def tyX3 : Nat → FieldType := fun k => match k with
  | 0 => .int
  | 1 => .array .int
  | 2 => .array .int
  | 3 => .array .int
  | 4 => .int
  | 5 => .int
  | 6 => .int
  | _ => .int
abbrev wsX30 : List Cond := u_ws RX3 TX3 8
theorem nmX3 : ∀ a, a < 8 → ∀ b, b < 8 → a ≠ b → (TX3 a).2.1 ≠ (TX3 b).2.1 := by decide +kernel
theorem tyX3_ok : ∀ k, k < 8 → parseFieldDescriptor (TX3 k).2.2.1 = some (tyX3 k) := by decide +kernel
abbrev cX3_init : ByteArray := prog_5_method_1_code
def yX3_init : MethodName := ⟨RX3, "<init>", "()V"⟩
abbrev cX3_copyFrom : ByteArray := prog_5_method_2_code
def yX3_copyFrom : MethodName := ⟨RX3, "copyFrom", "(LChargeLines$Stages;)V"⟩
abbrev cX3_has : ByteArray := prog_5_method_3_code
def yX3_has : MethodName := ⟨RX3, "has", "(I)Z"⟩
abbrev cX3_changeShares : ByteArray := prog_5_method_4_code
def yX3_changeShares : MethodName := ⟨RX3, "changeShares", "(III)V"⟩
abbrev cX3_changeMany : ByteArray := prog_5_method_5_code
def yX3_changeMany : MethodName := ⟨RX3, "changeMany", "(I)V"⟩
abbrev cX3_empty : ByteArray := prog_5_method_6_code
def yX3_empty : MethodName := ⟨RX3, "empty", "()V"⟩
abbrev cX3_inStages : ByteArray := prog_5_method_7_code
def yX3_inStages : MethodName := ⟨RX3, "inStages", "()I"⟩
abbrev cX3_staying : ByteArray := prog_5_method_8_code
def yX3_staying : MethodName := ⟨RX3, "staying", "(I)I"⟩
abbrev cX3_leaking : ByteArray := prog_5_method_9_code
def yX3_leaking : MethodName := ⟨RX3, "leaking", "(I)I"⟩
abbrev cX3_leaving : ByteArray := prog_5_method_10_code
def yX3_leaving : MethodName := ⟨RX3, "leaving", "(I)I"⟩
abbrev cX3_handOver : ByteArray := prog_5_method_11_code
def yX3_handOver : MethodName := ⟨RX3, "handOver", "(II)I"⟩
abbrev cX3_outputOfLone : ByteArray := prog_5_method_12_code
def yX3_outputOfLone : MethodName := ⟨RX3, "outputOfLone", "(III)I"⟩
abbrev cX3_holds : ByteArray := prog_5_method_13_code
def yX3_holds : MethodName := ⟨RX3, "holds", "(III)Z"⟩
def RX4 : String := "ChargeLines$Text"
def TX4 : u_T := fun k => match k with
  | 0 => ("ChargeLines$Text", "signs", "[C", true)
  | 1 => ("ChargeLines$Text", "length", "I", false)
  | 2 => ("ChargeLines$Text", "parts", "I", false)
  | 3 => ("ChargeLines$Text", "samples", "I", false)
  | 4 => ("ChargeLines$Text", "at", "I", false)
  | 5 => ("ChargeLines$Text", "kind", "C", false)
  | 6 => ("ChargeLines$Text", "numbers", "[I", true)
  | 7 => ("ChargeLines$Text", "reason", "I", false)
  | _ => ("ChargeLines$Text", "cause", "I", false)
def tyX4 : Nat → FieldType := fun k => match k with
  | 0 => .array .char
  | 1 => .int
  | 2 => .int
  | 3 => .int
  | 4 => .int
  | 5 => .char
  | 6 => .array .int
  | 7 => .int
  | _ => .int
abbrev wsX40 : List Cond := u_ws RX4 TX4 9
theorem nmX4 : ∀ a, a < 9 → ∀ b, b < 9 → a ≠ b → (TX4 a).2.1 ≠ (TX4 b).2.1 := by decide +kernel
theorem tyX4_ok : ∀ k, k < 9 → parseFieldDescriptor (TX4 k).2.2.1 = some (tyX4 k) := by decide +kernel
abbrev cX4_init : ByteArray := prog_6_method_1_code
def yX4_init : MethodName := ⟨RX4, "<init>", "()V"⟩
abbrev cX4_append : ByteArray := prog_6_method_2_code
def yX4_append : MethodName := ⟨RX4, "append", "(C)V"⟩
abbrev cX4_clear : ByteArray := prog_6_method_3_code
def yX4_clear : MethodName := ⟨RX4, "clear", "()V"⟩
abbrev cX4_faultPosition : ByteArray := prog_6_method_4_code
def yX4_faultPosition : MethodName := ⟨RX4, "faultPosition", "(I)I"⟩
abbrev cX4_readPart : ByteArray := prog_6_method_5_code
def yX4_readPart : MethodName := ⟨RX4, "readPart", "(II)V"⟩
abbrev cX4_findOutOfRange : ByteArray := prog_6_method_6_code
def yX4_findOutOfRange : MethodName := ⟨RX4, "findOutOfRange", "()V"⟩
abbrev cX4_readForm : ByteArray := prog_6_method_7_code
def yX4_readForm : MethodName := ⟨RX4, "readForm", "()Z"⟩
abbrev cX4_reads : ByteArray := prog_6_method_8_code
def yX4_reads : MethodName := ⟨RX4, "reads", "(C)Z"⟩
abbrev cX4_readsNumber : ByteArray := prog_6_method_9_code
def yX4_readsNumber : MethodName := ⟨RX4, "readsNumber", "(II)Z"⟩
abbrev cX4_atDigit : ByteArray := prog_6_method_10_code
def yX4_atDigit : MethodName := ⟨RX4, "atDigit", "()Z"⟩
def RX5 : String := "ChargeLines"
def TX5 : u_T := fun k => match k with
  | 0 => ("ChargeLines", "line", "LChargeLines$Line;", true)
  | 1 => ("ChargeLines", "history", "LChargeLines$History;", true)
  | 2 => ("ChargeLines", "text", "LChargeLines$Text;", true)
  | _ => ("ChargeLines", "trial", "LChargeLines$Stages;", true)
def tyX5 : Nat → FieldType := fun k => match k with
  | 0 => .object "ChargeLines$Line"
  | 1 => .object "ChargeLines$History"
  | 2 => .object "ChargeLines$Text"
  | _ => .object "ChargeLines$Stages"
abbrev wsX50 : List Cond := u_ws RX5 TX5 4
theorem nmX5 : ∀ a, a < 4 → ∀ b, b < 4 → a ≠ b → (TX5 a).2.1 ≠ (TX5 b).2.1 := by decide +kernel
theorem tyX5_ok : ∀ k, k < 4 → parseFieldDescriptor (TX5 k).2.2.1 = some (tyX5 k) := by decide +kernel
abbrev cX5_init : ByteArray := prog_1_method_1_code
def yX5_init : MethodName := ⟨RX5, "<init>", "()V"⟩
abbrev cX5_begin : ByteArray := prog_1_method_2_code
def yX5_begin : MethodName := ⟨RX5, "begin", "(I)I"⟩
abbrev cX5_stage : ByteArray := prog_1_method_3_code
def yX5_stage : MethodName := ⟨RX5, "stage", "(III)I"⟩
abbrev cX5_set : ByteArray := prog_1_method_4_code
def yX5_set : MethodName := ⟨RX5, "set", "(II)I"⟩
abbrev cX5_give : ByteArray := prog_1_method_5_code
def yX5_give : MethodName := ⟨RX5, "give", "(I)I"⟩
abbrev cX5_idle : ByteArray := prog_1_method_6_code
def yX5_idle : MethodName := ⟨RX5, "idle", "(I)I"⟩
abbrev cX5_takeTimes : ByteArray := prog_1_method_7_code
def yX5_takeTimes : MethodName := ⟨RX5, "takeTimes", "(II)I"⟩
abbrev cX5_stageOf : ByteArray := prog_1_method_8_code
def yX5_stageOf : MethodName := ⟨RX5, "stageOf", "(II)I"⟩
abbrev cX5_outputOf : ByteArray := prog_1_method_9_code
def yX5_outputOf : MethodName := ⟨RX5, "outputOf", "(II)I"⟩
abbrev cX5_pairOf : ByteArray := prog_1_method_10_code
def yX5_pairOf : MethodName := ⟨RX5, "pairOf", "(II)I"⟩
abbrev cX5_mended : ByteArray := prog_1_method_11_code
def yX5_mended : MethodName := ⟨RX5, "mended", "(I)I"⟩
abbrev cX5_errors : ByteArray := prog_1_method_12_code
def yX5_errors : MethodName := ⟨RX5, "errors", "(I)I"⟩
abbrev cX5_account : ByteArray := prog_1_method_13_code
def yX5_account : MethodName := ⟨RX5, "account", "(I)I"⟩
abbrev cX5_echo : ByteArray := prog_1_method_14_code
def yX5_echo : MethodName := ⟨RX5, "echo", "(II)I"⟩
abbrev cX5_emptyAfter : ByteArray := prog_1_method_15_code
def yX5_emptyAfter : MethodName := ⟨RX5, "emptyAfter", "()I"⟩
abbrev cX5_worn : ByteArray := prog_1_method_16_code
def yX5_worn : MethodName := ⟨RX5, "worn", "(I)I"⟩
abbrev cX5_outputWithoutShares : ByteArray := prog_1_method_17_code
def yX5_outputWithoutShares : MethodName := ⟨RX5, "outputWithoutShares", "(I)I"⟩
abbrev cX5_safe : ByteArray := prog_1_method_18_code
def yX5_safe : MethodName := ⟨RX5, "safe", "()I"⟩
abbrev cX5_count : ByteArray := prog_1_method_19_code
def yX5_count : MethodName := ⟨RX5, "count", "(I)I"⟩
abbrev cX5_settingOfCount : ByteArray := prog_1_method_20_code
def yX5_settingOfCount : MethodName := ⟨RX5, "settingOfCount", "(I)I"⟩
abbrev cX5_undo : ByteArray := prog_1_method_21_code
def yX5_undo : MethodName := ⟨RX5, "undo", "()I"⟩
abbrev cX5_type : ByteArray := prog_1_method_22_code
def yX5_type : MethodName := ⟨RX5, "type", "(I)I"⟩
abbrev cX5_clearText : ByteArray := prog_1_method_23_code
def yX5_clearText : MethodName := ⟨RX5, "clearText", "()I"⟩
abbrev cX5_fault : ByteArray := prog_1_method_24_code
def yX5_fault : MethodName := ⟨RX5, "fault", "(I)I"⟩
abbrev cX5_play : ByteArray := prog_1_method_25_code
def yX5_play : MethodName := ⟨RX5, "play", "()I"⟩
abbrev cX5_playPart : ByteArray := prog_1_method_26_code
def yX5_playPart : MethodName := ⟨RX5, "playPart", "()V"⟩
abbrev cX5_outside : ByteArray := prog_1_method_27_code
def yX5_outside : MethodName := ⟨RX5, "outside", "(III)Z"⟩
abbrev cX5_bitsOf : ByteArray := prog_1_method_28_code
def yX5_bitsOf : MethodName := ⟨RX5, "bitsOf", "(F)I"⟩
def RX6 : String := "ChargeLinesModel"
def TX6 : u_T := fun k => match k with
  | 0 => ("ChargeLinesModel", "s", "[I", true)
  | 1 => ("ChargeLinesModel", "trial", "[I", true)
  | 2 => ("ChargeLinesModel", "past", "[I", true)
  | 3 => ("ChargeLinesModel", "saved", "I", false)
  | 4 => ("ChargeLinesModel", "text", "[I", true)
  | 5 => ("ChargeLinesModel", "length", "I", false)
  | 6 => ("ChargeLinesModel", "row", "[I", true)
  | 7 => ("ChargeLinesModel", "rowMany", "I", false)
  | 8 => ("ChargeLinesModel", "at", "I", false)
  | 9 => ("ChargeLinesModel", "reason", "I", false)
  | 10 => ("ChargeLinesModel", "cause", "I", false)
  | 11 => ("ChargeLinesModel", "sort", "I", false)
  | _ => ("ChargeLinesModel", "told", "[I", true)
def tyX6 : Nat → FieldType := fun k => match k with
  | 0 => .array .int
  | 1 => .array .int
  | 2 => .array .int
  | 3 => .int
  | 4 => .array .int
  | 5 => .int
  | 6 => .array .int
  | 7 => .int
  | 8 => .int
  | 9 => .int
  | 10 => .int
  | 11 => .int
  | _ => .array .int
abbrev wsX60 : List Cond := u_ws RX6 TX6 13
theorem nmX6 : ∀ a, a < 13 → ∀ b, b < 13 → a ≠ b → (TX6 a).2.1 ≠ (TX6 b).2.1 := by decide +kernel
theorem tyX6_ok : ∀ k, k < 13 → parseFieldDescriptor (TX6 k).2.2.1 = some (tyX6 k) := by decide +kernel
abbrev cX6_init : ByteArray := prog_8_method_1_code
def yX6_init : MethodName := ⟨RX6, "<init>", "()V"⟩
abbrev cX6_in : ByteArray := prog_8_method_3_code
def yX6_in : MethodName := ⟨RX6, "in", "(III)Z"⟩
abbrev cX6_records : ByteArray := prog_8_method_4_code
def yX6_records : MethodName := ⟨RX6, "records", "()V"⟩
abbrev cX6_undo : ByteArray := prog_8_method_5_code
def yX6_undo : MethodName := ⟨RX6, "undo", "()I"⟩
abbrev cX6_staying : ByteArray := prog_8_method_6_code
def yX6_staying : MethodName := ⟨RX6, "staying", "([II)I"⟩
abbrev cX6_leaking : ByteArray := prog_8_method_7_code
def yX6_leaking : MethodName := ⟨RX6, "leaking", "([II)I"⟩
abbrev cX6_moving : ByteArray := prog_8_method_8_code
def yX6_moving : MethodName := ⟨RX6, "moving", "([II)I"⟩
abbrev cX6_handsOver : ByteArray := prog_8_method_9_code
def yX6_handsOver : MethodName := ⟨RX6, "handsOver", "([II)I"⟩
abbrev cX6_begins : ByteArray := prog_8_method_10_code
def yX6_begins : MethodName := ⟨RX6, "begins", "()V"⟩
abbrev cX6_comes : ByteArray := prog_8_method_11_code
def yX6_comes : MethodName := ⟨RX6, "comes", "(IIII)V"⟩
abbrev cX6_passes : ByteArray := prog_8_method_12_code
def yX6_passes : MethodName := ⟨RX6, "passes", "(II)V"⟩
abbrev cX6_isDue : ByteArray := prog_8_method_13_code
def yX6_isDue : MethodName := ⟨RX6, "isDue", "(I)Z"⟩
abbrev cX6_gives : ByteArray := prog_8_method_14_code
def yX6_gives : MethodName := ⟨RX6, "gives", "(I)V"⟩
abbrev cX6_handedBehind : ByteArray := prog_8_method_15_code
def yX6_handedBehind : MethodName := ⟨RX6, "handedBehind", "(I)I"⟩
abbrev cX6_isStage : ByteArray := prog_8_method_16_code
def yX6_isStage : MethodName := ⟨RX6, "isStage", "(I)Z"⟩
abbrev cX6_begin : ByteArray := prog_8_method_17_code
def yX6_begin : MethodName := ⟨RX6, "begin", "(I)I"⟩
abbrev cX6_shares : ByteArray := prog_8_method_18_code
def yX6_shares : MethodName := ⟨RX6, "shares", "(III)I"⟩
abbrev cX6_stage : ByteArray := prog_8_method_19_code
def yX6_stage : MethodName := ⟨RX6, "stage", "(III)I"⟩
abbrev cX6_isSetting : ByteArray := prog_8_method_20_code
def yX6_isSetting : MethodName := ⟨RX6, "isSetting", "(II)Z"⟩
abbrev cX6_set : ByteArray := prog_8_method_21_code
def yX6_set : MethodName := ⟨RX6, "set", "(II)I"⟩
abbrev cX6_give : ByteArray := prog_8_method_22_code
def yX6_give : MethodName := ⟨RX6, "give", "(I)I"⟩
abbrev cX6_idle : ByteArray := prog_8_method_23_code
def yX6_idle : MethodName := ⟨RX6, "idle", "(I)I"⟩
abbrev cX6_counts : ByteArray := prog_8_method_24_code
def yX6_counts : MethodName := ⟨RX6, "counts", "(I)Z"⟩
abbrev cX6_laysRow : ByteArray := prog_8_method_25_code
def yX6_laysRow : MethodName := ⟨RX6, "laysRow", "()V"⟩
abbrev cX6_alone : ByteArray := prog_8_method_26_code
def yX6_alone : MethodName := ⟨RX6, "alone", "(II)J"⟩
abbrev cX6_down : ByteArray := prog_8_method_27_code
def yX6_down : MethodName := ⟨RX6, "down", "(JJ)J"⟩
abbrev cX6_between : ByteArray := prog_8_method_28_code
def yX6_between : MethodName := ⟨RX6, "between", "(III)J"⟩
abbrev cX6_mends : ByteArray := prog_8_method_29_code
def yX6_mends : MethodName := ⟨RX6, "mends", "(I)I"⟩
abbrev cX6_mended : ByteArray := prog_8_method_30_code
def yX6_mended : MethodName := ⟨RX6, "mended", "(I)I"⟩
abbrev cX6_pairOf : ByteArray := prog_8_method_31_code
def yX6_pairOf : MethodName := ⟨RX6, "pairOf", "(II)I"⟩
abbrev cX6_stageOf : ByteArray := prog_8_method_32_code
def yX6_stageOf : MethodName := ⟨RX6, "stageOf", "(II)I"⟩
abbrev cX6_of : ByteArray := prog_8_method_33_code
def yX6_of : MethodName := ⟨RX6, "of", "(II)I"⟩
abbrev cX6_error : ByteArray := prog_8_method_34_code
def yX6_error : MethodName := ⟨RX6, "error", "(I)I"⟩
abbrev cX6_outputOf : ByteArray := prog_8_method_35_code
def yX6_outputOf : MethodName := ⟨RX6, "outputOf", "(II)I"⟩
abbrev cX6_size : ByteArray := prog_8_method_36_code
def yX6_size : MethodName := ⟨RX6, "size", "(I)I"⟩
abbrev cX6_errors : ByteArray := prog_8_method_37_code
def yX6_errors : MethodName := ⟨RX6, "errors", "(I)I"⟩
abbrev cX6_inStages : ByteArray := prog_8_method_38_code
def yX6_inStages : MethodName := ⟨RX6, "inStages", "([I)I"⟩
abbrev cX6_account : ByteArray := prog_8_method_39_code
def yX6_account : MethodName := ⟨RX6, "account", "(I)I"⟩
abbrev cX6_tries : ByteArray := prog_8_method_40_code
def yX6_tries : MethodName := ⟨RX6, "tries", "(Z)V"⟩
abbrev cX6_echoes : ByteArray := prog_8_method_41_code
def yX6_echoes : MethodName := ⟨RX6, "echoes", "(II)I"⟩
abbrev cX6_echo : ByteArray := prog_8_method_42_code
def yX6_echo : MethodName := ⟨RX6, "echo", "(II)I"⟩
abbrev cX6_emptyAfter : ByteArray := prog_8_method_43_code
def yX6_emptyAfter : MethodName := ⟨RX6, "emptyAfter", "()I"⟩
abbrev cX6_worn : ByteArray := prog_8_method_44_code
def yX6_worn : MethodName := ⟨RX6, "worn", "(I)I"⟩
abbrev cX6_isSafe : ByteArray := prog_8_method_45_code
def yX6_isSafe : MethodName := ⟨RX6, "isSafe", "(I)Z"⟩
abbrev cX6_safe : ByteArray := prog_8_method_46_code
def yX6_safe : MethodName := ⟨RX6, "safe", "()I"⟩
abbrev cX6_pairs : ByteArray := prog_8_method_47_code
def yX6_pairs : MethodName := ⟨RX6, "pairs", "()I"⟩
abbrev cX6_count : ByteArray := prog_8_method_48_code
def yX6_count : MethodName := ⟨RX6, "count", "(I)I"⟩
abbrev cX6_type : ByteArray := prog_8_method_49_code
def yX6_type : MethodName := ⟨RX6, "type", "(I)I"⟩
abbrev cX6_clearText : ByteArray := prog_8_method_50_code
def yX6_clearText : MethodName := ⟨RX6, "clearText", "()I"⟩
abbrev cX6_takes : ByteArray := prog_8_method_51_code
def yX6_takes : MethodName := ⟨RX6, "takes", "(I)Z"⟩
abbrev cX6_takesNumber : ByteArray := prog_8_method_52_code
def yX6_takesNumber : MethodName := ⟨RX6, "takesNumber", "(II)Z"⟩
abbrev cX6_hasForm : ByteArray := prog_8_method_53_code
def yX6_hasForm : MethodName := ⟨RX6, "hasForm", "()Z"⟩
abbrev cX6_wrongNumber : ByteArray := prog_8_method_54_code
def yX6_wrongNumber : MethodName := ⟨RX6, "wrongNumber", "()I"⟩
abbrev cX6_reads : ByteArray := prog_8_method_55_code
def yX6_reads : MethodName := ⟨RX6, "reads", "()Z"⟩
abbrev cX6_position : ByteArray := prog_8_method_56_code
def yX6_position : MethodName := ⟨RX6, "position", "()I"⟩
abbrev cX6_fault : ByteArray := prog_8_method_57_code
def yX6_fault : MethodName := ⟨RX6, "fault", "(I)I"⟩
abbrev cX6_play : ByteArray := prog_8_method_58_code
def yX6_play : MethodName := ⟨RX6, "play", "()I"⟩
def RJx145de : String := "java/io/Serializable"
def TJx145de : u_T := fun k => match k with
  | _ => ("", "", "", false)
def tyJx145de : Nat → FieldType := fun k => match k with
  | _ => .int
abbrev wsJx145de0 : List Cond := u_ws RJx145de TJx145de 0
theorem nmJx145de : ∀ a, a < 0 → ∀ b, b < 0 → a ≠ b → (TJx145de a).2.1 ≠ (TJx145de b).2.1 := by decide +kernel
theorem tyJx145de_ok : ∀ k, k < 0 → parseFieldDescriptor (TJx145de k).2.2.1 = some (tyJx145de k) := by decide +kernel
def RJx8e188 : String := "java/lang/Cloneable"
def TJx8e188 : u_T := fun k => match k with
  | _ => ("", "", "", false)
def tyJx8e188 : Nat → FieldType := fun k => match k with
  | _ => .int
abbrev wsJx8e1880 : List Cond := u_ws RJx8e188 TJx8e188 0
theorem nmJx8e188 : ∀ a, a < 0 → ∀ b, b < 0 → a ≠ b → (TJx8e188 a).2.1 ≠ (TJx8e188 b).2.1 := by decide +kernel
theorem tyJx8e188_ok : ∀ k, k < 0 → parseFieldDescriptor (TJx8e188 k).2.2.1 = some (tyJx8e188 k) := by decide +kernel
def RJxb160c : String := "java/lang/Comparable"
def TJxb160c : u_T := fun k => match k with
  | _ => ("", "", "", false)
def tyJxb160c : Nat → FieldType := fun k => match k with
  | _ => .int
abbrev wsJxb160c0 : List Cond := u_ws RJxb160c TJxb160c 0
theorem nmJxb160c : ∀ a, a < 0 → ∀ b, b < 0 → a ≠ b → (TJxb160c a).2.1 ≠ (TJxb160c b).2.1 := by decide +kernel
theorem tyJxb160c_ok : ∀ k, k < 0 → parseFieldDescriptor (TJxb160c k).2.2.1 = some (tyJxb160c k) := by decide +kernel
def RJxf58ca : String := "java/lang/Float"
def TJxf58ca : u_T := fun k => match k with
  | _ => ("", "", "", false)
def tyJxf58ca : Nat → FieldType := fun k => match k with
  | _ => .int
abbrev wsJxf58ca0 : List Cond := u_ws RJxf58ca TJxf58ca 0
theorem nmJxf58ca : ∀ a, a < 0 → ∀ b, b < 0 → a ≠ b → (TJxf58ca a).2.1 ≠ (TJxf58ca b).2.1 := by decide +kernel
theorem tyJxf58ca_ok : ∀ k, k < 0 → parseFieldDescriptor (TJxf58ca k).2.2.1 = some (tyJxf58ca k) := by decide +kernel
abbrev cJxf58ca_isNaN_12338 : ByteArray := prog_10_method_6_code
def yJxf58ca_isNaN_12338 : MethodName := ⟨RJxf58ca, "isNaN", "(F)Z"⟩
abbrev cJxf58ca_floatToIntBits_5c35a : ByteArray := prog_10_method_24_code
def yJxf58ca_floatToIntBits_5c35a : MethodName := ⟨RJxf58ca, "floatToIntBits", "(F)I"⟩
def RJ9 : String := "java/lang/Math"
def TJ9 : u_T := fun k => match k with
  | _ => ("", "", "", false)
def tyJ9 : Nat → FieldType := fun k => match k with
  | _ => .int
abbrev wsJ90 : List Cond := u_ws RJ9 TJ9 0
theorem nmJ9 : ∀ a, a < 0 → ∀ b, b < 0 → a ≠ b → (TJ9 a).2.1 ≠ (TJ9 b).2.1 := by decide +kernel
theorem tyJ9_ok : ∀ k, k < 0 → parseFieldDescriptor (TJ9 k).2.2.1 = some (tyJ9 k) := by decide +kernel
abbrev cJ9_floorDiv_7cf53 : ByteArray := prog_11_method_47_code
def yJ9_floorDiv_7cf53 : MethodName := ⟨RJ9, "floorDiv", "(II)I"⟩
abbrev cJ9_abs_0f7a4 : ByteArray := prog_11_method_59_code
def yJ9_abs_0f7a4 : MethodName := ⟨RJ9, "abs", "(I)I"⟩
abbrev cJ9_max_7cf53 : ByteArray := prog_11_method_65_code
def yJ9_max_7cf53 : MethodName := ⟨RJ9, "max", "(II)I"⟩
abbrev cJ9_min_7cf53 : ByteArray := prog_11_method_69_code
def yJ9_min_7cf53 : MethodName := ⟨RJ9, "min", "(II)I"⟩
abbrev cJ9_min_f86c9 : ByteArray := prog_11_method_70_code
def yJ9_min_f86c9 : MethodName := ⟨RJ9, "min", "(JJ)J"⟩
def RJxd2413 : String := "java/lang/Number"
def TJxd2413 : u_T := fun k => match k with
  | _ => ("", "", "", false)
def tyJxd2413 : Nat → FieldType := fun k => match k with
  | _ => .int
abbrev wsJxd24130 : List Cond := u_ws RJxd2413 TJxd2413 0
theorem nmJxd2413 : ∀ a, a < 0 → ∀ b, b < 0 → a ≠ b → (TJxd2413 a).2.1 ≠ (TJxd2413 b).2.1 := by decide +kernel
theorem tyJxd2413_ok : ∀ k, k < 0 → parseFieldDescriptor (TJxd2413 k).2.2.1 = some (tyJxd2413 k) := by decide +kernel
def RJ10 : String := "java/lang/System"
def TJ10 : u_T := fun k => match k with
  | _ => ("", "", "", false)
def tyJ10 : Nat → FieldType := fun k => match k with
  | _ => .int
abbrev wsJ100 : List Cond := u_ws RJ10 TJ10 0
theorem nmJ10 : ∀ a, a < 0 → ∀ b, b < 0 → a ≠ b → (TJ10 a).2.1 ≠ (TJ10 b).2.1 := by decide +kernel
theorem tyJ10_ok : ∀ k, k < 0 → parseFieldDescriptor (TJ10 k).2.2.1 = some (tyJ10 k) := by decide +kernel
def RJxfd54e : String := "java/lang/constant/Constable"
def TJxfd54e : u_T := fun k => match k with
  | _ => ("", "", "", false)
def tyJxfd54e : Nat → FieldType := fun k => match k with
  | _ => .int
abbrev wsJxfd54e0 : List Cond := u_ws RJxfd54e TJxfd54e 0
theorem nmJxfd54e : ∀ a, a < 0 → ∀ b, b < 0 → a ≠ b → (TJxfd54e a).2.1 ≠ (TJxfd54e b).2.1 := by decide +kernel
theorem tyJxfd54e_ok : ∀ k, k < 0 → parseFieldDescriptor (TJxfd54e k).2.2.1 = some (tyJxfd54e k) := by decide +kernel
def RJx3cf43 : String := "java/lang/constant/ConstantDesc"
def TJx3cf43 : u_T := fun k => match k with
  | _ => ("", "", "", false)
def tyJx3cf43 : Nat → FieldType := fun k => match k with
  | _ => .int
abbrev wsJx3cf430 : List Cond := u_ws RJx3cf43 TJx3cf43 0
theorem nmJx3cf43 : ∀ a, a < 0 → ∀ b, b < 0 → a ≠ b → (TJx3cf43 a).2.1 ≠ (TJx3cf43 b).2.1 := by decide +kernel
theorem tyJx3cf43_ok : ∀ k, k < 0 → parseFieldDescriptor (TJx3cf43 k).2.2.1 = some (tyJx3cf43 k) := by decide +kernel
def RJ7 : String := "java/util/Arrays"
def TJ7 : u_T := fun k => match k with
  | _ => ("", "", "", false)
def tyJ7 : Nat → FieldType := fun k => match k with
  | _ => .int
abbrev wsJ70 : List Cond := u_ws RJ7 TJ7 0
theorem nmJ7 : ∀ a, a < 0 → ∀ b, b < 0 → a ≠ b → (TJ7 a).2.1 ≠ (TJ7 b).2.1 := by decide +kernel
theorem tyJ7_ok : ∀ k, k < 0 → parseFieldDescriptor (TJ7 k).2.2.1 = some (tyJ7 k) := by decide +kernel
abbrev cJ7_fill_53178 : ByteArray := prog_14_method_103_code
def yJ7_fill_53178 : MethodName := ⟨RJ7, "fill", "([II)V"⟩
def RL : String := "ChargeLinesLaw"
abbrev cL_law : ByteArray := code
def yL_law : MethodName := ⟨RL, "law", "([I)Z"⟩
def wsX3_init : List Cond := .code yX3_init cX3_init 1 none :: ([.methodLink RX3 3 objectInit, .instanceMethod objectInit, .code objectInit ⟨#[0xb1]⟩ 1 none, .fieldLink RX3 9 "ChargeLines$Stages" "many" "I", .arrayClass .int, .fieldLink RX3 15 "ChargeLines$Stages" "charge" "[I", .fieldLink RX3 19 "ChargeLines$Stages" "stays" "[I", .fieldLink RX3 22 "ChargeLines$Stages" "leaks" "[I"] ++ wsX30)
def wsX2_init : List Cond := .code yX2_init cX2_init 1 none :: ([.methodLink RX2 3 objectInit, .instanceMethod objectInit, .code objectInit ⟨#[0xb1]⟩ 1 none, .arrayClass .int, .fieldLink RX2 9 "ChargeLines$Pairs" "outputs" "[I", .fieldLink RX2 15 "ChargeLines$Pairs" "sizes" "[I"] ++ wsX20)
def wsX1_init_r1 : List Cond := [Cond.methodLink RX1 3 objectInit, Cond.instanceMethod objectInit, Cond.code objectInit ⟨#[0xb1]⟩ 1 none, Cond.classLink RX1 9 RX3, Cond.instantiable RX3 8, Cond.initialized RX3, Cond.fieldLink RX1 12 "ChargeLines$Line" "stages" "LChargeLines$Stages;", Cond.classLink RX1 18 RX2, Cond.instantiable RX2 2, Cond.initialized RX2, Cond.fieldLink RX1 21 "ChargeLines$Line" "pairs" "LChargeLines$Pairs;", Cond.methodLink RX1 29 ⟨"[I", "clone", "()Ljava/lang/Object;"⟩, Cond.sameMethod "[I" "java/lang/Object" "clone" "()Ljava/lang/Object;", Cond.native ⟨"java/lang/Object", "clone", "()Ljava/lang/Object;"⟩, Cond.instanceMethod ⟨"java/lang/Object", "clone", "()Ljava/lang/Object;"⟩, Cond.selects "[I" ⟨"[I", "clone", "()Ljava/lang/Object;"⟩ ⟨"java/lang/Object", "clone", "()Ljava/lang/Object;"⟩, Cond.classLink RX1 30 "[I", Cond.fieldLink RX1 34 "ChargeLines$Line" "settings" "[I", Cond.arrayClass .int, Cond.fieldLink RX1 37 "ChargeLines$Line" "samples" "[I", Cond.fieldLink RX1 40 "ChargeLines$Line" "referencesOfSamples" "[I", Cond.fieldLink RX1 43 "ChargeLines$Line" "outputs" "[I", Cond.fieldLink RX1 46 "ChargeLines$Line" "mendedOutputs" "[I", Cond.instanceMethod yX3_init]
def wsX1_init_r2 : List Cond := [Cond.code yX3_init cX3_init 1 none, Cond.methodLink RX3 3 objectInit, Cond.fieldLink RX3 9 "ChargeLines$Stages" "many" "I", Cond.fieldLink RX3 15 "ChargeLines$Stages" "charge" "[I", Cond.fieldLink RX3 19 "ChargeLines$Stages" "stays" "[I", Cond.fieldLink RX3 22 "ChargeLines$Stages" "leaks" "[I", Cond.instanceMethod yX2_init, Cond.code yX2_init cX2_init 1 none, Cond.methodLink RX2 3 objectInit, Cond.fieldLink RX2 9 "ChargeLines$Pairs" "outputs" "[I", Cond.fieldLink RX2 15 "ChargeLines$Pairs" "sizes" "[I"]
def wsX1_init : List Cond := .code yX1_init cX1_init 1 none :: ((wsX1_init_r1 ++ wsX1_init_r2) ++ wsX30 ++ wsX10 ++ wsX20)
def wsX0_init_r1 : List Cond := [Cond.methodLink RX0 3 objectInit, Cond.instanceMethod objectInit, Cond.code objectInit ⟨#[0xb1]⟩ 1 none, Cond.classLink RX0 9 RX1, Cond.fieldLink RX0 11 "ChargeLines$History" "states" "[LChargeLines$Line;", Cond.instantiable RX1 9, Cond.initialized RX1, Cond.instanceMethod yX1_init, Cond.code yX1_init cX1_init 1 none, Cond.methodLink RX1 3 objectInit, Cond.classLink RX1 9 RX3, Cond.instantiable RX3 8, Cond.initialized RX3, Cond.fieldLink RX1 12 "ChargeLines$Line" "stages" "LChargeLines$Stages;", Cond.classLink RX1 18 RX2, Cond.instantiable RX2 2, Cond.initialized RX2, Cond.fieldLink RX1 21 "ChargeLines$Line" "pairs" "LChargeLines$Pairs;", Cond.methodLink RX1 29 ⟨"[I", "clone", "()Ljava/lang/Object;"⟩, Cond.sameMethod "[I" "java/lang/Object" "clone" "()Ljava/lang/Object;", Cond.native ⟨"java/lang/Object", "clone", "()Ljava/lang/Object;"⟩, Cond.instanceMethod ⟨"java/lang/Object", "clone", "()Ljava/lang/Object;"⟩, Cond.selects "[I" ⟨"[I", "clone", "()Ljava/lang/Object;"⟩ ⟨"java/lang/Object", "clone", "()Ljava/lang/Object;"⟩, Cond.classLink RX1 30 "[I"]
def wsX0_init_r2 : List Cond := [Cond.fieldLink RX1 34 "ChargeLines$Line" "settings" "[I", Cond.arrayClass .int, Cond.fieldLink RX1 37 "ChargeLines$Line" "samples" "[I", Cond.fieldLink RX1 40 "ChargeLines$Line" "referencesOfSamples" "[I", Cond.fieldLink RX1 43 "ChargeLines$Line" "outputs" "[I", Cond.fieldLink RX1 46 "ChargeLines$Line" "mendedOutputs" "[I", Cond.instanceMethod yX3_init, Cond.code yX3_init cX3_init 1 none, Cond.methodLink RX3 3 objectInit, Cond.fieldLink RX3 9 "ChargeLines$Stages" "many" "I", Cond.fieldLink RX3 15 "ChargeLines$Stages" "charge" "[I", Cond.fieldLink RX3 19 "ChargeLines$Stages" "stays" "[I", Cond.fieldLink RX3 22 "ChargeLines$Stages" "leaks" "[I", Cond.instanceMethod yX2_init, Cond.code yX2_init cX2_init 1 none, Cond.methodLink RX2 3 objectInit, Cond.fieldLink RX2 9 "ChargeLines$Pairs" "outputs" "[I", Cond.fieldLink RX2 15 "ChargeLines$Pairs" "sizes" "[I"]
def wsX0_init : List Cond := .code yX0_init cX0_init 2 none :: ((wsX0_init_r1 ++ wsX0_init_r2) ++ wsX00 ++ wsX10 ++ wsX30 ++ wsX20)
def wsX3_copyFrom : List Cond := .code yX3_copyFrom cX3_copyFrom 2 none :: ([.fieldLink RX3 9 "ChargeLines$Stages" "many" "I", .fieldLink RX3 15 "ChargeLines$Stages" "charge" "[I", .methodLink RX3 25 arraycopyName, .native arraycopyName, .static arraycopyName, .initialized "java/lang/System", .fieldLink RX3 19 "ChargeLines$Stages" "stays" "[I", .fieldLink RX3 22 "ChargeLines$Stages" "leaks" "[I", .fieldLink RX3 31 "ChargeLines$Stages" "given" "I", .fieldLink RX3 34 "ChargeLines$Stages" "cameOut" "I", .fieldLink RX3 37 "ChargeLines$Stages" "leaked" "I", .fieldLink RX3 40 "ChargeLines$Stages" "spilled" "I"] ++ wsX30)
def wsX2_copyFrom : List Cond := .code yX2_copyFrom cX2_copyFrom 2 none :: ([.fieldLink RX2 9 "ChargeLines$Pairs" "outputs" "[I", .methodLink RX2 18 arraycopyName, .native arraycopyName, .static arraycopyName, .initialized "java/lang/System", .fieldLink RX2 15 "ChargeLines$Pairs" "sizes" "[I"] ++ wsX20)
def wsX1_copyFrom_r1 : List Cond := [Cond.fieldLink RX1 12 "ChargeLines$Line" "stages" "LChargeLines$Stages;", Cond.fieldLink RX1 21 "ChargeLines$Line" "pairs" "LChargeLines$Pairs;", Cond.fieldLink RX1 34 "ChargeLines$Line" "settings" "[I", Cond.methodLink RX1 56 arraycopyName, Cond.native arraycopyName, Cond.static arraycopyName, Cond.initialized "java/lang/System", Cond.fieldLink RX1 62 "ChargeLines$Line" "handOvers" "I", Cond.fieldLink RX1 66 "ChargeLines$Line" "references" "I", Cond.fieldLink RX1 37 "ChargeLines$Line" "samples" "[I", Cond.fieldLink RX1 40 "ChargeLines$Line" "referencesOfSamples" "[I", Cond.fieldLink RX1 43 "ChargeLines$Line" "outputs" "[I", Cond.fieldLink RX1 46 "ChargeLines$Line" "mendedOutputs" "[I", Cond.methodLink RX1 49 yX3_copyFrom, Cond.instanceMethod yX3_copyFrom, Cond.selects RX3 yX3_copyFrom yX3_copyFrom, Cond.initialized RX3, Cond.code yX3_copyFrom cX3_copyFrom 2 none, Cond.fieldLink RX3 9 "ChargeLines$Stages" "many" "I", Cond.fieldLink RX3 15 "ChargeLines$Stages" "charge" "[I", Cond.methodLink RX3 25 arraycopyName, Cond.fieldLink RX3 19 "ChargeLines$Stages" "stays" "[I", Cond.fieldLink RX3 22 "ChargeLines$Stages" "leaks" "[I", Cond.fieldLink RX3 31 "ChargeLines$Stages" "given" "I"]
def wsX1_copyFrom_r2 : List Cond := [Cond.fieldLink RX3 34 "ChargeLines$Stages" "cameOut" "I", Cond.fieldLink RX3 37 "ChargeLines$Stages" "leaked" "I", Cond.fieldLink RX3 40 "ChargeLines$Stages" "spilled" "I", Cond.methodLink RX1 53 yX2_copyFrom, Cond.instanceMethod yX2_copyFrom, Cond.selects RX2 yX2_copyFrom yX2_copyFrom, Cond.initialized RX2, Cond.code yX2_copyFrom cX2_copyFrom 2 none, Cond.fieldLink RX2 9 "ChargeLines$Pairs" "outputs" "[I", Cond.methodLink RX2 18 arraycopyName, Cond.fieldLink RX2 15 "ChargeLines$Pairs" "sizes" "[I"]
def wsX1_copyFrom : List Cond := .code yX1_copyFrom cX1_copyFrom 2 none :: ((wsX1_copyFrom_r1 ++ wsX1_copyFrom_r2) ++ wsX10 ++ wsX30 ++ wsX20)
def wsX0_keep_r1 : List Cond := [Cond.fieldLink RX0 18 "ChargeLines$History" "many" "I", Cond.fieldLink RX0 22 "ChargeLines$History" "first" "I", Cond.fieldLink RX0 11 "ChargeLines$History" "states" "[LChargeLines$Line;", Cond.methodLink RX0 25 yX1_copyFrom, Cond.instanceMethod yX1_copyFrom, Cond.selects RX1 yX1_copyFrom yX1_copyFrom, Cond.initialized RX1, Cond.code yX1_copyFrom cX1_copyFrom 2 none, Cond.fieldLink RX1 12 "ChargeLines$Line" "stages" "LChargeLines$Stages;", Cond.fieldLink RX1 21 "ChargeLines$Line" "pairs" "LChargeLines$Pairs;", Cond.fieldLink RX1 34 "ChargeLines$Line" "settings" "[I", Cond.methodLink RX1 56 arraycopyName, Cond.native arraycopyName, Cond.static arraycopyName, Cond.initialized "java/lang/System", Cond.fieldLink RX1 62 "ChargeLines$Line" "handOvers" "I", Cond.fieldLink RX1 66 "ChargeLines$Line" "references" "I", Cond.fieldLink RX1 37 "ChargeLines$Line" "samples" "[I", Cond.fieldLink RX1 40 "ChargeLines$Line" "referencesOfSamples" "[I", Cond.fieldLink RX1 43 "ChargeLines$Line" "outputs" "[I", Cond.fieldLink RX1 46 "ChargeLines$Line" "mendedOutputs" "[I", Cond.methodLink RX1 49 yX3_copyFrom, Cond.instanceMethod yX3_copyFrom, Cond.selects RX3 yX3_copyFrom yX3_copyFrom]
def wsX0_keep_r2 : List Cond := [Cond.initialized RX3, Cond.code yX3_copyFrom cX3_copyFrom 2 none, Cond.fieldLink RX3 9 "ChargeLines$Stages" "many" "I", Cond.fieldLink RX3 15 "ChargeLines$Stages" "charge" "[I", Cond.methodLink RX3 25 arraycopyName, Cond.fieldLink RX3 19 "ChargeLines$Stages" "stays" "[I", Cond.fieldLink RX3 22 "ChargeLines$Stages" "leaks" "[I", Cond.fieldLink RX3 31 "ChargeLines$Stages" "given" "I", Cond.fieldLink RX3 34 "ChargeLines$Stages" "cameOut" "I", Cond.fieldLink RX3 37 "ChargeLines$Stages" "leaked" "I", Cond.fieldLink RX3 40 "ChargeLines$Stages" "spilled" "I", Cond.methodLink RX1 53 yX2_copyFrom, Cond.instanceMethod yX2_copyFrom, Cond.selects RX2 yX2_copyFrom yX2_copyFrom, Cond.initialized RX2, Cond.code yX2_copyFrom cX2_copyFrom 2 none, Cond.fieldLink RX2 9 "ChargeLines$Pairs" "outputs" "[I", Cond.methodLink RX2 18 arraycopyName, Cond.fieldLink RX2 15 "ChargeLines$Pairs" "sizes" "[I"]
def wsX0_keep : List Cond := .code yX0_keep cX0_keep 2 none :: ((wsX0_keep_r1 ++ wsX0_keep_r2) ++ wsX00 ++ wsX10 ++ wsX30 ++ wsX20)
def wsX0_restore_r1 : List Cond := [Cond.fieldLink RX0 18 "ChargeLines$History" "many" "I", Cond.fieldLink RX0 11 "ChargeLines$History" "states" "[LChargeLines$Line;", Cond.fieldLink RX0 22 "ChargeLines$History" "first" "I", Cond.methodLink RX0 25 yX1_copyFrom, Cond.instanceMethod yX1_copyFrom, Cond.selects RX1 yX1_copyFrom yX1_copyFrom, Cond.initialized RX1, Cond.code yX1_copyFrom cX1_copyFrom 2 none, Cond.fieldLink RX1 12 "ChargeLines$Line" "stages" "LChargeLines$Stages;", Cond.fieldLink RX1 21 "ChargeLines$Line" "pairs" "LChargeLines$Pairs;", Cond.fieldLink RX1 34 "ChargeLines$Line" "settings" "[I", Cond.methodLink RX1 56 arraycopyName, Cond.native arraycopyName, Cond.static arraycopyName, Cond.initialized "java/lang/System", Cond.fieldLink RX1 62 "ChargeLines$Line" "handOvers" "I", Cond.fieldLink RX1 66 "ChargeLines$Line" "references" "I", Cond.fieldLink RX1 37 "ChargeLines$Line" "samples" "[I", Cond.fieldLink RX1 40 "ChargeLines$Line" "referencesOfSamples" "[I", Cond.fieldLink RX1 43 "ChargeLines$Line" "outputs" "[I", Cond.fieldLink RX1 46 "ChargeLines$Line" "mendedOutputs" "[I", Cond.methodLink RX1 49 yX3_copyFrom, Cond.instanceMethod yX3_copyFrom, Cond.selects RX3 yX3_copyFrom yX3_copyFrom]
def wsX0_restore_r2 : List Cond := [Cond.initialized RX3, Cond.code yX3_copyFrom cX3_copyFrom 2 none, Cond.fieldLink RX3 9 "ChargeLines$Stages" "many" "I", Cond.fieldLink RX3 15 "ChargeLines$Stages" "charge" "[I", Cond.methodLink RX3 25 arraycopyName, Cond.fieldLink RX3 19 "ChargeLines$Stages" "stays" "[I", Cond.fieldLink RX3 22 "ChargeLines$Stages" "leaks" "[I", Cond.fieldLink RX3 31 "ChargeLines$Stages" "given" "I", Cond.fieldLink RX3 34 "ChargeLines$Stages" "cameOut" "I", Cond.fieldLink RX3 37 "ChargeLines$Stages" "leaked" "I", Cond.fieldLink RX3 40 "ChargeLines$Stages" "spilled" "I", Cond.methodLink RX1 53 yX2_copyFrom, Cond.instanceMethod yX2_copyFrom, Cond.selects RX2 yX2_copyFrom yX2_copyFrom, Cond.initialized RX2, Cond.code yX2_copyFrom cX2_copyFrom 2 none, Cond.fieldLink RX2 9 "ChargeLines$Pairs" "outputs" "[I", Cond.methodLink RX2 18 arraycopyName, Cond.fieldLink RX2 15 "ChargeLines$Pairs" "sizes" "[I"]
def wsX0_restore : List Cond := .code yX0_restore cX0_restore 2 none :: ((wsX0_restore_r1 ++ wsX0_restore_r2) ++ wsX00 ++ wsX10 ++ wsX30 ++ wsX20)
def wsX3_changeShares : List Cond := .code yX3_changeShares cX3_changeShares 4 none :: ([.fieldLink RX3 19 "ChargeLines$Stages" "stays" "[I", .fieldLink RX3 22 "ChargeLines$Stages" "leaks" "[I"] ++ wsX30)
def wsX3_changeMany : List Cond := .code yX3_changeMany cX3_changeMany 3 none :: ([.fieldLink RX3 9 "ChargeLines$Stages" "many" "I", .methodLink RX3 43 yX3_changeShares, .instanceMethod yX3_changeShares, .selects RX3 yX3_changeShares yX3_changeShares, .initialized RX3, .code yX3_changeShares cX3_changeShares 4 none, .fieldLink RX3 19 "ChargeLines$Stages" "stays" "[I", .fieldLink RX3 22 "ChargeLines$Stages" "leaks" "[I"] ++ wsX30)
def wsJ7_fill_53178 : List Cond := .code yJ7_fill_53178 cJ7_fill_53178 4 none :: ([])
def wsX3_empty : List Cond := .code yX3_empty cX3_empty 1 none :: ([.fieldLink RX3 15 "ChargeLines$Stages" "charge" "[I", .fieldLink RX3 31 "ChargeLines$Stages" "given" "I", .fieldLink RX3 34 "ChargeLines$Stages" "cameOut" "I", .fieldLink RX3 37 "ChargeLines$Stages" "leaked" "I", .fieldLink RX3 40 "ChargeLines$Stages" "spilled" "I", .methodLink RX3 47 yJ7_fill_53178, .static yJ7_fill_53178, .initialized RJ7, .code yJ7_fill_53178 cJ7_fill_53178 4 none] ++ wsX30)
def wsX2_forget : List Cond := .code yX2_forget cX2_forget 1 none :: ([.fieldLink RX2 9 "ChargeLines$Pairs" "outputs" "[I", .fieldLink RX2 15 "ChargeLines$Pairs" "sizes" "[I", .methodLink RX2 24 yJ7_fill_53178, .static yJ7_fill_53178, .initialized RJ7, .code yJ7_fill_53178 cJ7_fill_53178 4 none] ++ wsX20)
def wsX1_startAnew_r1 : List Cond := [Cond.fieldLink RX1 12 "ChargeLines$Line" "stages" "LChargeLines$Stages;", Cond.fieldLink RX1 21 "ChargeLines$Line" "pairs" "LChargeLines$Pairs;", Cond.fieldLink RX1 62 "ChargeLines$Line" "handOvers" "I", Cond.fieldLink RX1 66 "ChargeLines$Line" "references" "I", Cond.methodLink RX1 69 yX3_changeMany, Cond.instanceMethod yX3_changeMany, Cond.selects RX3 yX3_changeMany yX3_changeMany, Cond.initialized RX3, Cond.code yX3_changeMany cX3_changeMany 3 none, Cond.fieldLink RX3 9 "ChargeLines$Stages" "many" "I", Cond.methodLink RX3 43 yX3_changeShares, Cond.instanceMethod yX3_changeShares, Cond.selects RX3 yX3_changeShares yX3_changeShares, Cond.code yX3_changeShares cX3_changeShares 4 none, Cond.fieldLink RX3 19 "ChargeLines$Stages" "stays" "[I", Cond.fieldLink RX3 22 "ChargeLines$Stages" "leaks" "[I", Cond.methodLink RX1 73 yX3_empty, Cond.instanceMethod yX3_empty, Cond.selects RX3 yX3_empty yX3_empty, Cond.code yX3_empty cX3_empty 1 none, Cond.fieldLink RX3 15 "ChargeLines$Stages" "charge" "[I", Cond.fieldLink RX3 31 "ChargeLines$Stages" "given" "I", Cond.fieldLink RX3 34 "ChargeLines$Stages" "cameOut" "I", Cond.fieldLink RX3 37 "ChargeLines$Stages" "leaked" "I"]
def wsX1_startAnew_r2 : List Cond := [Cond.fieldLink RX3 40 "ChargeLines$Stages" "spilled" "I", Cond.methodLink RX3 47 yJ7_fill_53178, Cond.static yJ7_fill_53178, Cond.initialized RJ7, Cond.code yJ7_fill_53178 cJ7_fill_53178 4 none, Cond.methodLink RX1 76 yX2_forget, Cond.instanceMethod yX2_forget, Cond.selects RX2 yX2_forget yX2_forget, Cond.initialized RX2, Cond.code yX2_forget cX2_forget 1 none, Cond.fieldLink RX2 9 "ChargeLines$Pairs" "outputs" "[I", Cond.fieldLink RX2 15 "ChargeLines$Pairs" "sizes" "[I", Cond.methodLink RX2 24 yJ7_fill_53178]
def wsX1_startAnew : List Cond := .code yX1_startAnew cX1_startAnew 2 none :: ((wsX1_startAnew_r1 ++ wsX1_startAnew_r2) ++ wsX10 ++ wsX30 ++ wsX20)
def wsX1_isForReference : List Cond := .code yX1_isForReference cX1_isForReference 3 (some .boolean) :: ([.fieldLink RX1 34 "ChargeLines$Line" "settings" "[I"] ++ wsX10)
def wsX1_nextReference : List Cond := .code yX1_nextReference cX1_nextReference 1 (some .int) :: ([.fieldLink RX1 66 "ChargeLines$Line" "references" "I"] ++ wsX10)
def wsX1_handOversBehind : List Cond := .code yX1_handOversBehind cX1_handOversBehind 4 (some .int) :: ([.fieldLink RX1 62 "ChargeLines$Line" "handOvers" "I", .methodLink RX1 79 yX1_isForReference, .instanceMethod yX1_isForReference, .selects RX1 yX1_isForReference yX1_isForReference, .initialized RX1, .code yX1_isForReference cX1_isForReference 3 (some .boolean), .fieldLink RX1 34 "ChargeLines$Line" "settings" "[I"] ++ wsX10)
def wsX3_staying : List Cond := .code yX3_staying cX3_staying 2 (some .int) :: ([.fieldLink RX3 15 "ChargeLines$Stages" "charge" "[I", .fieldLink RX3 19 "ChargeLines$Stages" "stays" "[I"] ++ wsX30)
def wsX3_leaking : List Cond := .code yX3_leaking cX3_leaking 2 (some .int) :: ([.fieldLink RX3 15 "ChargeLines$Stages" "charge" "[I", .fieldLink RX3 22 "ChargeLines$Stages" "leaks" "[I", .methodLink RX3 53 yX3_staying, .instanceMethod yX3_staying, .selects RX3 yX3_staying yX3_staying, .initialized RX3, .code yX3_staying cX3_staying 2 (some .int), .fieldLink RX3 19 "ChargeLines$Stages" "stays" "[I"] ++ wsX30)
def wsX3_handOver : List Cond := .code yX3_handOver cX3_handOver 9 (some .int) :: ([.fieldLink RX3 9 "ChargeLines$Stages" "many" "I", .fieldLink RX3 15 "ChargeLines$Stages" "charge" "[I", .methodLink RX3 60 Lib.Math.min.name, .static Lib.Math.min.name, .initialized "java/lang/Math", .code Lib.Math.min.name Lib.Math.min.code 2 (some .int), .fieldLink RX3 40 "ChargeLines$Stages" "spilled" "I", .fieldLink RX3 37 "ChargeLines$Stages" "leaked" "I", .fieldLink RX3 31 "ChargeLines$Stages" "given" "I", .fieldLink RX3 34 "ChargeLines$Stages" "cameOut" "I", .methodLink RX3 53 yX3_staying, .instanceMethod yX3_staying, .selects RX3 yX3_staying yX3_staying, .initialized RX3, .code yX3_staying cX3_staying 2 (some .int), .fieldLink RX3 19 "ChargeLines$Stages" "stays" "[I", .methodLink RX3 57 yX3_leaking, .instanceMethod yX3_leaking, .selects RX3 yX3_leaking yX3_leaking, .code yX3_leaking cX3_leaking 2 (some .int), .fieldLink RX3 22 "ChargeLines$Stages" "leaks" "[I"] ++ wsX30)
def wsX1_sourceSlot : List Cond := .code yX1_sourceSlot cX1_sourceSlot 2 (some .int) :: ([.fieldLink RX1 12 "ChargeLines$Line" "stages" "LChargeLines$Stages;", .fieldLink RX1 94 "ChargeLines$Stages" "many" "I"] ++ wsX10 ++ wsX30)
def wsX2_learn : List Cond := .code yX2_learn cX2_learn 4 none :: ([.fieldLink RX2 9 "ChargeLines$Pairs" "outputs" "[I", .fieldLink RX2 15 "ChargeLines$Pairs" "sizes" "[I"] ++ wsX20)
def wsX1_learnFrom : List Cond := .code yX1_learnFrom cX1_learnFrom 4 none :: ([.fieldLink RX1 40 "ChargeLines$Line" "referencesOfSamples" "[I", .fieldLink RX1 21 "ChargeLines$Line" "pairs" "LChargeLines$Pairs;", .fieldLink RX1 37 "ChargeLines$Line" "samples" "[I", .methodLink RX1 107 yX2_learn, .instanceMethod yX2_learn, .selects RX2 yX2_learn yX2_learn, .initialized RX2, .code yX2_learn cX2_learn 4 none, .fieldLink RX2 9 "ChargeLines$Pairs" "outputs" "[I", .fieldLink RX2 15 "ChargeLines$Pairs" "sizes" "[I"] ++ wsX10 ++ wsX20)
def wsX2_isKnown : List Cond := .code yX2_isKnown cX2_isKnown 2 (some .boolean) :: ([.fieldLink RX2 15 "ChargeLines$Pairs" "sizes" "[I"] ++ wsX20)
def wsX2_mendBy : List Cond := .code yX2_mendBy cX2_mendBy 6 (some .int) :: ([.fieldLink RX2 9 "ChargeLines$Pairs" "outputs" "[I", .constant RX2 34 (-2000004), .fieldLink RX2 15 "ChargeLines$Pairs" "sizes" "[I", .constantLong RX2 48 (1000000), .methodLink RX2 50 Lib.MathLoose.min_long.x, .static Lib.MathLoose.min_long.x, .initialized "java/lang/Math", .code Lib.MathLoose.min_long.x Lib.MathLoose.min_long.code 4 (some .long)] ++ wsX20)
def wsJ9_floorDiv_7cf53 : List Cond := .code yJ9_floorDiv_7cf53 cJ9_floorDiv_7cf53 3 (some .int) :: ([])
def wsX2_mendBetween : List Cond := .code yX2_mendBetween cX2_mendBetween 6 (some .int) :: ([.fieldLink RX2 9 "ChargeLines$Pairs" "outputs" "[I", .fieldLink RX2 15 "ChargeLines$Pairs" "sizes" "[I", .methodLink RX2 43 yJ9_floorDiv_7cf53, .static yJ9_floorDiv_7cf53, .initialized RJ9, .code yJ9_floorDiv_7cf53 cJ9_floorDiv_7cf53 3 (some .int)] ++ wsX20)
def wsX2_mend_r1 : List Cond := [Cond.fieldLink RX2 9 "ChargeLines$Pairs" "outputs" "[I", Cond.constant RX2 34 (-2000004), Cond.methodLink RX2 30 yX2_isKnown, Cond.instanceMethod yX2_isKnown, Cond.selects RX2 yX2_isKnown yX2_isKnown, Cond.initialized RX2, Cond.code yX2_isKnown cX2_isKnown 2 (some .boolean), Cond.fieldLink RX2 15 "ChargeLines$Pairs" "sizes" "[I", Cond.methodLink RX2 35 yX2_mendBy, Cond.instanceMethod yX2_mendBy, Cond.selects RX2 yX2_mendBy yX2_mendBy, Cond.code yX2_mendBy cX2_mendBy 6 (some .int), Cond.constantLong RX2 48 (1000000), Cond.methodLink RX2 50 Lib.MathLoose.min_long.x, Cond.static Lib.MathLoose.min_long.x, Cond.initialized "java/lang/Math", Cond.code Lib.MathLoose.min_long.x Lib.MathLoose.min_long.code 4 (some .long), Cond.methodLink RX2 39 yX2_mendBetween, Cond.instanceMethod yX2_mendBetween, Cond.selects RX2 yX2_mendBetween yX2_mendBetween, Cond.code yX2_mendBetween cX2_mendBetween 6 (some .int), Cond.methodLink RX2 43 yJ9_floorDiv_7cf53, Cond.static yJ9_floorDiv_7cf53, Cond.initialized RJ9]
def wsX2_mend_r2 : List Cond := [Cond.code yJ9_floorDiv_7cf53 cJ9_floorDiv_7cf53 3 (some .int)]
def wsX2_mend : List Cond := .code yX2_mend cX2_mend 6 (some .int) :: ((wsX2_mend_r1 ++ wsX2_mend_r2) ++ wsX20)
def wsX1_handOver_r1 : List Cond := [Cond.fieldLink RX1 12 "ChargeLines$Line" "stages" "LChargeLines$Stages;", Cond.fieldLink RX1 34 "ChargeLines$Line" "settings" "[I", Cond.fieldLink RX1 62 "ChargeLines$Line" "handOvers" "I", Cond.fieldLink RX1 37 "ChargeLines$Line" "samples" "[I", Cond.fieldLink RX1 40 "ChargeLines$Line" "referencesOfSamples" "[I", Cond.fieldLink RX1 43 "ChargeLines$Line" "outputs" "[I", Cond.fieldLink RX1 94 "ChargeLines$Stages" "many" "I", Cond.fieldLink RX1 46 "ChargeLines$Line" "mendedOutputs" "[I", Cond.fieldLink RX1 21 "ChargeLines$Line" "pairs" "LChargeLines$Pairs;", Cond.methodLink RX1 91 yX3_handOver, Cond.instanceMethod yX3_handOver, Cond.selects RX3 yX3_handOver yX3_handOver, Cond.initialized RX3, Cond.code yX3_handOver cX3_handOver 9 (some .int), Cond.fieldLink RX3 9 "ChargeLines$Stages" "many" "I", Cond.fieldLink RX3 15 "ChargeLines$Stages" "charge" "[I", Cond.methodLink RX3 60 Lib.Math.min.name, Cond.static Lib.Math.min.name, Cond.initialized "java/lang/Math", Cond.code Lib.Math.min.name Lib.Math.min.code 2 (some .int), Cond.fieldLink RX3 40 "ChargeLines$Stages" "spilled" "I", Cond.fieldLink RX3 37 "ChargeLines$Stages" "leaked" "I", Cond.fieldLink RX3 31 "ChargeLines$Stages" "given" "I", Cond.fieldLink RX3 34 "ChargeLines$Stages" "cameOut" "I"]
def wsX1_handOver_r2 : List Cond := [Cond.methodLink RX3 53 yX3_staying, Cond.instanceMethod yX3_staying, Cond.selects RX3 yX3_staying yX3_staying, Cond.code yX3_staying cX3_staying 2 (some .int), Cond.fieldLink RX3 19 "ChargeLines$Stages" "stays" "[I", Cond.methodLink RX3 57 yX3_leaking, Cond.instanceMethod yX3_leaking, Cond.selects RX3 yX3_leaking yX3_leaking, Cond.code yX3_leaking cX3_leaking 2 (some .int), Cond.fieldLink RX3 22 "ChargeLines$Stages" "leaks" "[I", Cond.methodLink RX1 97 yX1_sourceSlot, Cond.instanceMethod yX1_sourceSlot, Cond.selects RX1 yX1_sourceSlot yX1_sourceSlot, Cond.initialized RX1, Cond.code yX1_sourceSlot cX1_sourceSlot 2 (some .int), Cond.methodLink RX1 101 yX1_learnFrom, Cond.instanceMethod yX1_learnFrom, Cond.selects RX1 yX1_learnFrom yX1_learnFrom, Cond.code yX1_learnFrom cX1_learnFrom 4 none, Cond.methodLink RX1 107 yX2_learn, Cond.instanceMethod yX2_learn, Cond.selects RX2 yX2_learn yX2_learn, Cond.initialized RX2, Cond.code yX2_learn cX2_learn 4 none]
def wsX1_handOver_r3 : List Cond := [Cond.fieldLink RX2 9 "ChargeLines$Pairs" "outputs" "[I", Cond.fieldLink RX2 15 "ChargeLines$Pairs" "sizes" "[I", Cond.methodLink RX1 104 yX2_mend, Cond.instanceMethod yX2_mend, Cond.selects RX2 yX2_mend yX2_mend, Cond.code yX2_mend cX2_mend 6 (some .int), Cond.constant RX2 34 (-2000004), Cond.methodLink RX2 30 yX2_isKnown, Cond.instanceMethod yX2_isKnown, Cond.selects RX2 yX2_isKnown yX2_isKnown, Cond.code yX2_isKnown cX2_isKnown 2 (some .boolean), Cond.methodLink RX2 35 yX2_mendBy, Cond.instanceMethod yX2_mendBy, Cond.selects RX2 yX2_mendBy yX2_mendBy, Cond.code yX2_mendBy cX2_mendBy 6 (some .int), Cond.constantLong RX2 48 (1000000), Cond.methodLink RX2 50 Lib.MathLoose.min_long.x, Cond.static Lib.MathLoose.min_long.x, Cond.code Lib.MathLoose.min_long.x Lib.MathLoose.min_long.code 4 (some .long), Cond.methodLink RX2 39 yX2_mendBetween, Cond.instanceMethod yX2_mendBetween, Cond.selects RX2 yX2_mendBetween yX2_mendBetween, Cond.code yX2_mendBetween cX2_mendBetween 6 (some .int), Cond.methodLink RX2 43 yJ9_floorDiv_7cf53]
def wsX1_handOver_r4 : List Cond := [Cond.static yJ9_floorDiv_7cf53, Cond.initialized RJ9, Cond.code yJ9_floorDiv_7cf53 cJ9_floorDiv_7cf53 3 (some .int)]
def wsX1_handOver : List Cond := .code yX1_handOver cX1_handOver 5 none :: ((wsX1_handOver_r1 ++ (wsX1_handOver_r2 ++ (wsX1_handOver_r3 ++ wsX1_handOver_r4))) ++ wsX10 ++ wsX30 ++ wsX20)
def wsX1_take_r1 : List Cond := [Cond.fieldLink RX1 62 "ChargeLines$Line" "handOvers" "I", Cond.fieldLink RX1 66 "ChargeLines$Line" "references" "I", Cond.fieldLink RX1 34 "ChargeLines$Line" "settings" "[I", Cond.methodLink RX1 79 yX1_isForReference, Cond.instanceMethod yX1_isForReference, Cond.selects RX1 yX1_isForReference yX1_isForReference, Cond.initialized RX1, Cond.code yX1_isForReference cX1_isForReference 3 (some .boolean), Cond.methodLink RX1 83 yX1_nextReference, Cond.instanceMethod yX1_nextReference, Cond.selects RX1 yX1_nextReference yX1_nextReference, Cond.code yX1_nextReference cX1_nextReference 1 (some .int), Cond.methodLink RX1 87 yX1_handOver, Cond.instanceMethod yX1_handOver, Cond.selects RX1 yX1_handOver yX1_handOver, Cond.code yX1_handOver cX1_handOver 5 none, Cond.fieldLink RX1 12 "ChargeLines$Line" "stages" "LChargeLines$Stages;", Cond.fieldLink RX1 37 "ChargeLines$Line" "samples" "[I", Cond.fieldLink RX1 40 "ChargeLines$Line" "referencesOfSamples" "[I", Cond.fieldLink RX1 43 "ChargeLines$Line" "outputs" "[I", Cond.fieldLink RX1 94 "ChargeLines$Stages" "many" "I", Cond.fieldLink RX1 46 "ChargeLines$Line" "mendedOutputs" "[I", Cond.fieldLink RX1 21 "ChargeLines$Line" "pairs" "LChargeLines$Pairs;", Cond.methodLink RX1 91 yX3_handOver]
def wsX1_take_r2 : List Cond := [Cond.instanceMethod yX3_handOver, Cond.selects RX3 yX3_handOver yX3_handOver, Cond.initialized RX3, Cond.code yX3_handOver cX3_handOver 9 (some .int), Cond.fieldLink RX3 9 "ChargeLines$Stages" "many" "I", Cond.fieldLink RX3 15 "ChargeLines$Stages" "charge" "[I", Cond.methodLink RX3 60 Lib.Math.min.name, Cond.static Lib.Math.min.name, Cond.initialized "java/lang/Math", Cond.code Lib.Math.min.name Lib.Math.min.code 2 (some .int), Cond.fieldLink RX3 40 "ChargeLines$Stages" "spilled" "I", Cond.fieldLink RX3 37 "ChargeLines$Stages" "leaked" "I", Cond.fieldLink RX3 31 "ChargeLines$Stages" "given" "I", Cond.fieldLink RX3 34 "ChargeLines$Stages" "cameOut" "I", Cond.methodLink RX3 53 yX3_staying, Cond.instanceMethod yX3_staying, Cond.selects RX3 yX3_staying yX3_staying, Cond.code yX3_staying cX3_staying 2 (some .int), Cond.fieldLink RX3 19 "ChargeLines$Stages" "stays" "[I", Cond.methodLink RX3 57 yX3_leaking, Cond.instanceMethod yX3_leaking, Cond.selects RX3 yX3_leaking yX3_leaking, Cond.code yX3_leaking cX3_leaking 2 (some .int), Cond.fieldLink RX3 22 "ChargeLines$Stages" "leaks" "[I"]
def wsX1_take_r3 : List Cond := [Cond.methodLink RX1 97 yX1_sourceSlot, Cond.instanceMethod yX1_sourceSlot, Cond.selects RX1 yX1_sourceSlot yX1_sourceSlot, Cond.code yX1_sourceSlot cX1_sourceSlot 2 (some .int), Cond.methodLink RX1 101 yX1_learnFrom, Cond.instanceMethod yX1_learnFrom, Cond.selects RX1 yX1_learnFrom yX1_learnFrom, Cond.code yX1_learnFrom cX1_learnFrom 4 none, Cond.methodLink RX1 107 yX2_learn, Cond.instanceMethod yX2_learn, Cond.selects RX2 yX2_learn yX2_learn, Cond.initialized RX2, Cond.code yX2_learn cX2_learn 4 none, Cond.fieldLink RX2 9 "ChargeLines$Pairs" "outputs" "[I", Cond.fieldLink RX2 15 "ChargeLines$Pairs" "sizes" "[I", Cond.methodLink RX1 104 yX2_mend, Cond.instanceMethod yX2_mend, Cond.selects RX2 yX2_mend yX2_mend, Cond.code yX2_mend cX2_mend 6 (some .int), Cond.constant RX2 34 (-2000004), Cond.methodLink RX2 30 yX2_isKnown, Cond.instanceMethod yX2_isKnown, Cond.selects RX2 yX2_isKnown yX2_isKnown, Cond.code yX2_isKnown cX2_isKnown 2 (some .boolean)]
def wsX1_take_r4 : List Cond := [Cond.methodLink RX2 35 yX2_mendBy, Cond.instanceMethod yX2_mendBy, Cond.selects RX2 yX2_mendBy yX2_mendBy, Cond.code yX2_mendBy cX2_mendBy 6 (some .int), Cond.constantLong RX2 48 (1000000), Cond.methodLink RX2 50 Lib.MathLoose.min_long.x, Cond.static Lib.MathLoose.min_long.x, Cond.code Lib.MathLoose.min_long.x Lib.MathLoose.min_long.code 4 (some .long), Cond.methodLink RX2 39 yX2_mendBetween, Cond.instanceMethod yX2_mendBetween, Cond.selects RX2 yX2_mendBetween yX2_mendBetween, Cond.code yX2_mendBetween cX2_mendBetween 6 (some .int), Cond.methodLink RX2 43 yJ9_floorDiv_7cf53, Cond.static yJ9_floorDiv_7cf53, Cond.initialized RJ9, Cond.code yJ9_floorDiv_7cf53 cJ9_floorDiv_7cf53 3 (some .int)]
def wsX1_take : List Cond := .code yX1_take cX1_take 3 none :: ((wsX1_take_r1 ++ (wsX1_take_r2 ++ (wsX1_take_r3 ++ wsX1_take_r4))) ++ wsX10 ++ wsX30 ++ wsX20)
def wsX1_keptOutputs : List Cond := .code yX1_keptOutputs cX1_keptOutputs 1 (some .int) :: ([.fieldLink RX1 62 "ChargeLines$Line" "handOvers" "I", .fieldLink RX1 12 "ChargeLines$Line" "stages" "LChargeLines$Stages;", .fieldLink RX1 94 "ChargeLines$Stages" "many" "I", .methodLink RX1 111 Lib.Math.min.name, .static Lib.Math.min.name, .initialized "java/lang/Math", .code Lib.Math.min.name Lib.Math.min.code 2 (some .int), .methodLink RX1 116 Lib.Math.max.name, .static Lib.Math.max.name, .code Lib.Math.max.name Lib.Math.max.code 2 (some .int)] ++ wsX10 ++ wsX30)
def wsX1_isOfReference : List Cond := .code yX1_isOfReference cX1_isOfReference 2 (some .boolean) :: ([.fieldLink RX1 40 "ChargeLines$Line" "referencesOfSamples" "[I", .methodLink RX1 97 yX1_sourceSlot, .instanceMethod yX1_sourceSlot, .selects RX1 yX1_sourceSlot yX1_sourceSlot, .initialized RX1, .code yX1_sourceSlot cX1_sourceSlot 2 (some .int), .fieldLink RX1 12 "ChargeLines$Line" "stages" "LChargeLines$Stages;", .fieldLink RX1 94 "ChargeLines$Stages" "many" "I"] ++ wsX10 ++ wsX30)
def wsX1_errorOf : List Cond := .code yX1_errorOf cX1_errorOf 4 (some .int) :: ([.fieldLink RX1 46 "ChargeLines$Line" "mendedOutputs" "[I", .constant RX1 119 (-2000004), .fieldLink RX1 43 "ChargeLines$Line" "outputs" "[I", .fieldLink RX1 37 "ChargeLines$Line" "samples" "[I", .methodLink RX1 97 yX1_sourceSlot, .instanceMethod yX1_sourceSlot, .selects RX1 yX1_sourceSlot yX1_sourceSlot, .initialized RX1, .code yX1_sourceSlot cX1_sourceSlot 2 (some .int), .fieldLink RX1 12 "ChargeLines$Line" "stages" "LChargeLines$Stages;", .fieldLink RX1 94 "ChargeLines$Stages" "many" "I"] ++ wsX10 ++ wsX30)
def wsX2_known : List Cond := .code yX2_known cX2_known 3 (some .int) :: ([.methodLink RX2 30 yX2_isKnown, .instanceMethod yX2_isKnown, .selects RX2 yX2_isKnown yX2_isKnown, .initialized RX2, .code yX2_isKnown cX2_isKnown 2 (some .boolean), .fieldLink RX2 15 "ChargeLines$Pairs" "sizes" "[I"] ++ wsX20)
def wsX3_has : List Cond := .code yX3_has cX3_has 2 (some .boolean) :: ([.fieldLink RX3 9 "ChargeLines$Stages" "many" "I"] ++ wsX30)
def wsX3_inStages : List Cond := .code yX3_inStages cX3_inStages 3 (some .int) :: ([.fieldLink RX3 9 "ChargeLines$Stages" "many" "I", .fieldLink RX3 15 "ChargeLines$Stages" "charge" "[I"] ++ wsX30)
def wsX3_leaving : List Cond := .code yX3_leaving cX3_leaving 2 (some .int) :: ([.fieldLink RX3 15 "ChargeLines$Stages" "charge" "[I", .methodLink RX3 53 yX3_staying, .instanceMethod yX3_staying, .selects RX3 yX3_staying yX3_staying, .initialized RX3, .code yX3_staying cX3_staying 2 (some .int), .fieldLink RX3 19 "ChargeLines$Stages" "stays" "[I", .methodLink RX3 57 yX3_leaking, .instanceMethod yX3_leaking, .selects RX3 yX3_leaking yX3_leaking, .code yX3_leaking cX3_leaking 2 (some .int), .fieldLink RX3 22 "ChargeLines$Stages" "leaks" "[I"] ++ wsX30)
def wsX3_outputOfLone_r1 : List Cond := [Cond.methodLink RX3 66 yX3_empty, Cond.instanceMethod yX3_empty, Cond.selects RX3 yX3_empty yX3_empty, Cond.initialized RX3, Cond.code yX3_empty cX3_empty 1 none, Cond.fieldLink RX3 15 "ChargeLines$Stages" "charge" "[I", Cond.fieldLink RX3 31 "ChargeLines$Stages" "given" "I", Cond.fieldLink RX3 34 "ChargeLines$Stages" "cameOut" "I", Cond.fieldLink RX3 37 "ChargeLines$Stages" "leaked" "I", Cond.fieldLink RX3 40 "ChargeLines$Stages" "spilled" "I", Cond.methodLink RX3 47 yJ7_fill_53178, Cond.static yJ7_fill_53178, Cond.initialized RJ7, Cond.code yJ7_fill_53178 cJ7_fill_53178 4 none, Cond.methodLink RX3 69 yX3_handOver, Cond.instanceMethod yX3_handOver, Cond.selects RX3 yX3_handOver yX3_handOver, Cond.code yX3_handOver cX3_handOver 9 (some .int), Cond.fieldLink RX3 9 "ChargeLines$Stages" "many" "I", Cond.methodLink RX3 60 Lib.Math.min.name, Cond.static Lib.Math.min.name, Cond.initialized "java/lang/Math", Cond.code Lib.Math.min.name Lib.Math.min.code 2 (some .int), Cond.methodLink RX3 53 yX3_staying]
def wsX3_outputOfLone_r2 : List Cond := [Cond.instanceMethod yX3_staying, Cond.selects RX3 yX3_staying yX3_staying, Cond.code yX3_staying cX3_staying 2 (some .int), Cond.fieldLink RX3 19 "ChargeLines$Stages" "stays" "[I", Cond.methodLink RX3 57 yX3_leaking, Cond.instanceMethod yX3_leaking, Cond.selects RX3 yX3_leaking yX3_leaking, Cond.code yX3_leaking cX3_leaking 2 (some .int), Cond.fieldLink RX3 22 "ChargeLines$Stages" "leaks" "[I"]
def wsX3_outputOfLone : List Cond := .code yX3_outputOfLone cX3_outputOfLone 6 (some .int) :: ((wsX3_outputOfLone_r1 ++ wsX3_outputOfLone_r2) ++ wsX30)
def wsX3_holds_r1 : List Cond := [Cond.fieldLink RX3 40 "ChargeLines$Stages" "spilled" "I", Cond.methodLink RX3 66 yX3_empty, Cond.instanceMethod yX3_empty, Cond.selects RX3 yX3_empty yX3_empty, Cond.initialized RX3, Cond.code yX3_empty cX3_empty 1 none, Cond.fieldLink RX3 15 "ChargeLines$Stages" "charge" "[I", Cond.fieldLink RX3 31 "ChargeLines$Stages" "given" "I", Cond.fieldLink RX3 34 "ChargeLines$Stages" "cameOut" "I", Cond.fieldLink RX3 37 "ChargeLines$Stages" "leaked" "I", Cond.methodLink RX3 47 yJ7_fill_53178, Cond.static yJ7_fill_53178, Cond.initialized RJ7, Cond.code yJ7_fill_53178 cJ7_fill_53178 4 none, Cond.methodLink RX3 69 yX3_handOver, Cond.instanceMethod yX3_handOver, Cond.selects RX3 yX3_handOver yX3_handOver, Cond.code yX3_handOver cX3_handOver 9 (some .int), Cond.fieldLink RX3 9 "ChargeLines$Stages" "many" "I", Cond.methodLink RX3 60 Lib.Math.min.name, Cond.static Lib.Math.min.name, Cond.initialized "java/lang/Math", Cond.code Lib.Math.min.name Lib.Math.min.code 2 (some .int), Cond.methodLink RX3 53 yX3_staying]
def wsX3_holds_r2 : List Cond := [Cond.instanceMethod yX3_staying, Cond.selects RX3 yX3_staying yX3_staying, Cond.code yX3_staying cX3_staying 2 (some .int), Cond.fieldLink RX3 19 "ChargeLines$Stages" "stays" "[I", Cond.methodLink RX3 57 yX3_leaking, Cond.instanceMethod yX3_leaking, Cond.selects RX3 yX3_leaking yX3_leaking, Cond.code yX3_leaking cX3_leaking 2 (some .int), Cond.fieldLink RX3 22 "ChargeLines$Stages" "leaks" "[I"]
def wsX3_holds : List Cond := .code yX3_holds cX3_holds 5 (some .boolean) :: ((wsX3_holds_r1 ++ wsX3_holds_r2) ++ wsX30)
def wsX4_init : List Cond := .code yX4_init cX4_init 1 none :: ([.methodLink RX4 3 objectInit, .instanceMethod objectInit, .code objectInit ⟨#[0xb1]⟩ 1 none, .arrayClass .char, .fieldLink RX4 9 "ChargeLines$Text" "signs" "[C", .arrayClass .int, .fieldLink RX4 15 "ChargeLines$Text" "numbers" "[I"] ++ wsX40)
def wsX4_append : List Cond := .code yX4_append cX4_append 2 none :: ([.fieldLink RX4 19 "ChargeLines$Text" "length" "I", .fieldLink RX4 9 "ChargeLines$Text" "signs" "[C"] ++ wsX40)
def wsX4_clear : List Cond := .code yX4_clear cX4_clear 1 none :: ([.fieldLink RX4 19 "ChargeLines$Text" "length" "I"] ++ wsX40)
def wsX4_reads : List Cond := .code yX4_reads cX4_reads 2 (some .boolean) :: ([.fieldLink RX4 40 "ChargeLines$Text" "at" "I", .fieldLink RX4 19 "ChargeLines$Text" "length" "I", .fieldLink RX4 9 "ChargeLines$Text" "signs" "[C"] ++ wsX40)
def wsX4_atDigit : List Cond := .code yX4_atDigit cX4_atDigit 1 (some .boolean) :: ([.fieldLink RX4 40 "ChargeLines$Text" "at" "I", .fieldLink RX4 19 "ChargeLines$Text" "length" "I", .fieldLink RX4 9 "ChargeLines$Text" "signs" "[C"] ++ wsX40)
def wsX4_readsNumber : List Cond := .code yX4_readsNumber cX4_readsNumber 5 (some .boolean) :: ([.fieldLink RX4 9 "ChargeLines$Text" "signs" "[C", .fieldLink RX4 40 "ChargeLines$Text" "at" "I", .fieldLink RX4 15 "ChargeLines$Text" "numbers" "[I", .methodLink RX4 62 yX4_atDigit, .instanceMethod yX4_atDigit, .selects RX4 yX4_atDigit yX4_atDigit, .initialized RX4, .code yX4_atDigit cX4_atDigit 1 (some .boolean), .fieldLink RX4 19 "ChargeLines$Text" "length" "I"] ++ wsX40)
def wsX4_readForm : List Cond := .code yX4_readForm cX4_readForm 1 (some .boolean) :: ([.fieldLink RX4 36 "ChargeLines$Text" "kind" "C", .methodLink RX4 54 yX4_reads, .instanceMethod yX4_reads, .selects RX4 yX4_reads yX4_reads, .initialized RX4, .code yX4_reads cX4_reads 2 (some .boolean), .fieldLink RX4 40 "ChargeLines$Text" "at" "I", .fieldLink RX4 19 "ChargeLines$Text" "length" "I", .fieldLink RX4 9 "ChargeLines$Text" "signs" "[C", .methodLink RX4 58 yX4_readsNumber, .instanceMethod yX4_readsNumber, .selects RX4 yX4_readsNumber yX4_readsNumber, .code yX4_readsNumber cX4_readsNumber 5 (some .boolean), .fieldLink RX4 15 "ChargeLines$Text" "numbers" "[I", .methodLink RX4 62 yX4_atDigit, .instanceMethod yX4_atDigit, .selects RX4 yX4_atDigit yX4_atDigit, .code yX4_atDigit cX4_atDigit 1 (some .boolean)] ++ wsX40)
def wsX4_findOutOfRange : List Cond := .code yX4_findOutOfRange cX4_findOutOfRange 4 none :: ([.fieldLink RX4 36 "ChargeLines$Text" "kind" "C", .fieldLink RX4 33 "ChargeLines$Text" "reason" "I", .fieldLink RX4 15 "ChargeLines$Text" "numbers" "[I", .fieldLink RX4 44 "ChargeLines$Text" "cause" "I"] ++ wsX40)
def wsX4_readPart_r1 : List Cond := [Cond.fieldLink RX4 40 "ChargeLines$Text" "at" "I", Cond.fieldLink RX4 33 "ChargeLines$Text" "reason" "I", Cond.constant RX4 43 (-2000004), Cond.fieldLink RX4 44 "ChargeLines$Text" "cause" "I", Cond.fieldLink RX4 36 "ChargeLines$Text" "kind" "C", Cond.fieldLink RX4 15 "ChargeLines$Text" "numbers" "[I", Cond.methodLink RX4 47 yX4_readForm, Cond.instanceMethod yX4_readForm, Cond.selects RX4 yX4_readForm yX4_readForm, Cond.initialized RX4, Cond.code yX4_readForm cX4_readForm 1 (some .boolean), Cond.methodLink RX4 54 yX4_reads, Cond.instanceMethod yX4_reads, Cond.selects RX4 yX4_reads yX4_reads, Cond.code yX4_reads cX4_reads 2 (some .boolean), Cond.fieldLink RX4 19 "ChargeLines$Text" "length" "I", Cond.fieldLink RX4 9 "ChargeLines$Text" "signs" "[C", Cond.methodLink RX4 58 yX4_readsNumber, Cond.instanceMethod yX4_readsNumber, Cond.selects RX4 yX4_readsNumber yX4_readsNumber, Cond.code yX4_readsNumber cX4_readsNumber 5 (some .boolean), Cond.methodLink RX4 62 yX4_atDigit, Cond.instanceMethod yX4_atDigit, Cond.selects RX4 yX4_atDigit yX4_atDigit]
def wsX4_readPart_r2 : List Cond := [Cond.code yX4_atDigit cX4_atDigit 1 (some .boolean), Cond.methodLink RX4 51 yX4_findOutOfRange, Cond.instanceMethod yX4_findOutOfRange, Cond.selects RX4 yX4_findOutOfRange yX4_findOutOfRange, Cond.code yX4_findOutOfRange cX4_findOutOfRange 4 none]
def wsX4_readPart : List Cond := .code yX4_readPart cX4_readPart 3 none :: ((wsX4_readPart_r1 ++ wsX4_readPart_r2) ++ wsX40)
def wsX4_faultPosition_r1 : List Cond := [Cond.fieldLink RX4 23 "ChargeLines$Text" "parts" "I", Cond.fieldLink RX4 26 "ChargeLines$Text" "samples" "I", Cond.fieldLink RX4 19 "ChargeLines$Text" "length" "I", Cond.fieldLink RX4 33 "ChargeLines$Text" "reason" "I", Cond.fieldLink RX4 36 "ChargeLines$Text" "kind" "C", Cond.fieldLink RX4 40 "ChargeLines$Text" "at" "I", Cond.constant RX4 43 (-2000004), Cond.methodLink RX4 29 yX4_readPart, Cond.instanceMethod yX4_readPart, Cond.selects RX4 yX4_readPart yX4_readPart, Cond.initialized RX4, Cond.code yX4_readPart cX4_readPart 3 none, Cond.fieldLink RX4 44 "ChargeLines$Text" "cause" "I", Cond.fieldLink RX4 15 "ChargeLines$Text" "numbers" "[I", Cond.methodLink RX4 47 yX4_readForm, Cond.instanceMethod yX4_readForm, Cond.selects RX4 yX4_readForm yX4_readForm, Cond.code yX4_readForm cX4_readForm 1 (some .boolean), Cond.methodLink RX4 54 yX4_reads, Cond.instanceMethod yX4_reads, Cond.selects RX4 yX4_reads yX4_reads, Cond.code yX4_reads cX4_reads 2 (some .boolean), Cond.fieldLink RX4 9 "ChargeLines$Text" "signs" "[C", Cond.methodLink RX4 58 yX4_readsNumber]
def wsX4_faultPosition_r2 : List Cond := [Cond.instanceMethod yX4_readsNumber, Cond.selects RX4 yX4_readsNumber yX4_readsNumber, Cond.code yX4_readsNumber cX4_readsNumber 5 (some .boolean), Cond.methodLink RX4 62 yX4_atDigit, Cond.instanceMethod yX4_atDigit, Cond.selects RX4 yX4_atDigit yX4_atDigit, Cond.code yX4_atDigit cX4_atDigit 1 (some .boolean), Cond.methodLink RX4 51 yX4_findOutOfRange, Cond.instanceMethod yX4_findOutOfRange, Cond.selects RX4 yX4_findOutOfRange yX4_findOutOfRange, Cond.code yX4_findOutOfRange cX4_findOutOfRange 4 none]
def wsX4_faultPosition : List Cond := .code yX4_faultPosition cX4_faultPosition 3 (some .int) :: ((wsX4_faultPosition_r1 ++ wsX4_faultPosition_r2) ++ wsX40)
def wsX5_init_r1 : List Cond := [Cond.methodLink RX5 3 objectInit, Cond.instanceMethod objectInit, Cond.code objectInit ⟨#[0xb1]⟩ 1 none, Cond.classLink RX5 9 RX1, Cond.instantiable RX1 9, Cond.initialized RX1, Cond.fieldLink RX5 12 "ChargeLines" "line" "LChargeLines$Line;", Cond.classLink RX5 16 RX0, Cond.instantiable RX0 3, Cond.initialized RX0, Cond.fieldLink RX5 19 "ChargeLines" "history" "LChargeLines$History;", Cond.classLink RX5 23 RX4, Cond.instantiable RX4 9, Cond.initialized RX4, Cond.fieldLink RX5 26 "ChargeLines" "text" "LChargeLines$Text;", Cond.classLink RX5 30 RX3, Cond.instantiable RX3 8, Cond.initialized RX3, Cond.fieldLink RX5 33 "ChargeLines" "trial" "LChargeLines$Stages;", Cond.instanceMethod yX1_init, Cond.code yX1_init cX1_init 1 none, Cond.methodLink RX1 3 objectInit, Cond.classLink RX1 9 RX3, Cond.fieldLink RX1 12 "ChargeLines$Line" "stages" "LChargeLines$Stages;"]
def wsX5_init_r2 : List Cond := [Cond.classLink RX1 18 RX2, Cond.instantiable RX2 2, Cond.initialized RX2, Cond.fieldLink RX1 21 "ChargeLines$Line" "pairs" "LChargeLines$Pairs;", Cond.methodLink RX1 29 ⟨"[I", "clone", "()Ljava/lang/Object;"⟩, Cond.sameMethod "[I" "java/lang/Object" "clone" "()Ljava/lang/Object;", Cond.native ⟨"java/lang/Object", "clone", "()Ljava/lang/Object;"⟩, Cond.instanceMethod ⟨"java/lang/Object", "clone", "()Ljava/lang/Object;"⟩, Cond.selects "[I" ⟨"[I", "clone", "()Ljava/lang/Object;"⟩ ⟨"java/lang/Object", "clone", "()Ljava/lang/Object;"⟩, Cond.classLink RX1 30 "[I", Cond.fieldLink RX1 34 "ChargeLines$Line" "settings" "[I", Cond.arrayClass .int, Cond.fieldLink RX1 37 "ChargeLines$Line" "samples" "[I", Cond.fieldLink RX1 40 "ChargeLines$Line" "referencesOfSamples" "[I", Cond.fieldLink RX1 43 "ChargeLines$Line" "outputs" "[I", Cond.fieldLink RX1 46 "ChargeLines$Line" "mendedOutputs" "[I", Cond.instanceMethod yX3_init, Cond.code yX3_init cX3_init 1 none, Cond.methodLink RX3 3 objectInit, Cond.fieldLink RX3 9 "ChargeLines$Stages" "many" "I", Cond.fieldLink RX3 15 "ChargeLines$Stages" "charge" "[I", Cond.fieldLink RX3 19 "ChargeLines$Stages" "stays" "[I", Cond.fieldLink RX3 22 "ChargeLines$Stages" "leaks" "[I", Cond.instanceMethod yX2_init]
def wsX5_init_r3 : List Cond := [Cond.code yX2_init cX2_init 1 none, Cond.methodLink RX2 3 objectInit, Cond.fieldLink RX2 9 "ChargeLines$Pairs" "outputs" "[I", Cond.fieldLink RX2 15 "ChargeLines$Pairs" "sizes" "[I", Cond.methodLink RX5 18 yX0_init, Cond.instanceMethod yX0_init, Cond.code yX0_init cX0_init 2 none, Cond.methodLink RX0 3 objectInit, Cond.classLink RX0 9 RX1, Cond.fieldLink RX0 11 "ChargeLines$History" "states" "[LChargeLines$Line;", Cond.instanceMethod yX4_init, Cond.code yX4_init cX4_init 1 none, Cond.methodLink RX4 3 objectInit, Cond.arrayClass .char, Cond.fieldLink RX4 9 "ChargeLines$Text" "signs" "[C", Cond.fieldLink RX4 15 "ChargeLines$Text" "numbers" "[I"]
def wsX5_init : List Cond := .code yX5_init cX5_init 1 none :: ((wsX5_init_r1 ++ (wsX5_init_r2 ++ wsX5_init_r3)) ++ wsX10 ++ wsX50 ++ wsX00 ++ wsX40 ++ wsX30 ++ wsX20)
def wsX5_outside : List Cond := .code yX5_outside cX5_outside 3 (some .boolean) :: ([])
def wsX5_begin_r1 : List Cond := [Cond.constant RX5 41 (-2000001), Cond.fieldLink RX5 12 "ChargeLines" "line" "LChargeLines$Line;", Cond.fieldLink RX5 42 "ChargeLines$Line" "handOvers" "I", Cond.fieldLink RX5 19 "ChargeLines" "history" "LChargeLines$History;", Cond.methodLink RX5 37 yX5_outside, Cond.static yX5_outside, Cond.initialized RX5, Cond.code yX5_outside cX5_outside 3 (some .boolean), Cond.methodLink RX5 46 yX0_keep, Cond.instanceMethod yX0_keep, Cond.selects RX0 yX0_keep yX0_keep, Cond.initialized RX0, Cond.code yX0_keep cX0_keep 2 none, Cond.fieldLink RX0 18 "ChargeLines$History" "many" "I", Cond.fieldLink RX0 22 "ChargeLines$History" "first" "I", Cond.fieldLink RX0 11 "ChargeLines$History" "states" "[LChargeLines$Line;", Cond.methodLink RX0 25 yX1_copyFrom, Cond.instanceMethod yX1_copyFrom, Cond.selects RX1 yX1_copyFrom yX1_copyFrom, Cond.initialized RX1, Cond.code yX1_copyFrom cX1_copyFrom 2 none, Cond.fieldLink RX1 12 "ChargeLines$Line" "stages" "LChargeLines$Stages;", Cond.fieldLink RX1 21 "ChargeLines$Line" "pairs" "LChargeLines$Pairs;", Cond.fieldLink RX1 34 "ChargeLines$Line" "settings" "[I"]
def wsX5_begin_r2 : List Cond := [Cond.methodLink RX1 56 arraycopyName, Cond.native arraycopyName, Cond.static arraycopyName, Cond.initialized "java/lang/System", Cond.fieldLink RX1 62 "ChargeLines$Line" "handOvers" "I", Cond.fieldLink RX1 66 "ChargeLines$Line" "references" "I", Cond.fieldLink RX1 37 "ChargeLines$Line" "samples" "[I", Cond.fieldLink RX1 40 "ChargeLines$Line" "referencesOfSamples" "[I", Cond.fieldLink RX1 43 "ChargeLines$Line" "outputs" "[I", Cond.fieldLink RX1 46 "ChargeLines$Line" "mendedOutputs" "[I", Cond.methodLink RX1 49 yX3_copyFrom, Cond.instanceMethod yX3_copyFrom, Cond.selects RX3 yX3_copyFrom yX3_copyFrom, Cond.initialized RX3, Cond.code yX3_copyFrom cX3_copyFrom 2 none, Cond.fieldLink RX3 9 "ChargeLines$Stages" "many" "I", Cond.fieldLink RX3 15 "ChargeLines$Stages" "charge" "[I", Cond.methodLink RX3 25 arraycopyName, Cond.fieldLink RX3 19 "ChargeLines$Stages" "stays" "[I", Cond.fieldLink RX3 22 "ChargeLines$Stages" "leaks" "[I", Cond.fieldLink RX3 31 "ChargeLines$Stages" "given" "I", Cond.fieldLink RX3 34 "ChargeLines$Stages" "cameOut" "I", Cond.fieldLink RX3 37 "ChargeLines$Stages" "leaked" "I", Cond.fieldLink RX3 40 "ChargeLines$Stages" "spilled" "I"]
def wsX5_begin_r3 : List Cond := [Cond.methodLink RX1 53 yX2_copyFrom, Cond.instanceMethod yX2_copyFrom, Cond.selects RX2 yX2_copyFrom yX2_copyFrom, Cond.initialized RX2, Cond.code yX2_copyFrom cX2_copyFrom 2 none, Cond.fieldLink RX2 9 "ChargeLines$Pairs" "outputs" "[I", Cond.methodLink RX2 18 arraycopyName, Cond.fieldLink RX2 15 "ChargeLines$Pairs" "sizes" "[I", Cond.methodLink RX5 50 yX1_startAnew, Cond.instanceMethod yX1_startAnew, Cond.selects RX1 yX1_startAnew yX1_startAnew, Cond.code yX1_startAnew cX1_startAnew 2 none, Cond.methodLink RX1 69 yX3_changeMany, Cond.instanceMethod yX3_changeMany, Cond.selects RX3 yX3_changeMany yX3_changeMany, Cond.code yX3_changeMany cX3_changeMany 3 none, Cond.methodLink RX3 43 yX3_changeShares, Cond.instanceMethod yX3_changeShares, Cond.selects RX3 yX3_changeShares yX3_changeShares, Cond.code yX3_changeShares cX3_changeShares 4 none, Cond.methodLink RX1 73 yX3_empty, Cond.instanceMethod yX3_empty, Cond.selects RX3 yX3_empty yX3_empty, Cond.code yX3_empty cX3_empty 1 none]
def wsX5_begin_r4 : List Cond := [Cond.methodLink RX3 47 yJ7_fill_53178, Cond.static yJ7_fill_53178, Cond.initialized RJ7, Cond.code yJ7_fill_53178 cJ7_fill_53178 4 none, Cond.methodLink RX1 76 yX2_forget, Cond.instanceMethod yX2_forget, Cond.selects RX2 yX2_forget yX2_forget, Cond.code yX2_forget cX2_forget 1 none, Cond.methodLink RX2 24 yJ7_fill_53178]
def wsX5_begin : List Cond := .code yX5_begin cX5_begin 3 (some .int) :: ((wsX5_begin_r1 ++ (wsX5_begin_r2 ++ (wsX5_begin_r3 ++ wsX5_begin_r4))) ++ wsX50 ++ wsX10 ++ wsX00 ++ wsX30 ++ wsX20)
def wsX5_stage_r1 : List Cond := [Cond.fieldLink RX5 12 "ChargeLines" "line" "LChargeLines$Line;", Cond.fieldLink RX5 54 "ChargeLines$Line" "stages" "LChargeLines$Stages;", Cond.constant RX5 41 (-2000001), Cond.fieldLink RX5 61 "ChargeLines$Stages" "stays" "[I", Cond.fieldLink RX5 65 "ChargeLines$Stages" "leaks" "[I", Cond.fieldLink RX5 19 "ChargeLines" "history" "LChargeLines$History;", Cond.methodLink RX5 57 yX3_has, Cond.instanceMethod yX3_has, Cond.selects RX3 yX3_has yX3_has, Cond.initialized RX3, Cond.code yX3_has cX3_has 2 (some .boolean), Cond.fieldLink RX3 9 "ChargeLines$Stages" "many" "I", Cond.methodLink RX5 37 yX5_outside, Cond.static yX5_outside, Cond.initialized RX5, Cond.code yX5_outside cX5_outside 3 (some .boolean), Cond.methodLink RX5 46 yX0_keep, Cond.instanceMethod yX0_keep, Cond.selects RX0 yX0_keep yX0_keep, Cond.initialized RX0, Cond.code yX0_keep cX0_keep 2 none, Cond.fieldLink RX0 18 "ChargeLines$History" "many" "I", Cond.fieldLink RX0 22 "ChargeLines$History" "first" "I", Cond.fieldLink RX0 11 "ChargeLines$History" "states" "[LChargeLines$Line;"]
def wsX5_stage_r2 : List Cond := [Cond.methodLink RX0 25 yX1_copyFrom, Cond.instanceMethod yX1_copyFrom, Cond.selects RX1 yX1_copyFrom yX1_copyFrom, Cond.initialized RX1, Cond.code yX1_copyFrom cX1_copyFrom 2 none, Cond.fieldLink RX1 12 "ChargeLines$Line" "stages" "LChargeLines$Stages;", Cond.fieldLink RX1 21 "ChargeLines$Line" "pairs" "LChargeLines$Pairs;", Cond.fieldLink RX1 34 "ChargeLines$Line" "settings" "[I", Cond.methodLink RX1 56 arraycopyName, Cond.native arraycopyName, Cond.static arraycopyName, Cond.initialized "java/lang/System", Cond.fieldLink RX1 62 "ChargeLines$Line" "handOvers" "I", Cond.fieldLink RX1 66 "ChargeLines$Line" "references" "I", Cond.fieldLink RX1 37 "ChargeLines$Line" "samples" "[I", Cond.fieldLink RX1 40 "ChargeLines$Line" "referencesOfSamples" "[I", Cond.fieldLink RX1 43 "ChargeLines$Line" "outputs" "[I", Cond.fieldLink RX1 46 "ChargeLines$Line" "mendedOutputs" "[I", Cond.methodLink RX1 49 yX3_copyFrom, Cond.instanceMethod yX3_copyFrom, Cond.selects RX3 yX3_copyFrom yX3_copyFrom, Cond.code yX3_copyFrom cX3_copyFrom 2 none, Cond.fieldLink RX3 15 "ChargeLines$Stages" "charge" "[I", Cond.methodLink RX3 25 arraycopyName]
def wsX5_stage_r3 : List Cond := [Cond.fieldLink RX3 19 "ChargeLines$Stages" "stays" "[I", Cond.fieldLink RX3 22 "ChargeLines$Stages" "leaks" "[I", Cond.fieldLink RX3 31 "ChargeLines$Stages" "given" "I", Cond.fieldLink RX3 34 "ChargeLines$Stages" "cameOut" "I", Cond.fieldLink RX3 37 "ChargeLines$Stages" "leaked" "I", Cond.fieldLink RX3 40 "ChargeLines$Stages" "spilled" "I", Cond.methodLink RX1 53 yX2_copyFrom, Cond.instanceMethod yX2_copyFrom, Cond.selects RX2 yX2_copyFrom yX2_copyFrom, Cond.initialized RX2, Cond.code yX2_copyFrom cX2_copyFrom 2 none, Cond.fieldLink RX2 9 "ChargeLines$Pairs" "outputs" "[I", Cond.methodLink RX2 18 arraycopyName, Cond.fieldLink RX2 15 "ChargeLines$Pairs" "sizes" "[I", Cond.methodLink RX5 68 yX3_changeShares, Cond.instanceMethod yX3_changeShares, Cond.selects RX3 yX3_changeShares yX3_changeShares, Cond.code yX3_changeShares cX3_changeShares 4 none]
def wsX5_stage : List Cond := .code yX5_stage cX5_stage 5 (some .int) :: ((wsX5_stage_r1 ++ (wsX5_stage_r2 ++ wsX5_stage_r3)) ++ wsX50 ++ wsX10 ++ wsX30 ++ wsX00 ++ wsX20)
def wsX5_set_r1 : List Cond := [Cond.fieldLink RX5 72 "ChargeLines" "LEAST_SETTINGS" "[I", Cond.fieldLink RX5 75 "ChargeLines" "MOST_SETTINGS" "[I", Cond.constant RX5 41 (-2000001), Cond.fieldLink RX5 12 "ChargeLines" "line" "LChargeLines$Line;", Cond.fieldLink RX5 78 "ChargeLines$Line" "settings" "[I", Cond.fieldLink RX5 19 "ChargeLines" "history" "LChargeLines$History;", Cond.methodLink RX5 37 yX5_outside, Cond.static yX5_outside, Cond.initialized RX5, Cond.code yX5_outside cX5_outside 3 (some .boolean), Cond.methodLink RX5 46 yX0_keep, Cond.instanceMethod yX0_keep, Cond.selects RX0 yX0_keep yX0_keep, Cond.initialized RX0, Cond.code yX0_keep cX0_keep 2 none, Cond.fieldLink RX0 18 "ChargeLines$History" "many" "I", Cond.fieldLink RX0 22 "ChargeLines$History" "first" "I", Cond.fieldLink RX0 11 "ChargeLines$History" "states" "[LChargeLines$Line;", Cond.methodLink RX0 25 yX1_copyFrom, Cond.instanceMethod yX1_copyFrom, Cond.selects RX1 yX1_copyFrom yX1_copyFrom, Cond.initialized RX1, Cond.code yX1_copyFrom cX1_copyFrom 2 none, Cond.fieldLink RX1 12 "ChargeLines$Line" "stages" "LChargeLines$Stages;"]
def wsX5_set_r2 : List Cond := [Cond.fieldLink RX1 21 "ChargeLines$Line" "pairs" "LChargeLines$Pairs;", Cond.fieldLink RX1 34 "ChargeLines$Line" "settings" "[I", Cond.methodLink RX1 56 arraycopyName, Cond.native arraycopyName, Cond.static arraycopyName, Cond.initialized "java/lang/System", Cond.fieldLink RX1 62 "ChargeLines$Line" "handOvers" "I", Cond.fieldLink RX1 66 "ChargeLines$Line" "references" "I", Cond.fieldLink RX1 37 "ChargeLines$Line" "samples" "[I", Cond.fieldLink RX1 40 "ChargeLines$Line" "referencesOfSamples" "[I", Cond.fieldLink RX1 43 "ChargeLines$Line" "outputs" "[I", Cond.fieldLink RX1 46 "ChargeLines$Line" "mendedOutputs" "[I", Cond.methodLink RX1 49 yX3_copyFrom, Cond.instanceMethod yX3_copyFrom, Cond.selects RX3 yX3_copyFrom yX3_copyFrom, Cond.initialized RX3, Cond.code yX3_copyFrom cX3_copyFrom 2 none, Cond.fieldLink RX3 9 "ChargeLines$Stages" "many" "I", Cond.fieldLink RX3 15 "ChargeLines$Stages" "charge" "[I", Cond.methodLink RX3 25 arraycopyName, Cond.fieldLink RX3 19 "ChargeLines$Stages" "stays" "[I", Cond.fieldLink RX3 22 "ChargeLines$Stages" "leaks" "[I", Cond.fieldLink RX3 31 "ChargeLines$Stages" "given" "I", Cond.fieldLink RX3 34 "ChargeLines$Stages" "cameOut" "I"]
def wsX5_set_r3 : List Cond := [Cond.fieldLink RX3 37 "ChargeLines$Stages" "leaked" "I", Cond.fieldLink RX3 40 "ChargeLines$Stages" "spilled" "I", Cond.methodLink RX1 53 yX2_copyFrom, Cond.instanceMethod yX2_copyFrom, Cond.selects RX2 yX2_copyFrom yX2_copyFrom, Cond.initialized RX2, Cond.code yX2_copyFrom cX2_copyFrom 2 none, Cond.fieldLink RX2 9 "ChargeLines$Pairs" "outputs" "[I", Cond.methodLink RX2 18 arraycopyName, Cond.fieldLink RX2 15 "ChargeLines$Pairs" "sizes" "[I"]
def wsX5_set : List Cond := .code yX5_set cX5_set 4 (some .int) :: ((wsX5_set_r1 ++ (wsX5_set_r2 ++ wsX5_set_r3)) ++ wsX50 ++ wsX10 ++ wsX00 ++ wsX30 ++ wsX20)
def wsX5_takeTimes_r1 : List Cond := [Cond.fieldLink RX5 12 "ChargeLines" "line" "LChargeLines$Line;", Cond.fieldLink RX5 42 "ChargeLines$Line" "handOvers" "I", Cond.constant RX5 89 (-2000003), Cond.fieldLink RX5 19 "ChargeLines" "history" "LChargeLines$History;", Cond.methodLink RX5 85 yX1_handOversBehind, Cond.instanceMethod yX1_handOversBehind, Cond.selects RX1 yX1_handOversBehind yX1_handOversBehind, Cond.initialized RX1, Cond.code yX1_handOversBehind cX1_handOversBehind 4 (some .int), Cond.fieldLink RX1 62 "ChargeLines$Line" "handOvers" "I", Cond.methodLink RX1 79 yX1_isForReference, Cond.instanceMethod yX1_isForReference, Cond.selects RX1 yX1_isForReference yX1_isForReference, Cond.code yX1_isForReference cX1_isForReference 3 (some .boolean), Cond.fieldLink RX1 34 "ChargeLines$Line" "settings" "[I", Cond.methodLink RX5 46 yX0_keep, Cond.instanceMethod yX0_keep, Cond.selects RX0 yX0_keep yX0_keep, Cond.initialized RX0, Cond.code yX0_keep cX0_keep 2 none, Cond.fieldLink RX0 18 "ChargeLines$History" "many" "I", Cond.fieldLink RX0 22 "ChargeLines$History" "first" "I", Cond.fieldLink RX0 11 "ChargeLines$History" "states" "[LChargeLines$Line;", Cond.methodLink RX0 25 yX1_copyFrom]
def wsX5_takeTimes_r2 : List Cond := [Cond.instanceMethod yX1_copyFrom, Cond.selects RX1 yX1_copyFrom yX1_copyFrom, Cond.code yX1_copyFrom cX1_copyFrom 2 none, Cond.fieldLink RX1 12 "ChargeLines$Line" "stages" "LChargeLines$Stages;", Cond.fieldLink RX1 21 "ChargeLines$Line" "pairs" "LChargeLines$Pairs;", Cond.methodLink RX1 56 arraycopyName, Cond.native arraycopyName, Cond.static arraycopyName, Cond.initialized "java/lang/System", Cond.fieldLink RX1 66 "ChargeLines$Line" "references" "I", Cond.fieldLink RX1 37 "ChargeLines$Line" "samples" "[I", Cond.fieldLink RX1 40 "ChargeLines$Line" "referencesOfSamples" "[I", Cond.fieldLink RX1 43 "ChargeLines$Line" "outputs" "[I", Cond.fieldLink RX1 46 "ChargeLines$Line" "mendedOutputs" "[I", Cond.methodLink RX1 49 yX3_copyFrom, Cond.instanceMethod yX3_copyFrom, Cond.selects RX3 yX3_copyFrom yX3_copyFrom, Cond.initialized RX3, Cond.code yX3_copyFrom cX3_copyFrom 2 none, Cond.fieldLink RX3 9 "ChargeLines$Stages" "many" "I", Cond.fieldLink RX3 15 "ChargeLines$Stages" "charge" "[I", Cond.methodLink RX3 25 arraycopyName, Cond.fieldLink RX3 19 "ChargeLines$Stages" "stays" "[I", Cond.fieldLink RX3 22 "ChargeLines$Stages" "leaks" "[I"]
def wsX5_takeTimes_r3 : List Cond := [Cond.fieldLink RX3 31 "ChargeLines$Stages" "given" "I", Cond.fieldLink RX3 34 "ChargeLines$Stages" "cameOut" "I", Cond.fieldLink RX3 37 "ChargeLines$Stages" "leaked" "I", Cond.fieldLink RX3 40 "ChargeLines$Stages" "spilled" "I", Cond.methodLink RX1 53 yX2_copyFrom, Cond.instanceMethod yX2_copyFrom, Cond.selects RX2 yX2_copyFrom yX2_copyFrom, Cond.initialized RX2, Cond.code yX2_copyFrom cX2_copyFrom 2 none, Cond.fieldLink RX2 9 "ChargeLines$Pairs" "outputs" "[I", Cond.methodLink RX2 18 arraycopyName, Cond.fieldLink RX2 15 "ChargeLines$Pairs" "sizes" "[I", Cond.methodLink RX5 90 yX1_take, Cond.instanceMethod yX1_take, Cond.selects RX1 yX1_take yX1_take, Cond.code yX1_take cX1_take 3 none, Cond.methodLink RX1 83 yX1_nextReference, Cond.instanceMethod yX1_nextReference, Cond.selects RX1 yX1_nextReference yX1_nextReference, Cond.code yX1_nextReference cX1_nextReference 1 (some .int), Cond.methodLink RX1 87 yX1_handOver, Cond.instanceMethod yX1_handOver, Cond.selects RX1 yX1_handOver yX1_handOver, Cond.code yX1_handOver cX1_handOver 5 none]
def wsX5_takeTimes_r4 : List Cond := [Cond.fieldLink RX1 94 "ChargeLines$Stages" "many" "I", Cond.methodLink RX1 91 yX3_handOver, Cond.instanceMethod yX3_handOver, Cond.selects RX3 yX3_handOver yX3_handOver, Cond.code yX3_handOver cX3_handOver 9 (some .int), Cond.methodLink RX3 60 Lib.Math.min.name, Cond.static Lib.Math.min.name, Cond.initialized "java/lang/Math", Cond.code Lib.Math.min.name Lib.Math.min.code 2 (some .int), Cond.methodLink RX3 53 yX3_staying, Cond.instanceMethod yX3_staying, Cond.selects RX3 yX3_staying yX3_staying, Cond.code yX3_staying cX3_staying 2 (some .int), Cond.methodLink RX3 57 yX3_leaking, Cond.instanceMethod yX3_leaking, Cond.selects RX3 yX3_leaking yX3_leaking, Cond.code yX3_leaking cX3_leaking 2 (some .int), Cond.methodLink RX1 97 yX1_sourceSlot, Cond.instanceMethod yX1_sourceSlot, Cond.selects RX1 yX1_sourceSlot yX1_sourceSlot, Cond.code yX1_sourceSlot cX1_sourceSlot 2 (some .int), Cond.methodLink RX1 101 yX1_learnFrom, Cond.instanceMethod yX1_learnFrom, Cond.selects RX1 yX1_learnFrom yX1_learnFrom]
def wsX5_takeTimes_r5 : List Cond := [Cond.code yX1_learnFrom cX1_learnFrom 4 none, Cond.methodLink RX1 107 yX2_learn, Cond.instanceMethod yX2_learn, Cond.selects RX2 yX2_learn yX2_learn, Cond.code yX2_learn cX2_learn 4 none, Cond.methodLink RX1 104 yX2_mend, Cond.instanceMethod yX2_mend, Cond.selects RX2 yX2_mend yX2_mend, Cond.code yX2_mend cX2_mend 6 (some .int), Cond.constant RX2 34 (-2000004), Cond.methodLink RX2 30 yX2_isKnown, Cond.instanceMethod yX2_isKnown, Cond.selects RX2 yX2_isKnown yX2_isKnown, Cond.code yX2_isKnown cX2_isKnown 2 (some .boolean), Cond.methodLink RX2 35 yX2_mendBy, Cond.instanceMethod yX2_mendBy, Cond.selects RX2 yX2_mendBy yX2_mendBy, Cond.code yX2_mendBy cX2_mendBy 6 (some .int), Cond.constantLong RX2 48 (1000000), Cond.methodLink RX2 50 Lib.MathLoose.min_long.x, Cond.static Lib.MathLoose.min_long.x, Cond.code Lib.MathLoose.min_long.x Lib.MathLoose.min_long.code 4 (some .long), Cond.methodLink RX2 39 yX2_mendBetween, Cond.instanceMethod yX2_mendBetween]
def wsX5_takeTimes_r6 : List Cond := [Cond.selects RX2 yX2_mendBetween yX2_mendBetween, Cond.code yX2_mendBetween cX2_mendBetween 6 (some .int), Cond.methodLink RX2 43 yJ9_floorDiv_7cf53, Cond.static yJ9_floorDiv_7cf53, Cond.initialized RJ9, Cond.code yJ9_floorDiv_7cf53 cJ9_floorDiv_7cf53 3 (some .int)]
def wsX5_takeTimes : List Cond := .code yX5_takeTimes cX5_takeTimes 5 (some .int) :: ((wsX5_takeTimes_r1 ++ (wsX5_takeTimes_r2 ++ (wsX5_takeTimes_r3 ++ (wsX5_takeTimes_r4 ++ (wsX5_takeTimes_r5 ++ wsX5_takeTimes_r6))))) ++ wsX50 ++ wsX10 ++ wsX00 ++ wsX30 ++ wsX20)
def wsX5_give_r1 : List Cond := [Cond.constant RX5 41 (-2000001), Cond.methodLink RX5 37 yX5_outside, Cond.static yX5_outside, Cond.initialized RX5, Cond.code yX5_outside cX5_outside 3 (some .boolean), Cond.methodLink RX5 81 yX5_takeTimes, Cond.instanceMethod yX5_takeTimes, Cond.selects RX5 yX5_takeTimes yX5_takeTimes, Cond.code yX5_takeTimes cX5_takeTimes 5 (some .int), Cond.fieldLink RX5 12 "ChargeLines" "line" "LChargeLines$Line;", Cond.fieldLink RX5 42 "ChargeLines$Line" "handOvers" "I", Cond.constant RX5 89 (-2000003), Cond.fieldLink RX5 19 "ChargeLines" "history" "LChargeLines$History;", Cond.methodLink RX5 85 yX1_handOversBehind, Cond.instanceMethod yX1_handOversBehind, Cond.selects RX1 yX1_handOversBehind yX1_handOversBehind, Cond.initialized RX1, Cond.code yX1_handOversBehind cX1_handOversBehind 4 (some .int), Cond.fieldLink RX1 62 "ChargeLines$Line" "handOvers" "I", Cond.methodLink RX1 79 yX1_isForReference, Cond.instanceMethod yX1_isForReference, Cond.selects RX1 yX1_isForReference yX1_isForReference, Cond.code yX1_isForReference cX1_isForReference 3 (some .boolean), Cond.fieldLink RX1 34 "ChargeLines$Line" "settings" "[I"]
def wsX5_give_r2 : List Cond := [Cond.methodLink RX5 46 yX0_keep, Cond.instanceMethod yX0_keep, Cond.selects RX0 yX0_keep yX0_keep, Cond.initialized RX0, Cond.code yX0_keep cX0_keep 2 none, Cond.fieldLink RX0 18 "ChargeLines$History" "many" "I", Cond.fieldLink RX0 22 "ChargeLines$History" "first" "I", Cond.fieldLink RX0 11 "ChargeLines$History" "states" "[LChargeLines$Line;", Cond.methodLink RX0 25 yX1_copyFrom, Cond.instanceMethod yX1_copyFrom, Cond.selects RX1 yX1_copyFrom yX1_copyFrom, Cond.code yX1_copyFrom cX1_copyFrom 2 none, Cond.fieldLink RX1 12 "ChargeLines$Line" "stages" "LChargeLines$Stages;", Cond.fieldLink RX1 21 "ChargeLines$Line" "pairs" "LChargeLines$Pairs;", Cond.methodLink RX1 56 arraycopyName, Cond.native arraycopyName, Cond.static arraycopyName, Cond.initialized "java/lang/System", Cond.fieldLink RX1 66 "ChargeLines$Line" "references" "I", Cond.fieldLink RX1 37 "ChargeLines$Line" "samples" "[I", Cond.fieldLink RX1 40 "ChargeLines$Line" "referencesOfSamples" "[I", Cond.fieldLink RX1 43 "ChargeLines$Line" "outputs" "[I", Cond.fieldLink RX1 46 "ChargeLines$Line" "mendedOutputs" "[I", Cond.methodLink RX1 49 yX3_copyFrom]
def wsX5_give_r3 : List Cond := [Cond.instanceMethod yX3_copyFrom, Cond.selects RX3 yX3_copyFrom yX3_copyFrom, Cond.initialized RX3, Cond.code yX3_copyFrom cX3_copyFrom 2 none, Cond.fieldLink RX3 9 "ChargeLines$Stages" "many" "I", Cond.fieldLink RX3 15 "ChargeLines$Stages" "charge" "[I", Cond.methodLink RX3 25 arraycopyName, Cond.fieldLink RX3 19 "ChargeLines$Stages" "stays" "[I", Cond.fieldLink RX3 22 "ChargeLines$Stages" "leaks" "[I", Cond.fieldLink RX3 31 "ChargeLines$Stages" "given" "I", Cond.fieldLink RX3 34 "ChargeLines$Stages" "cameOut" "I", Cond.fieldLink RX3 37 "ChargeLines$Stages" "leaked" "I", Cond.fieldLink RX3 40 "ChargeLines$Stages" "spilled" "I", Cond.methodLink RX1 53 yX2_copyFrom, Cond.instanceMethod yX2_copyFrom, Cond.selects RX2 yX2_copyFrom yX2_copyFrom, Cond.initialized RX2, Cond.code yX2_copyFrom cX2_copyFrom 2 none, Cond.fieldLink RX2 9 "ChargeLines$Pairs" "outputs" "[I", Cond.methodLink RX2 18 arraycopyName, Cond.fieldLink RX2 15 "ChargeLines$Pairs" "sizes" "[I", Cond.methodLink RX5 90 yX1_take, Cond.instanceMethod yX1_take, Cond.selects RX1 yX1_take yX1_take]
def wsX5_give_r4 : List Cond := [Cond.code yX1_take cX1_take 3 none, Cond.methodLink RX1 83 yX1_nextReference, Cond.instanceMethod yX1_nextReference, Cond.selects RX1 yX1_nextReference yX1_nextReference, Cond.code yX1_nextReference cX1_nextReference 1 (some .int), Cond.methodLink RX1 87 yX1_handOver, Cond.instanceMethod yX1_handOver, Cond.selects RX1 yX1_handOver yX1_handOver, Cond.code yX1_handOver cX1_handOver 5 none, Cond.fieldLink RX1 94 "ChargeLines$Stages" "many" "I", Cond.methodLink RX1 91 yX3_handOver, Cond.instanceMethod yX3_handOver, Cond.selects RX3 yX3_handOver yX3_handOver, Cond.code yX3_handOver cX3_handOver 9 (some .int), Cond.methodLink RX3 60 Lib.Math.min.name, Cond.static Lib.Math.min.name, Cond.initialized "java/lang/Math", Cond.code Lib.Math.min.name Lib.Math.min.code 2 (some .int), Cond.methodLink RX3 53 yX3_staying, Cond.instanceMethod yX3_staying, Cond.selects RX3 yX3_staying yX3_staying, Cond.code yX3_staying cX3_staying 2 (some .int), Cond.methodLink RX3 57 yX3_leaking, Cond.instanceMethod yX3_leaking]
def wsX5_give_r5 : List Cond := [Cond.selects RX3 yX3_leaking yX3_leaking, Cond.code yX3_leaking cX3_leaking 2 (some .int), Cond.methodLink RX1 97 yX1_sourceSlot, Cond.instanceMethod yX1_sourceSlot, Cond.selects RX1 yX1_sourceSlot yX1_sourceSlot, Cond.code yX1_sourceSlot cX1_sourceSlot 2 (some .int), Cond.methodLink RX1 101 yX1_learnFrom, Cond.instanceMethod yX1_learnFrom, Cond.selects RX1 yX1_learnFrom yX1_learnFrom, Cond.code yX1_learnFrom cX1_learnFrom 4 none, Cond.methodLink RX1 107 yX2_learn, Cond.instanceMethod yX2_learn, Cond.selects RX2 yX2_learn yX2_learn, Cond.code yX2_learn cX2_learn 4 none, Cond.methodLink RX1 104 yX2_mend, Cond.instanceMethod yX2_mend, Cond.selects RX2 yX2_mend yX2_mend, Cond.code yX2_mend cX2_mend 6 (some .int), Cond.constant RX2 34 (-2000004), Cond.methodLink RX2 30 yX2_isKnown, Cond.instanceMethod yX2_isKnown, Cond.selects RX2 yX2_isKnown yX2_isKnown, Cond.code yX2_isKnown cX2_isKnown 2 (some .boolean), Cond.methodLink RX2 35 yX2_mendBy]
def wsX5_give_r6 : List Cond := [Cond.instanceMethod yX2_mendBy, Cond.selects RX2 yX2_mendBy yX2_mendBy, Cond.code yX2_mendBy cX2_mendBy 6 (some .int), Cond.constantLong RX2 48 (1000000), Cond.methodLink RX2 50 Lib.MathLoose.min_long.x, Cond.static Lib.MathLoose.min_long.x, Cond.code Lib.MathLoose.min_long.x Lib.MathLoose.min_long.code 4 (some .long), Cond.methodLink RX2 39 yX2_mendBetween, Cond.instanceMethod yX2_mendBetween, Cond.selects RX2 yX2_mendBetween yX2_mendBetween, Cond.code yX2_mendBetween cX2_mendBetween 6 (some .int), Cond.methodLink RX2 43 yJ9_floorDiv_7cf53, Cond.static yJ9_floorDiv_7cf53, Cond.initialized RJ9, Cond.code yJ9_floorDiv_7cf53 cJ9_floorDiv_7cf53 3 (some .int)]
def wsX5_give : List Cond := .code yX5_give cX5_give 2 (some .int) :: ((wsX5_give_r1 ++ (wsX5_give_r2 ++ (wsX5_give_r3 ++ (wsX5_give_r4 ++ (wsX5_give_r5 ++ wsX5_give_r6))))) ++ wsX50 ++ wsX10 ++ wsX00 ++ wsX30 ++ wsX20)
def wsX5_idle_r1 : List Cond := [Cond.constant RX5 41 (-2000001), Cond.methodLink RX5 37 yX5_outside, Cond.static yX5_outside, Cond.initialized RX5, Cond.code yX5_outside cX5_outside 3 (some .boolean), Cond.methodLink RX5 81 yX5_takeTimes, Cond.instanceMethod yX5_takeTimes, Cond.selects RX5 yX5_takeTimes yX5_takeTimes, Cond.code yX5_takeTimes cX5_takeTimes 5 (some .int), Cond.fieldLink RX5 12 "ChargeLines" "line" "LChargeLines$Line;", Cond.fieldLink RX5 42 "ChargeLines$Line" "handOvers" "I", Cond.constant RX5 89 (-2000003), Cond.fieldLink RX5 19 "ChargeLines" "history" "LChargeLines$History;", Cond.methodLink RX5 85 yX1_handOversBehind, Cond.instanceMethod yX1_handOversBehind, Cond.selects RX1 yX1_handOversBehind yX1_handOversBehind, Cond.initialized RX1, Cond.code yX1_handOversBehind cX1_handOversBehind 4 (some .int), Cond.fieldLink RX1 62 "ChargeLines$Line" "handOvers" "I", Cond.methodLink RX1 79 yX1_isForReference, Cond.instanceMethod yX1_isForReference, Cond.selects RX1 yX1_isForReference yX1_isForReference, Cond.code yX1_isForReference cX1_isForReference 3 (some .boolean), Cond.fieldLink RX1 34 "ChargeLines$Line" "settings" "[I"]
def wsX5_idle_r2 : List Cond := [Cond.methodLink RX5 46 yX0_keep, Cond.instanceMethod yX0_keep, Cond.selects RX0 yX0_keep yX0_keep, Cond.initialized RX0, Cond.code yX0_keep cX0_keep 2 none, Cond.fieldLink RX0 18 "ChargeLines$History" "many" "I", Cond.fieldLink RX0 22 "ChargeLines$History" "first" "I", Cond.fieldLink RX0 11 "ChargeLines$History" "states" "[LChargeLines$Line;", Cond.methodLink RX0 25 yX1_copyFrom, Cond.instanceMethod yX1_copyFrom, Cond.selects RX1 yX1_copyFrom yX1_copyFrom, Cond.code yX1_copyFrom cX1_copyFrom 2 none, Cond.fieldLink RX1 12 "ChargeLines$Line" "stages" "LChargeLines$Stages;", Cond.fieldLink RX1 21 "ChargeLines$Line" "pairs" "LChargeLines$Pairs;", Cond.methodLink RX1 56 arraycopyName, Cond.native arraycopyName, Cond.static arraycopyName, Cond.initialized "java/lang/System", Cond.fieldLink RX1 66 "ChargeLines$Line" "references" "I", Cond.fieldLink RX1 37 "ChargeLines$Line" "samples" "[I", Cond.fieldLink RX1 40 "ChargeLines$Line" "referencesOfSamples" "[I", Cond.fieldLink RX1 43 "ChargeLines$Line" "outputs" "[I", Cond.fieldLink RX1 46 "ChargeLines$Line" "mendedOutputs" "[I", Cond.methodLink RX1 49 yX3_copyFrom]
def wsX5_idle_r3 : List Cond := [Cond.instanceMethod yX3_copyFrom, Cond.selects RX3 yX3_copyFrom yX3_copyFrom, Cond.initialized RX3, Cond.code yX3_copyFrom cX3_copyFrom 2 none, Cond.fieldLink RX3 9 "ChargeLines$Stages" "many" "I", Cond.fieldLink RX3 15 "ChargeLines$Stages" "charge" "[I", Cond.methodLink RX3 25 arraycopyName, Cond.fieldLink RX3 19 "ChargeLines$Stages" "stays" "[I", Cond.fieldLink RX3 22 "ChargeLines$Stages" "leaks" "[I", Cond.fieldLink RX3 31 "ChargeLines$Stages" "given" "I", Cond.fieldLink RX3 34 "ChargeLines$Stages" "cameOut" "I", Cond.fieldLink RX3 37 "ChargeLines$Stages" "leaked" "I", Cond.fieldLink RX3 40 "ChargeLines$Stages" "spilled" "I", Cond.methodLink RX1 53 yX2_copyFrom, Cond.instanceMethod yX2_copyFrom, Cond.selects RX2 yX2_copyFrom yX2_copyFrom, Cond.initialized RX2, Cond.code yX2_copyFrom cX2_copyFrom 2 none, Cond.fieldLink RX2 9 "ChargeLines$Pairs" "outputs" "[I", Cond.methodLink RX2 18 arraycopyName, Cond.fieldLink RX2 15 "ChargeLines$Pairs" "sizes" "[I", Cond.methodLink RX5 90 yX1_take, Cond.instanceMethod yX1_take, Cond.selects RX1 yX1_take yX1_take]
def wsX5_idle_r4 : List Cond := [Cond.code yX1_take cX1_take 3 none, Cond.methodLink RX1 83 yX1_nextReference, Cond.instanceMethod yX1_nextReference, Cond.selects RX1 yX1_nextReference yX1_nextReference, Cond.code yX1_nextReference cX1_nextReference 1 (some .int), Cond.methodLink RX1 87 yX1_handOver, Cond.instanceMethod yX1_handOver, Cond.selects RX1 yX1_handOver yX1_handOver, Cond.code yX1_handOver cX1_handOver 5 none, Cond.fieldLink RX1 94 "ChargeLines$Stages" "many" "I", Cond.methodLink RX1 91 yX3_handOver, Cond.instanceMethod yX3_handOver, Cond.selects RX3 yX3_handOver yX3_handOver, Cond.code yX3_handOver cX3_handOver 9 (some .int), Cond.methodLink RX3 60 Lib.Math.min.name, Cond.static Lib.Math.min.name, Cond.initialized "java/lang/Math", Cond.code Lib.Math.min.name Lib.Math.min.code 2 (some .int), Cond.methodLink RX3 53 yX3_staying, Cond.instanceMethod yX3_staying, Cond.selects RX3 yX3_staying yX3_staying, Cond.code yX3_staying cX3_staying 2 (some .int), Cond.methodLink RX3 57 yX3_leaking, Cond.instanceMethod yX3_leaking]
def wsX5_idle_r5 : List Cond := [Cond.selects RX3 yX3_leaking yX3_leaking, Cond.code yX3_leaking cX3_leaking 2 (some .int), Cond.methodLink RX1 97 yX1_sourceSlot, Cond.instanceMethod yX1_sourceSlot, Cond.selects RX1 yX1_sourceSlot yX1_sourceSlot, Cond.code yX1_sourceSlot cX1_sourceSlot 2 (some .int), Cond.methodLink RX1 101 yX1_learnFrom, Cond.instanceMethod yX1_learnFrom, Cond.selects RX1 yX1_learnFrom yX1_learnFrom, Cond.code yX1_learnFrom cX1_learnFrom 4 none, Cond.methodLink RX1 107 yX2_learn, Cond.instanceMethod yX2_learn, Cond.selects RX2 yX2_learn yX2_learn, Cond.code yX2_learn cX2_learn 4 none, Cond.methodLink RX1 104 yX2_mend, Cond.instanceMethod yX2_mend, Cond.selects RX2 yX2_mend yX2_mend, Cond.code yX2_mend cX2_mend 6 (some .int), Cond.constant RX2 34 (-2000004), Cond.methodLink RX2 30 yX2_isKnown, Cond.instanceMethod yX2_isKnown, Cond.selects RX2 yX2_isKnown yX2_isKnown, Cond.code yX2_isKnown cX2_isKnown 2 (some .boolean), Cond.methodLink RX2 35 yX2_mendBy]
def wsX5_idle_r6 : List Cond := [Cond.instanceMethod yX2_mendBy, Cond.selects RX2 yX2_mendBy yX2_mendBy, Cond.code yX2_mendBy cX2_mendBy 6 (some .int), Cond.constantLong RX2 48 (1000000), Cond.methodLink RX2 50 Lib.MathLoose.min_long.x, Cond.static Lib.MathLoose.min_long.x, Cond.code Lib.MathLoose.min_long.x Lib.MathLoose.min_long.code 4 (some .long), Cond.methodLink RX2 39 yX2_mendBetween, Cond.instanceMethod yX2_mendBetween, Cond.selects RX2 yX2_mendBetween yX2_mendBetween, Cond.code yX2_mendBetween cX2_mendBetween 6 (some .int), Cond.methodLink RX2 43 yJ9_floorDiv_7cf53, Cond.static yJ9_floorDiv_7cf53, Cond.initialized RJ9, Cond.code yJ9_floorDiv_7cf53 cJ9_floorDiv_7cf53 3 (some .int)]
def wsX5_idle : List Cond := .code yX5_idle cX5_idle 2 (some .int) :: ((wsX5_idle_r1 ++ (wsX5_idle_r2 ++ (wsX5_idle_r3 ++ (wsX5_idle_r4 ++ (wsX5_idle_r5 ++ wsX5_idle_r6))))) ++ wsX50 ++ wsX10 ++ wsX00 ++ wsX30 ++ wsX20)
def wsX5_stageOf_r1 : List Cond := [Cond.fieldLink RX5 12 "ChargeLines" "line" "LChargeLines$Line;", Cond.fieldLink RX5 54 "ChargeLines$Line" "stages" "LChargeLines$Stages;", Cond.constant RX5 41 (-2000001), Cond.fieldLink RX5 93 "ChargeLines$Stages" "charge" "[I", Cond.fieldLink RX5 61 "ChargeLines$Stages" "stays" "[I", Cond.fieldLink RX5 65 "ChargeLines$Stages" "leaks" "[I", Cond.methodLink RX5 57 yX3_has, Cond.instanceMethod yX3_has, Cond.selects RX3 yX3_has yX3_has, Cond.initialized RX3, Cond.code yX3_has cX3_has 2 (some .boolean), Cond.fieldLink RX3 9 "ChargeLines$Stages" "many" "I", Cond.methodLink RX5 96 yX3_staying, Cond.instanceMethod yX3_staying, Cond.selects RX3 yX3_staying yX3_staying, Cond.code yX3_staying cX3_staying 2 (some .int), Cond.fieldLink RX3 15 "ChargeLines$Stages" "charge" "[I", Cond.fieldLink RX3 19 "ChargeLines$Stages" "stays" "[I", Cond.methodLink RX5 99 yX3_leaking, Cond.instanceMethod yX3_leaking, Cond.selects RX3 yX3_leaking yX3_leaking, Cond.code yX3_leaking cX3_leaking 2 (some .int), Cond.fieldLink RX3 22 "ChargeLines$Stages" "leaks" "[I", Cond.methodLink RX3 53 yX3_staying]
def wsX5_stageOf_r2 : List Cond := [Cond.methodLink RX5 102 yX3_leaving, Cond.instanceMethod yX3_leaving, Cond.selects RX3 yX3_leaving yX3_leaving, Cond.code yX3_leaving cX3_leaving 2 (some .int), Cond.methodLink RX3 57 yX3_leaking]
def wsX5_stageOf : List Cond := .code yX5_stageOf cX5_stageOf 3 (some .int) :: ((wsX5_stageOf_r1 ++ wsX5_stageOf_r2) ++ wsX50 ++ wsX10 ++ wsX30)
def wsX5_outputOf_r1 : List Cond := [Cond.constant RX5 41 (-2000001), Cond.fieldLink RX5 12 "ChargeLines" "line" "LChargeLines$Line;", Cond.constant RX5 109 (-2000004), Cond.fieldLink RX5 42 "ChargeLines$Line" "handOvers" "I", Cond.fieldLink RX5 110 "ChargeLines$Line" "samples" "[I", Cond.fieldLink RX5 116 "ChargeLines$Line" "outputs" "[I", Cond.fieldLink RX5 119 "ChargeLines$Line" "mendedOutputs" "[I", Cond.methodLink RX5 37 yX5_outside, Cond.static yX5_outside, Cond.initialized RX5, Cond.code yX5_outside cX5_outside 3 (some .boolean), Cond.methodLink RX5 105 yX1_keptOutputs, Cond.instanceMethod yX1_keptOutputs, Cond.selects RX1 yX1_keptOutputs yX1_keptOutputs, Cond.initialized RX1, Cond.code yX1_keptOutputs cX1_keptOutputs 1 (some .int), Cond.fieldLink RX1 62 "ChargeLines$Line" "handOvers" "I", Cond.fieldLink RX1 12 "ChargeLines$Line" "stages" "LChargeLines$Stages;", Cond.fieldLink RX1 94 "ChargeLines$Stages" "many" "I", Cond.methodLink RX1 111 Lib.Math.min.name, Cond.static Lib.Math.min.name, Cond.initialized "java/lang/Math", Cond.code Lib.Math.min.name Lib.Math.min.code 2 (some .int), Cond.methodLink RX1 116 Lib.Math.max.name]
def wsX5_outputOf_r2 : List Cond := [Cond.static Lib.Math.max.name, Cond.code Lib.Math.max.name Lib.Math.max.code 2 (some .int), Cond.methodLink RX5 113 yX1_sourceSlot, Cond.instanceMethod yX1_sourceSlot, Cond.selects RX1 yX1_sourceSlot yX1_sourceSlot, Cond.code yX1_sourceSlot cX1_sourceSlot 2 (some .int), Cond.methodLink RX5 122 yX1_isOfReference, Cond.instanceMethod yX1_isOfReference, Cond.selects RX1 yX1_isOfReference yX1_isOfReference, Cond.code yX1_isOfReference cX1_isOfReference 2 (some .boolean), Cond.fieldLink RX1 40 "ChargeLines$Line" "referencesOfSamples" "[I", Cond.methodLink RX1 97 yX1_sourceSlot, Cond.methodLink RX5 125 yX1_errorOf, Cond.instanceMethod yX1_errorOf, Cond.selects RX1 yX1_errorOf yX1_errorOf, Cond.code yX1_errorOf cX1_errorOf 4 (some .int), Cond.fieldLink RX1 46 "ChargeLines$Line" "mendedOutputs" "[I", Cond.constant RX1 119 (-2000004), Cond.fieldLink RX1 43 "ChargeLines$Line" "outputs" "[I", Cond.fieldLink RX1 37 "ChargeLines$Line" "samples" "[I"]
def wsX5_outputOf : List Cond := .code yX5_outputOf cX5_outputOf 4 (some .int) :: ((wsX5_outputOf_r1 ++ wsX5_outputOf_r2) ++ wsX50 ++ wsX10 ++ wsX30)
def wsX5_pairOf : List Cond := .code yX5_pairOf cX5_pairOf 3 (some .int) :: ([.constant RX5 41 (-2000001), .fieldLink RX5 12 "ChargeLines" "line" "LChargeLines$Line;", .fieldLink RX5 128 "ChargeLines$Line" "pairs" "LChargeLines$Pairs;", .constant RX5 109 (-2000004), .fieldLink RX5 137 "ChargeLines$Pairs" "outputs" "[I", .fieldLink RX5 138 "ChargeLines$Pairs" "sizes" "[I", .methodLink RX5 37 yX5_outside, .static yX5_outside, .initialized RX5, .code yX5_outside cX5_outside 3 (some .boolean), .methodLink RX5 132 yX2_isKnown, .instanceMethod yX2_isKnown, .selects RX2 yX2_isKnown yX2_isKnown, .initialized RX2, .code yX2_isKnown cX2_isKnown 2 (some .boolean), .fieldLink RX2 15 "ChargeLines$Pairs" "sizes" "[I"] ++ wsX50 ++ wsX10 ++ wsX20)
def wsX5_mended_r1 : List Cond := [Cond.constant RX5 141 (100000), Cond.constant RX5 41 (-2000001), Cond.fieldLink RX5 12 "ChargeLines" "line" "LChargeLines$Line;", Cond.fieldLink RX5 128 "ChargeLines$Line" "pairs" "LChargeLines$Pairs;", Cond.methodLink RX5 37 yX5_outside, Cond.static yX5_outside, Cond.initialized RX5, Cond.code yX5_outside cX5_outside 3 (some .boolean), Cond.methodLink RX5 142 yX2_mend, Cond.instanceMethod yX2_mend, Cond.selects RX2 yX2_mend yX2_mend, Cond.initialized RX2, Cond.code yX2_mend cX2_mend 6 (some .int), Cond.fieldLink RX2 9 "ChargeLines$Pairs" "outputs" "[I", Cond.constant RX2 34 (-2000004), Cond.methodLink RX2 30 yX2_isKnown, Cond.instanceMethod yX2_isKnown, Cond.selects RX2 yX2_isKnown yX2_isKnown, Cond.code yX2_isKnown cX2_isKnown 2 (some .boolean), Cond.fieldLink RX2 15 "ChargeLines$Pairs" "sizes" "[I", Cond.methodLink RX2 35 yX2_mendBy, Cond.instanceMethod yX2_mendBy, Cond.selects RX2 yX2_mendBy yX2_mendBy, Cond.code yX2_mendBy cX2_mendBy 6 (some .int)]
def wsX5_mended_r2 : List Cond := [Cond.constantLong RX2 48 (1000000), Cond.methodLink RX2 50 Lib.MathLoose.min_long.x, Cond.static Lib.MathLoose.min_long.x, Cond.initialized "java/lang/Math", Cond.code Lib.MathLoose.min_long.x Lib.MathLoose.min_long.code 4 (some .long), Cond.methodLink RX2 39 yX2_mendBetween, Cond.instanceMethod yX2_mendBetween, Cond.selects RX2 yX2_mendBetween yX2_mendBetween, Cond.code yX2_mendBetween cX2_mendBetween 6 (some .int), Cond.methodLink RX2 43 yJ9_floorDiv_7cf53, Cond.static yJ9_floorDiv_7cf53, Cond.initialized RJ9, Cond.code yJ9_floorDiv_7cf53 cJ9_floorDiv_7cf53 3 (some .int)]
def wsX5_mended : List Cond := .code yX5_mended cX5_mended 2 (some .int) :: ((wsX5_mended_r1 ++ wsX5_mended_r2) ++ wsX50 ++ wsX10 ++ wsX20)
def wsX5_bitsOf : List Cond := .code yX5_bitsOf cX5_bitsOf 3 (some .int) :: ([.constantFloat RX5 254 (1258291200)])
def wsX5_errors_r1 : List Cond := [Cond.constant RX5 41 (-2000001), Cond.fieldLink RX5 12 "ChargeLines" "line" "LChargeLines$Line;", Cond.fieldLink RX5 42 "ChargeLines$Line" "handOvers" "I", Cond.methodLink RX5 145 Lib.Math.abs.name, Cond.static Lib.Math.abs.name, Cond.initialized "java/lang/Math", Cond.code Lib.Math.abs.name Lib.Math.abs.code 1 (some .int), Cond.methodLink RX5 150 Lib.Math.max.name, Cond.static Lib.Math.max.name, Cond.code Lib.Math.max.name Lib.Math.max.code 2 (some .int), Cond.constant RX5 109 (-2000004), Cond.constant RX5 153 (100000000), Cond.methodLink RX5 37 yX5_outside, Cond.static yX5_outside, Cond.initialized RX5, Cond.code yX5_outside cX5_outside 3 (some .boolean), Cond.methodLink RX5 105 yX1_keptOutputs, Cond.instanceMethod yX1_keptOutputs, Cond.selects RX1 yX1_keptOutputs yX1_keptOutputs, Cond.initialized RX1, Cond.code yX1_keptOutputs cX1_keptOutputs 1 (some .int), Cond.fieldLink RX1 62 "ChargeLines$Line" "handOvers" "I", Cond.fieldLink RX1 12 "ChargeLines$Line" "stages" "LChargeLines$Stages;", Cond.fieldLink RX1 94 "ChargeLines$Stages" "many" "I"]
def wsX5_errors_r2 : List Cond := [Cond.methodLink RX1 111 Lib.Math.min.name, Cond.static Lib.Math.min.name, Cond.code Lib.Math.min.name Lib.Math.min.code 2 (some .int), Cond.methodLink RX1 116 Lib.Math.max.name, Cond.methodLink RX5 122 yX1_isOfReference, Cond.instanceMethod yX1_isOfReference, Cond.selects RX1 yX1_isOfReference yX1_isOfReference, Cond.code yX1_isOfReference cX1_isOfReference 2 (some .boolean), Cond.fieldLink RX1 40 "ChargeLines$Line" "referencesOfSamples" "[I", Cond.methodLink RX1 97 yX1_sourceSlot, Cond.instanceMethod yX1_sourceSlot, Cond.selects RX1 yX1_sourceSlot yX1_sourceSlot, Cond.code yX1_sourceSlot cX1_sourceSlot 2 (some .int), Cond.methodLink RX5 125 yX1_errorOf, Cond.instanceMethod yX1_errorOf, Cond.selects RX1 yX1_errorOf yX1_errorOf, Cond.code yX1_errorOf cX1_errorOf 4 (some .int), Cond.fieldLink RX1 46 "ChargeLines$Line" "mendedOutputs" "[I", Cond.constant RX1 119 (-2000004), Cond.fieldLink RX1 43 "ChargeLines$Line" "outputs" "[I", Cond.fieldLink RX1 37 "ChargeLines$Line" "samples" "[I", Cond.methodLink RX5 154 yX5_bitsOf, Cond.static yX5_bitsOf, Cond.code yX5_bitsOf cX5_bitsOf 3 (some .int)]
def wsX5_errors_r3 : List Cond := [Cond.constantFloat RX5 254 (1258291200)]
def wsX5_errors : List Cond := .code yX5_errors cX5_errors 10 (some .int) :: ((wsX5_errors_r1 ++ (wsX5_errors_r2 ++ wsX5_errors_r3)) ++ wsX50 ++ wsX10 ++ wsX30)
def wsX5_account : List Cond := .code yX5_account cX5_account 2 (some .int) :: ([.fieldLink RX5 12 "ChargeLines" "line" "LChargeLines$Line;", .fieldLink RX5 54 "ChargeLines$Line" "stages" "LChargeLines$Stages;", .fieldLink RX5 158 "ChargeLines$Stages" "given" "I", .fieldLink RX5 161 "ChargeLines$Stages" "cameOut" "I", .fieldLink RX5 164 "ChargeLines$Stages" "leaked" "I", .fieldLink RX5 167 "ChargeLines$Stages" "spilled" "I", .constant RX5 41 (-2000001), .methodLink RX5 170 yX3_inStages, .instanceMethod yX3_inStages, .selects RX3 yX3_inStages yX3_inStages, .initialized RX3, .code yX3_inStages cX3_inStages 3 (some .int), .fieldLink RX3 9 "ChargeLines$Stages" "many" "I", .fieldLink RX3 15 "ChargeLines$Stages" "charge" "[I"] ++ wsX50 ++ wsX10 ++ wsX30)
def wsX5_echo_r1 : List Cond := [Cond.constant RX5 41 (-2000001), Cond.fieldLink RX5 33 "ChargeLines" "trial" "LChargeLines$Stages;", Cond.fieldLink RX5 12 "ChargeLines" "line" "LChargeLines$Line;", Cond.fieldLink RX5 54 "ChargeLines$Line" "stages" "LChargeLines$Stages;", Cond.fieldLink RX5 78 "ChargeLines$Line" "settings" "[I", Cond.methodLink RX5 37 yX5_outside, Cond.static yX5_outside, Cond.initialized RX5, Cond.code yX5_outside cX5_outside 3 (some .boolean), Cond.methodLink RX5 173 yX3_copyFrom, Cond.instanceMethod yX3_copyFrom, Cond.selects RX3 yX3_copyFrom yX3_copyFrom, Cond.initialized RX3, Cond.code yX3_copyFrom cX3_copyFrom 2 none, Cond.fieldLink RX3 9 "ChargeLines$Stages" "many" "I", Cond.fieldLink RX3 15 "ChargeLines$Stages" "charge" "[I", Cond.methodLink RX3 25 arraycopyName, Cond.native arraycopyName, Cond.static arraycopyName, Cond.initialized "java/lang/System", Cond.fieldLink RX3 19 "ChargeLines$Stages" "stays" "[I", Cond.fieldLink RX3 22 "ChargeLines$Stages" "leaks" "[I", Cond.fieldLink RX3 31 "ChargeLines$Stages" "given" "I", Cond.fieldLink RX3 34 "ChargeLines$Stages" "cameOut" "I"]
def wsX5_echo_r2 : List Cond := [Cond.fieldLink RX3 37 "ChargeLines$Stages" "leaked" "I", Cond.fieldLink RX3 40 "ChargeLines$Stages" "spilled" "I", Cond.methodLink RX5 177 yX3_outputOfLone, Cond.instanceMethod yX3_outputOfLone, Cond.selects RX3 yX3_outputOfLone yX3_outputOfLone, Cond.code yX3_outputOfLone cX3_outputOfLone 6 (some .int), Cond.methodLink RX3 66 yX3_empty, Cond.instanceMethod yX3_empty, Cond.selects RX3 yX3_empty yX3_empty, Cond.code yX3_empty cX3_empty 1 none, Cond.methodLink RX3 47 yJ7_fill_53178, Cond.static yJ7_fill_53178, Cond.initialized RJ7, Cond.code yJ7_fill_53178 cJ7_fill_53178 4 none, Cond.methodLink RX3 69 yX3_handOver, Cond.instanceMethod yX3_handOver, Cond.selects RX3 yX3_handOver yX3_handOver, Cond.code yX3_handOver cX3_handOver 9 (some .int), Cond.methodLink RX3 60 Lib.Math.min.name, Cond.static Lib.Math.min.name, Cond.initialized "java/lang/Math", Cond.code Lib.Math.min.name Lib.Math.min.code 2 (some .int), Cond.methodLink RX3 53 yX3_staying, Cond.instanceMethod yX3_staying]
def wsX5_echo_r3 : List Cond := [Cond.selects RX3 yX3_staying yX3_staying, Cond.code yX3_staying cX3_staying 2 (some .int), Cond.methodLink RX3 57 yX3_leaking, Cond.instanceMethod yX3_leaking, Cond.selects RX3 yX3_leaking yX3_leaking, Cond.code yX3_leaking cX3_leaking 2 (some .int)]
def wsX5_echo : List Cond := .code yX5_echo cX5_echo 3 (some .int) :: ((wsX5_echo_r1 ++ (wsX5_echo_r2 ++ wsX5_echo_r3)) ++ wsX50 ++ wsX10 ++ wsX30)
def wsX5_emptyAfter_r1 : List Cond := [Cond.fieldLink RX5 33 "ChargeLines" "trial" "LChargeLines$Stages;", Cond.fieldLink RX5 12 "ChargeLines" "line" "LChargeLines$Line;", Cond.fieldLink RX5 54 "ChargeLines$Line" "stages" "LChargeLines$Stages;", Cond.fieldLink RX5 78 "ChargeLines$Line" "settings" "[I", Cond.constant RX5 109 (-2000004), Cond.methodLink RX5 173 yX3_copyFrom, Cond.instanceMethod yX3_copyFrom, Cond.selects RX3 yX3_copyFrom yX3_copyFrom, Cond.initialized RX3, Cond.code yX3_copyFrom cX3_copyFrom 2 none, Cond.fieldLink RX3 9 "ChargeLines$Stages" "many" "I", Cond.fieldLink RX3 15 "ChargeLines$Stages" "charge" "[I", Cond.methodLink RX3 25 arraycopyName, Cond.native arraycopyName, Cond.static arraycopyName, Cond.initialized "java/lang/System", Cond.fieldLink RX3 19 "ChargeLines$Stages" "stays" "[I", Cond.fieldLink RX3 22 "ChargeLines$Stages" "leaks" "[I", Cond.fieldLink RX3 31 "ChargeLines$Stages" "given" "I", Cond.fieldLink RX3 34 "ChargeLines$Stages" "cameOut" "I", Cond.fieldLink RX3 37 "ChargeLines$Stages" "leaked" "I", Cond.fieldLink RX3 40 "ChargeLines$Stages" "spilled" "I", Cond.methodLink RX5 170 yX3_inStages, Cond.instanceMethod yX3_inStages]
def wsX5_emptyAfter_r2 : List Cond := [Cond.selects RX3 yX3_inStages yX3_inStages, Cond.code yX3_inStages cX3_inStages 3 (some .int), Cond.methodLink RX5 181 yX3_handOver, Cond.instanceMethod yX3_handOver, Cond.selects RX3 yX3_handOver yX3_handOver, Cond.code yX3_handOver cX3_handOver 9 (some .int), Cond.methodLink RX3 60 Lib.Math.min.name, Cond.static Lib.Math.min.name, Cond.initialized "java/lang/Math", Cond.code Lib.Math.min.name Lib.Math.min.code 2 (some .int), Cond.methodLink RX3 53 yX3_staying, Cond.instanceMethod yX3_staying, Cond.selects RX3 yX3_staying yX3_staying, Cond.code yX3_staying cX3_staying 2 (some .int), Cond.methodLink RX3 57 yX3_leaking, Cond.instanceMethod yX3_leaking, Cond.selects RX3 yX3_leaking yX3_leaking, Cond.code yX3_leaking cX3_leaking 2 (some .int)]
def wsX5_emptyAfter : List Cond := .code yX5_emptyAfter cX5_emptyAfter 2 (some .int) :: ((wsX5_emptyAfter_r1 ++ wsX5_emptyAfter_r2) ++ wsX50 ++ wsX10 ++ wsX30)
def wsX5_outputWithoutShares_r1 : List Cond := [Cond.fieldLink RX5 33 "ChargeLines" "trial" "LChargeLines$Stages;", Cond.fieldLink RX5 12 "ChargeLines" "line" "LChargeLines$Line;", Cond.fieldLink RX5 54 "ChargeLines$Line" "stages" "LChargeLines$Stages;", Cond.fieldLink RX5 187 "ChargeLines$Stages" "many" "I", Cond.fieldLink RX5 78 "ChargeLines$Line" "settings" "[I", Cond.methodLink RX5 173 yX3_copyFrom, Cond.instanceMethod yX3_copyFrom, Cond.selects RX3 yX3_copyFrom yX3_copyFrom, Cond.initialized RX3, Cond.code yX3_copyFrom cX3_copyFrom 2 none, Cond.fieldLink RX3 9 "ChargeLines$Stages" "many" "I", Cond.fieldLink RX3 15 "ChargeLines$Stages" "charge" "[I", Cond.methodLink RX3 25 arraycopyName, Cond.native arraycopyName, Cond.static arraycopyName, Cond.initialized "java/lang/System", Cond.fieldLink RX3 19 "ChargeLines$Stages" "stays" "[I", Cond.fieldLink RX3 22 "ChargeLines$Stages" "leaks" "[I", Cond.fieldLink RX3 31 "ChargeLines$Stages" "given" "I", Cond.fieldLink RX3 34 "ChargeLines$Stages" "cameOut" "I", Cond.fieldLink RX3 37 "ChargeLines$Stages" "leaked" "I", Cond.fieldLink RX3 40 "ChargeLines$Stages" "spilled" "I", Cond.methodLink RX5 68 yX3_changeShares, Cond.instanceMethod yX3_changeShares]
def wsX5_outputWithoutShares_r2 : List Cond := [Cond.selects RX3 yX3_changeShares yX3_changeShares, Cond.code yX3_changeShares cX3_changeShares 4 none, Cond.methodLink RX5 177 yX3_outputOfLone, Cond.instanceMethod yX3_outputOfLone, Cond.selects RX3 yX3_outputOfLone yX3_outputOfLone, Cond.code yX3_outputOfLone cX3_outputOfLone 6 (some .int), Cond.methodLink RX3 66 yX3_empty, Cond.instanceMethod yX3_empty, Cond.selects RX3 yX3_empty yX3_empty, Cond.code yX3_empty cX3_empty 1 none, Cond.methodLink RX3 47 yJ7_fill_53178, Cond.static yJ7_fill_53178, Cond.initialized RJ7, Cond.code yJ7_fill_53178 cJ7_fill_53178 4 none, Cond.methodLink RX3 69 yX3_handOver, Cond.instanceMethod yX3_handOver, Cond.selects RX3 yX3_handOver yX3_handOver, Cond.code yX3_handOver cX3_handOver 9 (some .int), Cond.methodLink RX3 60 Lib.Math.min.name, Cond.static Lib.Math.min.name, Cond.initialized "java/lang/Math", Cond.code Lib.Math.min.name Lib.Math.min.code 2 (some .int), Cond.methodLink RX3 53 yX3_staying, Cond.instanceMethod yX3_staying]
def wsX5_outputWithoutShares_r3 : List Cond := [Cond.selects RX3 yX3_staying yX3_staying, Cond.code yX3_staying cX3_staying 2 (some .int), Cond.methodLink RX3 57 yX3_leaking, Cond.instanceMethod yX3_leaking, Cond.selects RX3 yX3_leaking yX3_leaking, Cond.code yX3_leaking cX3_leaking 2 (some .int)]
def wsX5_outputWithoutShares : List Cond := .code yX5_outputWithoutShares cX5_outputWithoutShares 2 (some .int) :: ((wsX5_outputWithoutShares_r1 ++ (wsX5_outputWithoutShares_r2 ++ wsX5_outputWithoutShares_r3)) ++ wsX50 ++ wsX10 ++ wsX30)
def wsX5_worn_r1 : List Cond := [Cond.constant RX5 41 (-2000001), Cond.fieldLink RX5 12 "ChargeLines" "line" "LChargeLines$Line;", Cond.fieldLink RX5 54 "ChargeLines$Line" "stages" "LChargeLines$Stages;", Cond.fieldLink RX5 187 "ChargeLines$Stages" "many" "I", Cond.methodLink RX5 37 yX5_outside, Cond.static yX5_outside, Cond.initialized RX5, Cond.code yX5_outside cX5_outside 3 (some .boolean), Cond.methodLink RX5 184 yX5_outputWithoutShares, Cond.instanceMethod yX5_outputWithoutShares, Cond.selects RX5 yX5_outputWithoutShares yX5_outputWithoutShares, Cond.code yX5_outputWithoutShares cX5_outputWithoutShares 2 (some .int), Cond.fieldLink RX5 33 "ChargeLines" "trial" "LChargeLines$Stages;", Cond.fieldLink RX5 78 "ChargeLines$Line" "settings" "[I", Cond.methodLink RX5 173 yX3_copyFrom, Cond.instanceMethod yX3_copyFrom, Cond.selects RX3 yX3_copyFrom yX3_copyFrom, Cond.initialized RX3, Cond.code yX3_copyFrom cX3_copyFrom 2 none, Cond.fieldLink RX3 9 "ChargeLines$Stages" "many" "I", Cond.fieldLink RX3 15 "ChargeLines$Stages" "charge" "[I", Cond.methodLink RX3 25 arraycopyName, Cond.native arraycopyName, Cond.static arraycopyName]
def wsX5_worn_r2 : List Cond := [Cond.initialized "java/lang/System", Cond.fieldLink RX3 19 "ChargeLines$Stages" "stays" "[I", Cond.fieldLink RX3 22 "ChargeLines$Stages" "leaks" "[I", Cond.fieldLink RX3 31 "ChargeLines$Stages" "given" "I", Cond.fieldLink RX3 34 "ChargeLines$Stages" "cameOut" "I", Cond.fieldLink RX3 37 "ChargeLines$Stages" "leaked" "I", Cond.fieldLink RX3 40 "ChargeLines$Stages" "spilled" "I", Cond.methodLink RX5 68 yX3_changeShares, Cond.instanceMethod yX3_changeShares, Cond.selects RX3 yX3_changeShares yX3_changeShares, Cond.code yX3_changeShares cX3_changeShares 4 none, Cond.methodLink RX5 177 yX3_outputOfLone, Cond.instanceMethod yX3_outputOfLone, Cond.selects RX3 yX3_outputOfLone yX3_outputOfLone, Cond.code yX3_outputOfLone cX3_outputOfLone 6 (some .int), Cond.methodLink RX3 66 yX3_empty, Cond.instanceMethod yX3_empty, Cond.selects RX3 yX3_empty yX3_empty, Cond.code yX3_empty cX3_empty 1 none, Cond.methodLink RX3 47 yJ7_fill_53178, Cond.static yJ7_fill_53178, Cond.initialized RJ7, Cond.code yJ7_fill_53178 cJ7_fill_53178 4 none, Cond.methodLink RX3 69 yX3_handOver]
def wsX5_worn_r3 : List Cond := [Cond.instanceMethod yX3_handOver, Cond.selects RX3 yX3_handOver yX3_handOver, Cond.code yX3_handOver cX3_handOver 9 (some .int), Cond.methodLink RX3 60 Lib.Math.min.name, Cond.static Lib.Math.min.name, Cond.initialized "java/lang/Math", Cond.code Lib.Math.min.name Lib.Math.min.code 2 (some .int), Cond.methodLink RX3 53 yX3_staying, Cond.instanceMethod yX3_staying, Cond.selects RX3 yX3_staying yX3_staying, Cond.code yX3_staying cX3_staying 2 (some .int), Cond.methodLink RX3 57 yX3_leaking, Cond.instanceMethod yX3_leaking, Cond.selects RX3 yX3_leaking yX3_leaking, Cond.code yX3_leaking cX3_leaking 2 (some .int)]
def wsX5_worn : List Cond := .code yX5_worn cX5_worn 6 (some .int) :: ((wsX5_worn_r1 ++ (wsX5_worn_r2 ++ wsX5_worn_r3)) ++ wsX50 ++ wsX10 ++ wsX30)
def wsX5_safe_r1 : List Cond := [Cond.fieldLink RX5 12 "ChargeLines" "line" "LChargeLines$Line;", Cond.fieldLink RX5 78 "ChargeLines$Line" "settings" "[I", Cond.fieldLink RX5 33 "ChargeLines" "trial" "LChargeLines$Stages;", Cond.fieldLink RX5 54 "ChargeLines$Line" "stages" "LChargeLines$Stages;", Cond.methodLink RX5 173 yX3_copyFrom, Cond.instanceMethod yX3_copyFrom, Cond.selects RX3 yX3_copyFrom yX3_copyFrom, Cond.initialized RX3, Cond.code yX3_copyFrom cX3_copyFrom 2 none, Cond.fieldLink RX3 9 "ChargeLines$Stages" "many" "I", Cond.fieldLink RX3 15 "ChargeLines$Stages" "charge" "[I", Cond.methodLink RX3 25 arraycopyName, Cond.native arraycopyName, Cond.static arraycopyName, Cond.initialized "java/lang/System", Cond.fieldLink RX3 19 "ChargeLines$Stages" "stays" "[I", Cond.fieldLink RX3 22 "ChargeLines$Stages" "leaks" "[I", Cond.fieldLink RX3 31 "ChargeLines$Stages" "given" "I", Cond.fieldLink RX3 34 "ChargeLines$Stages" "cameOut" "I", Cond.fieldLink RX3 37 "ChargeLines$Stages" "leaked" "I", Cond.fieldLink RX3 40 "ChargeLines$Stages" "spilled" "I", Cond.methodLink RX5 190 yX3_holds, Cond.instanceMethod yX3_holds, Cond.selects RX3 yX3_holds yX3_holds]
def wsX5_safe_r2 : List Cond := [Cond.code yX3_holds cX3_holds 5 (some .boolean), Cond.methodLink RX3 66 yX3_empty, Cond.instanceMethod yX3_empty, Cond.selects RX3 yX3_empty yX3_empty, Cond.code yX3_empty cX3_empty 1 none, Cond.methodLink RX3 47 yJ7_fill_53178, Cond.static yJ7_fill_53178, Cond.initialized RJ7, Cond.code yJ7_fill_53178 cJ7_fill_53178 4 none, Cond.methodLink RX3 69 yX3_handOver, Cond.instanceMethod yX3_handOver, Cond.selects RX3 yX3_handOver yX3_handOver, Cond.code yX3_handOver cX3_handOver 9 (some .int), Cond.methodLink RX3 60 Lib.Math.min.name, Cond.static Lib.Math.min.name, Cond.initialized "java/lang/Math", Cond.code Lib.Math.min.name Lib.Math.min.code 2 (some .int), Cond.methodLink RX3 53 yX3_staying, Cond.instanceMethod yX3_staying, Cond.selects RX3 yX3_staying yX3_staying, Cond.code yX3_staying cX3_staying 2 (some .int), Cond.methodLink RX3 57 yX3_leaking, Cond.instanceMethod yX3_leaking, Cond.selects RX3 yX3_leaking yX3_leaking]
def wsX5_safe_r3 : List Cond := [Cond.code yX3_leaking cX3_leaking 2 (some .int)]
def wsX5_safe : List Cond := .code yX5_safe cX5_safe 5 (some .int) :: ((wsX5_safe_r1 ++ (wsX5_safe_r2 ++ wsX5_safe_r3)) ++ wsX50 ++ wsX10 ++ wsX30)
def wsX5_settingOfCount : List Cond := .code yX5_settingOfCount cX5_settingOfCount 2 (some .int) :: ([.constant RX5 41 (-2000001), .fieldLink RX5 12 "ChargeLines" "line" "LChargeLines$Line;", .fieldLink RX5 78 "ChargeLines$Line" "settings" "[I", .methodLink RX5 37 yX5_outside, .static yX5_outside, .initialized RX5, .code yX5_outside cX5_outside 3 (some .boolean)] ++ wsX50 ++ wsX10)
def wsX5_count_r1 : List Cond := [Cond.fieldLink RX5 12 "ChargeLines" "line" "LChargeLines$Line;", Cond.fieldLink RX5 54 "ChargeLines$Line" "stages" "LChargeLines$Stages;", Cond.fieldLink RX5 187 "ChargeLines$Stages" "many" "I", Cond.fieldLink RX5 42 "ChargeLines$Line" "handOvers" "I", Cond.fieldLink RX5 193 "ChargeLines$Line" "references" "I", Cond.fieldLink RX5 128 "ChargeLines$Line" "pairs" "LChargeLines$Pairs;", Cond.fieldLink RX5 19 "ChargeLines" "history" "LChargeLines$History;", Cond.fieldLink RX5 205 "ChargeLines$History" "many" "I", Cond.fieldLink RX5 26 "ChargeLines" "text" "LChargeLines$Text;", Cond.fieldLink RX5 206 "ChargeLines$Text" "length" "I", Cond.methodLink RX5 105 yX1_keptOutputs, Cond.instanceMethod yX1_keptOutputs, Cond.selects RX1 yX1_keptOutputs yX1_keptOutputs, Cond.initialized RX1, Cond.code yX1_keptOutputs cX1_keptOutputs 1 (some .int), Cond.fieldLink RX1 62 "ChargeLines$Line" "handOvers" "I", Cond.fieldLink RX1 12 "ChargeLines$Line" "stages" "LChargeLines$Stages;", Cond.fieldLink RX1 94 "ChargeLines$Stages" "many" "I", Cond.methodLink RX1 111 Lib.Math.min.name, Cond.static Lib.Math.min.name, Cond.initialized "java/lang/Math", Cond.code Lib.Math.min.name Lib.Math.min.code 2 (some .int), Cond.methodLink RX1 116 Lib.Math.max.name, Cond.static Lib.Math.max.name]
def wsX5_count_r2 : List Cond := [Cond.code Lib.Math.max.name Lib.Math.max.code 2 (some .int), Cond.methodLink RX5 196 yX2_known, Cond.instanceMethod yX2_known, Cond.selects RX2 yX2_known yX2_known, Cond.initialized RX2, Cond.code yX2_known cX2_known 3 (some .int), Cond.methodLink RX2 30 yX2_isKnown, Cond.instanceMethod yX2_isKnown, Cond.selects RX2 yX2_isKnown yX2_isKnown, Cond.code yX2_isKnown cX2_isKnown 2 (some .boolean), Cond.fieldLink RX2 15 "ChargeLines$Pairs" "sizes" "[I", Cond.methodLink RX5 199 yX1_nextReference, Cond.instanceMethod yX1_nextReference, Cond.selects RX1 yX1_nextReference yX1_nextReference, Cond.code yX1_nextReference cX1_nextReference 1 (some .int), Cond.fieldLink RX1 66 "ChargeLines$Line" "references" "I", Cond.methodLink RX5 202 yX1_isForReference, Cond.instanceMethod yX1_isForReference, Cond.selects RX1 yX1_isForReference yX1_isForReference, Cond.code yX1_isForReference cX1_isForReference 3 (some .boolean), Cond.fieldLink RX1 34 "ChargeLines$Line" "settings" "[I", Cond.methodLink RX5 209 yX5_settingOfCount, Cond.instanceMethod yX5_settingOfCount, Cond.selects RX5 yX5_settingOfCount yX5_settingOfCount]
def wsX5_count_r3 : List Cond := [Cond.initialized RX5, Cond.code yX5_settingOfCount cX5_settingOfCount 2 (some .int), Cond.constant RX5 41 (-2000001), Cond.fieldLink RX5 78 "ChargeLines$Line" "settings" "[I", Cond.methodLink RX5 37 yX5_outside, Cond.static yX5_outside, Cond.code yX5_outside cX5_outside 3 (some .boolean)]
def wsX5_count : List Cond := .code yX5_count cX5_count 2 (some .int) :: ((wsX5_count_r1 ++ (wsX5_count_r2 ++ wsX5_count_r3)) ++ wsX50 ++ wsX10 ++ wsX30 ++ wsX00 ++ wsX40 ++ wsX20)
def wsX5_undo_r1 : List Cond := [Cond.fieldLink RX5 19 "ChargeLines" "history" "LChargeLines$History;", Cond.fieldLink RX5 205 "ChargeLines$History" "many" "I", Cond.constant RX5 212 (-2000002), Cond.fieldLink RX5 12 "ChargeLines" "line" "LChargeLines$Line;", Cond.methodLink RX5 213 yX0_restore, Cond.instanceMethod yX0_restore, Cond.selects RX0 yX0_restore yX0_restore, Cond.initialized RX0, Cond.code yX0_restore cX0_restore 2 none, Cond.fieldLink RX0 18 "ChargeLines$History" "many" "I", Cond.fieldLink RX0 11 "ChargeLines$History" "states" "[LChargeLines$Line;", Cond.fieldLink RX0 22 "ChargeLines$History" "first" "I", Cond.methodLink RX0 25 yX1_copyFrom, Cond.instanceMethod yX1_copyFrom, Cond.selects RX1 yX1_copyFrom yX1_copyFrom, Cond.initialized RX1, Cond.code yX1_copyFrom cX1_copyFrom 2 none, Cond.fieldLink RX1 12 "ChargeLines$Line" "stages" "LChargeLines$Stages;", Cond.fieldLink RX1 21 "ChargeLines$Line" "pairs" "LChargeLines$Pairs;", Cond.fieldLink RX1 34 "ChargeLines$Line" "settings" "[I", Cond.methodLink RX1 56 arraycopyName, Cond.native arraycopyName, Cond.static arraycopyName, Cond.initialized "java/lang/System"]
def wsX5_undo_r2 : List Cond := [Cond.fieldLink RX1 62 "ChargeLines$Line" "handOvers" "I", Cond.fieldLink RX1 66 "ChargeLines$Line" "references" "I", Cond.fieldLink RX1 37 "ChargeLines$Line" "samples" "[I", Cond.fieldLink RX1 40 "ChargeLines$Line" "referencesOfSamples" "[I", Cond.fieldLink RX1 43 "ChargeLines$Line" "outputs" "[I", Cond.fieldLink RX1 46 "ChargeLines$Line" "mendedOutputs" "[I", Cond.methodLink RX1 49 yX3_copyFrom, Cond.instanceMethod yX3_copyFrom, Cond.selects RX3 yX3_copyFrom yX3_copyFrom, Cond.initialized RX3, Cond.code yX3_copyFrom cX3_copyFrom 2 none, Cond.fieldLink RX3 9 "ChargeLines$Stages" "many" "I", Cond.fieldLink RX3 15 "ChargeLines$Stages" "charge" "[I", Cond.methodLink RX3 25 arraycopyName, Cond.fieldLink RX3 19 "ChargeLines$Stages" "stays" "[I", Cond.fieldLink RX3 22 "ChargeLines$Stages" "leaks" "[I", Cond.fieldLink RX3 31 "ChargeLines$Stages" "given" "I", Cond.fieldLink RX3 34 "ChargeLines$Stages" "cameOut" "I", Cond.fieldLink RX3 37 "ChargeLines$Stages" "leaked" "I", Cond.fieldLink RX3 40 "ChargeLines$Stages" "spilled" "I", Cond.methodLink RX1 53 yX2_copyFrom, Cond.instanceMethod yX2_copyFrom, Cond.selects RX2 yX2_copyFrom yX2_copyFrom, Cond.initialized RX2]
def wsX5_undo_r3 : List Cond := [Cond.code yX2_copyFrom cX2_copyFrom 2 none, Cond.fieldLink RX2 9 "ChargeLines$Pairs" "outputs" "[I", Cond.methodLink RX2 18 arraycopyName, Cond.fieldLink RX2 15 "ChargeLines$Pairs" "sizes" "[I"]
def wsX5_undo : List Cond := .code yX5_undo cX5_undo 1 (some .int) :: ((wsX5_undo_r1 ++ (wsX5_undo_r2 ++ wsX5_undo_r3)) ++ wsX50 ++ wsX00 ++ wsX10 ++ wsX30 ++ wsX20)
def wsX5_type : List Cond := .code yX5_type cX5_type 2 (some .int) :: ([.constant RX5 41 (-2000001), .fieldLink RX5 26 "ChargeLines" "text" "LChargeLines$Text;", .fieldLink RX5 206 "ChargeLines$Text" "length" "I", .constant RX5 89 (-2000003), .methodLink RX5 37 yX5_outside, .static yX5_outside, .initialized RX5, .code yX5_outside cX5_outside 3 (some .boolean), .methodLink RX5 216 yX4_append, .instanceMethod yX4_append, .selects RX4 yX4_append yX4_append, .initialized RX4, .code yX4_append cX4_append 2 none, .fieldLink RX4 19 "ChargeLines$Text" "length" "I", .fieldLink RX4 9 "ChargeLines$Text" "signs" "[C"] ++ wsX50 ++ wsX40)
def wsX5_clearText : List Cond := .code yX5_clearText cX5_clearText 2 (some .int) :: ([.fieldLink RX5 26 "ChargeLines" "text" "LChargeLines$Text;", .fieldLink RX5 206 "ChargeLines$Text" "length" "I", .methodLink RX5 220 yX4_clear, .instanceMethod yX4_clear, .selects RX4 yX4_clear yX4_clear, .initialized RX4, .code yX4_clear cX4_clear 1 none, .fieldLink RX4 19 "ChargeLines$Text" "length" "I"] ++ wsX50 ++ wsX40)
def wsX5_fault_r1 : List Cond := [Cond.constant RX5 41 (-2000001), Cond.fieldLink RX5 26 "ChargeLines" "text" "LChargeLines$Text;", Cond.fieldLink RX5 12 "ChargeLines" "line" "LChargeLines$Line;", Cond.fieldLink RX5 54 "ChargeLines$Line" "stages" "LChargeLines$Stages;", Cond.fieldLink RX5 187 "ChargeLines$Stages" "many" "I", Cond.constant RX5 109 (-2000004), Cond.fieldLink RX5 226 "ChargeLines$Text" "reason" "I", Cond.fieldLink RX5 229 "ChargeLines$Text" "cause" "I", Cond.methodLink RX5 37 yX5_outside, Cond.static yX5_outside, Cond.initialized RX5, Cond.code yX5_outside cX5_outside 3 (some .boolean), Cond.methodLink RX5 223 yX4_faultPosition, Cond.instanceMethod yX4_faultPosition, Cond.selects RX4 yX4_faultPosition yX4_faultPosition, Cond.initialized RX4, Cond.code yX4_faultPosition cX4_faultPosition 3 (some .int), Cond.fieldLink RX4 23 "ChargeLines$Text" "parts" "I", Cond.fieldLink RX4 26 "ChargeLines$Text" "samples" "I", Cond.fieldLink RX4 19 "ChargeLines$Text" "length" "I", Cond.fieldLink RX4 33 "ChargeLines$Text" "reason" "I", Cond.fieldLink RX4 36 "ChargeLines$Text" "kind" "C", Cond.fieldLink RX4 40 "ChargeLines$Text" "at" "I", Cond.constant RX4 43 (-2000004)]
def wsX5_fault_r2 : List Cond := [Cond.methodLink RX4 29 yX4_readPart, Cond.instanceMethod yX4_readPart, Cond.selects RX4 yX4_readPart yX4_readPart, Cond.code yX4_readPart cX4_readPart 3 none, Cond.fieldLink RX4 44 "ChargeLines$Text" "cause" "I", Cond.fieldLink RX4 15 "ChargeLines$Text" "numbers" "[I", Cond.methodLink RX4 47 yX4_readForm, Cond.instanceMethod yX4_readForm, Cond.selects RX4 yX4_readForm yX4_readForm, Cond.code yX4_readForm cX4_readForm 1 (some .boolean), Cond.methodLink RX4 54 yX4_reads, Cond.instanceMethod yX4_reads, Cond.selects RX4 yX4_reads yX4_reads, Cond.code yX4_reads cX4_reads 2 (some .boolean), Cond.fieldLink RX4 9 "ChargeLines$Text" "signs" "[C", Cond.methodLink RX4 58 yX4_readsNumber, Cond.instanceMethod yX4_readsNumber, Cond.selects RX4 yX4_readsNumber yX4_readsNumber, Cond.code yX4_readsNumber cX4_readsNumber 5 (some .boolean), Cond.methodLink RX4 62 yX4_atDigit, Cond.instanceMethod yX4_atDigit, Cond.selects RX4 yX4_atDigit yX4_atDigit, Cond.code yX4_atDigit cX4_atDigit 1 (some .boolean), Cond.methodLink RX4 51 yX4_findOutOfRange]
def wsX5_fault_r3 : List Cond := [Cond.instanceMethod yX4_findOutOfRange, Cond.selects RX4 yX4_findOutOfRange yX4_findOutOfRange, Cond.code yX4_findOutOfRange cX4_findOutOfRange 4 none]
def wsX5_fault : List Cond := .code yX5_fault cX5_fault 3 (some .int) :: ((wsX5_fault_r1 ++ (wsX5_fault_r2 ++ wsX5_fault_r3)) ++ wsX50 ++ wsX10 ++ wsX30 ++ wsX40)
def wsX5_playPart_r1 : List Cond := [Cond.fieldLink RX5 26 "ChargeLines" "text" "LChargeLines$Text;", Cond.fieldLink RX5 247 "ChargeLines$Text" "kind" "C", Cond.fieldLink RX5 12 "ChargeLines" "line" "LChargeLines$Line;", Cond.fieldLink RX5 251 "ChargeLines$Text" "numbers" "[I", Cond.fieldLink RX5 54 "ChargeLines$Line" "stages" "LChargeLines$Stages;", Cond.methodLink RX5 90 yX1_take, Cond.instanceMethod yX1_take, Cond.selects RX1 yX1_take yX1_take, Cond.initialized RX1, Cond.code yX1_take cX1_take 3 none, Cond.fieldLink RX1 62 "ChargeLines$Line" "handOvers" "I", Cond.fieldLink RX1 66 "ChargeLines$Line" "references" "I", Cond.fieldLink RX1 34 "ChargeLines$Line" "settings" "[I", Cond.methodLink RX1 79 yX1_isForReference, Cond.instanceMethod yX1_isForReference, Cond.selects RX1 yX1_isForReference yX1_isForReference, Cond.code yX1_isForReference cX1_isForReference 3 (some .boolean), Cond.methodLink RX1 83 yX1_nextReference, Cond.instanceMethod yX1_nextReference, Cond.selects RX1 yX1_nextReference yX1_nextReference, Cond.code yX1_nextReference cX1_nextReference 1 (some .int), Cond.methodLink RX1 87 yX1_handOver, Cond.instanceMethod yX1_handOver, Cond.selects RX1 yX1_handOver yX1_handOver]
def wsX5_playPart_r2 : List Cond := [Cond.code yX1_handOver cX1_handOver 5 none, Cond.fieldLink RX1 12 "ChargeLines$Line" "stages" "LChargeLines$Stages;", Cond.fieldLink RX1 37 "ChargeLines$Line" "samples" "[I", Cond.fieldLink RX1 40 "ChargeLines$Line" "referencesOfSamples" "[I", Cond.fieldLink RX1 43 "ChargeLines$Line" "outputs" "[I", Cond.fieldLink RX1 94 "ChargeLines$Stages" "many" "I", Cond.fieldLink RX1 46 "ChargeLines$Line" "mendedOutputs" "[I", Cond.fieldLink RX1 21 "ChargeLines$Line" "pairs" "LChargeLines$Pairs;", Cond.methodLink RX1 91 yX3_handOver, Cond.instanceMethod yX3_handOver, Cond.selects RX3 yX3_handOver yX3_handOver, Cond.initialized RX3, Cond.code yX3_handOver cX3_handOver 9 (some .int), Cond.fieldLink RX3 9 "ChargeLines$Stages" "many" "I", Cond.fieldLink RX3 15 "ChargeLines$Stages" "charge" "[I", Cond.methodLink RX3 60 Lib.Math.min.name, Cond.static Lib.Math.min.name, Cond.initialized "java/lang/Math", Cond.code Lib.Math.min.name Lib.Math.min.code 2 (some .int), Cond.fieldLink RX3 40 "ChargeLines$Stages" "spilled" "I", Cond.fieldLink RX3 37 "ChargeLines$Stages" "leaked" "I", Cond.fieldLink RX3 31 "ChargeLines$Stages" "given" "I", Cond.fieldLink RX3 34 "ChargeLines$Stages" "cameOut" "I", Cond.methodLink RX3 53 yX3_staying]
def wsX5_playPart_r3 : List Cond := [Cond.instanceMethod yX3_staying, Cond.selects RX3 yX3_staying yX3_staying, Cond.code yX3_staying cX3_staying 2 (some .int), Cond.fieldLink RX3 19 "ChargeLines$Stages" "stays" "[I", Cond.methodLink RX3 57 yX3_leaking, Cond.instanceMethod yX3_leaking, Cond.selects RX3 yX3_leaking yX3_leaking, Cond.code yX3_leaking cX3_leaking 2 (some .int), Cond.fieldLink RX3 22 "ChargeLines$Stages" "leaks" "[I", Cond.methodLink RX1 97 yX1_sourceSlot, Cond.instanceMethod yX1_sourceSlot, Cond.selects RX1 yX1_sourceSlot yX1_sourceSlot, Cond.code yX1_sourceSlot cX1_sourceSlot 2 (some .int), Cond.methodLink RX1 101 yX1_learnFrom, Cond.instanceMethod yX1_learnFrom, Cond.selects RX1 yX1_learnFrom yX1_learnFrom, Cond.code yX1_learnFrom cX1_learnFrom 4 none, Cond.methodLink RX1 107 yX2_learn, Cond.instanceMethod yX2_learn, Cond.selects RX2 yX2_learn yX2_learn, Cond.initialized RX2, Cond.code yX2_learn cX2_learn 4 none, Cond.fieldLink RX2 9 "ChargeLines$Pairs" "outputs" "[I", Cond.fieldLink RX2 15 "ChargeLines$Pairs" "sizes" "[I"]
def wsX5_playPart_r4 : List Cond := [Cond.methodLink RX1 104 yX2_mend, Cond.instanceMethod yX2_mend, Cond.selects RX2 yX2_mend yX2_mend, Cond.code yX2_mend cX2_mend 6 (some .int), Cond.constant RX2 34 (-2000004), Cond.methodLink RX2 30 yX2_isKnown, Cond.instanceMethod yX2_isKnown, Cond.selects RX2 yX2_isKnown yX2_isKnown, Cond.code yX2_isKnown cX2_isKnown 2 (some .boolean), Cond.methodLink RX2 35 yX2_mendBy, Cond.instanceMethod yX2_mendBy, Cond.selects RX2 yX2_mendBy yX2_mendBy, Cond.code yX2_mendBy cX2_mendBy 6 (some .int), Cond.constantLong RX2 48 (1000000), Cond.methodLink RX2 50 Lib.MathLoose.min_long.x, Cond.static Lib.MathLoose.min_long.x, Cond.code Lib.MathLoose.min_long.x Lib.MathLoose.min_long.code 4 (some .long), Cond.methodLink RX2 39 yX2_mendBetween, Cond.instanceMethod yX2_mendBetween, Cond.selects RX2 yX2_mendBetween yX2_mendBetween, Cond.code yX2_mendBetween cX2_mendBetween 6 (some .int), Cond.methodLink RX2 43 yJ9_floorDiv_7cf53, Cond.static yJ9_floorDiv_7cf53, Cond.initialized RJ9]
def wsX5_playPart_r5 : List Cond := [Cond.code yJ9_floorDiv_7cf53 cJ9_floorDiv_7cf53 3 (some .int), Cond.methodLink RX5 57 yX3_has, Cond.instanceMethod yX3_has, Cond.selects RX3 yX3_has yX3_has, Cond.code yX3_has cX3_has 2 (some .boolean), Cond.methodLink RX5 68 yX3_changeShares, Cond.instanceMethod yX3_changeShares, Cond.selects RX3 yX3_changeShares yX3_changeShares, Cond.code yX3_changeShares cX3_changeShares 4 none]
def wsX5_playPart : List Cond := .code yX5_playPart cX5_playPart 1 none :: ((wsX5_playPart_r1 ++ (wsX5_playPart_r2 ++ (wsX5_playPart_r3 ++ (wsX5_playPart_r4 ++ wsX5_playPart_r5)))) ++ wsX50 ++ wsX40 ++ wsX10 ++ wsX30 ++ wsX20)
def wsX5_play_r1 : List Cond := [Cond.fieldLink RX5 12 "ChargeLines" "line" "LChargeLines$Line;", Cond.fieldLink RX5 54 "ChargeLines$Line" "stages" "LChargeLines$Stages;", Cond.fieldLink RX5 187 "ChargeLines$Stages" "many" "I", Cond.fieldLink RX5 26 "ChargeLines" "text" "LChargeLines$Text;", Cond.constant RX5 109 (-2000004), Cond.constant RX5 212 (-2000002), Cond.fieldLink RX5 232 "ChargeLines$Text" "samples" "I", Cond.constant RX5 89 (-2000003), Cond.fieldLink RX5 19 "ChargeLines" "history" "LChargeLines$History;", Cond.fieldLink RX5 234 "ChargeLines$Text" "parts" "I", Cond.fieldLink RX5 244 "ChargeLines$Text" "at" "I", Cond.methodLink RX5 223 yX4_faultPosition, Cond.instanceMethod yX4_faultPosition, Cond.selects RX4 yX4_faultPosition yX4_faultPosition, Cond.initialized RX4, Cond.code yX4_faultPosition cX4_faultPosition 3 (some .int), Cond.fieldLink RX4 23 "ChargeLines$Text" "parts" "I", Cond.fieldLink RX4 26 "ChargeLines$Text" "samples" "I", Cond.fieldLink RX4 19 "ChargeLines$Text" "length" "I", Cond.fieldLink RX4 33 "ChargeLines$Text" "reason" "I", Cond.fieldLink RX4 36 "ChargeLines$Text" "kind" "C", Cond.fieldLink RX4 40 "ChargeLines$Text" "at" "I", Cond.constant RX4 43 (-2000004), Cond.methodLink RX4 29 yX4_readPart]
def wsX5_play_r2 : List Cond := [Cond.instanceMethod yX4_readPart, Cond.selects RX4 yX4_readPart yX4_readPart, Cond.code yX4_readPart cX4_readPart 3 none, Cond.fieldLink RX4 44 "ChargeLines$Text" "cause" "I", Cond.fieldLink RX4 15 "ChargeLines$Text" "numbers" "[I", Cond.methodLink RX4 47 yX4_readForm, Cond.instanceMethod yX4_readForm, Cond.selects RX4 yX4_readForm yX4_readForm, Cond.code yX4_readForm cX4_readForm 1 (some .boolean), Cond.methodLink RX4 54 yX4_reads, Cond.instanceMethod yX4_reads, Cond.selects RX4 yX4_reads yX4_reads, Cond.code yX4_reads cX4_reads 2 (some .boolean), Cond.fieldLink RX4 9 "ChargeLines$Text" "signs" "[C", Cond.methodLink RX4 58 yX4_readsNumber, Cond.instanceMethod yX4_readsNumber, Cond.selects RX4 yX4_readsNumber yX4_readsNumber, Cond.code yX4_readsNumber cX4_readsNumber 5 (some .boolean), Cond.methodLink RX4 62 yX4_atDigit, Cond.instanceMethod yX4_atDigit, Cond.selects RX4 yX4_atDigit yX4_atDigit, Cond.code yX4_atDigit cX4_atDigit 1 (some .boolean), Cond.methodLink RX4 51 yX4_findOutOfRange, Cond.instanceMethod yX4_findOutOfRange]
def wsX5_play_r3 : List Cond := [Cond.selects RX4 yX4_findOutOfRange yX4_findOutOfRange, Cond.code yX4_findOutOfRange cX4_findOutOfRange 4 none, Cond.methodLink RX5 85 yX1_handOversBehind, Cond.instanceMethod yX1_handOversBehind, Cond.selects RX1 yX1_handOversBehind yX1_handOversBehind, Cond.initialized RX1, Cond.code yX1_handOversBehind cX1_handOversBehind 4 (some .int), Cond.fieldLink RX1 62 "ChargeLines$Line" "handOvers" "I", Cond.methodLink RX1 79 yX1_isForReference, Cond.instanceMethod yX1_isForReference, Cond.selects RX1 yX1_isForReference yX1_isForReference, Cond.code yX1_isForReference cX1_isForReference 3 (some .boolean), Cond.fieldLink RX1 34 "ChargeLines$Line" "settings" "[I", Cond.methodLink RX5 46 yX0_keep, Cond.instanceMethod yX0_keep, Cond.selects RX0 yX0_keep yX0_keep, Cond.initialized RX0, Cond.code yX0_keep cX0_keep 2 none, Cond.fieldLink RX0 18 "ChargeLines$History" "many" "I", Cond.fieldLink RX0 22 "ChargeLines$History" "first" "I", Cond.fieldLink RX0 11 "ChargeLines$History" "states" "[LChargeLines$Line;", Cond.methodLink RX0 25 yX1_copyFrom, Cond.instanceMethod yX1_copyFrom, Cond.selects RX1 yX1_copyFrom yX1_copyFrom]
def wsX5_play_r4 : List Cond := [Cond.code yX1_copyFrom cX1_copyFrom 2 none, Cond.fieldLink RX1 12 "ChargeLines$Line" "stages" "LChargeLines$Stages;", Cond.fieldLink RX1 21 "ChargeLines$Line" "pairs" "LChargeLines$Pairs;", Cond.methodLink RX1 56 arraycopyName, Cond.native arraycopyName, Cond.static arraycopyName, Cond.initialized "java/lang/System", Cond.fieldLink RX1 66 "ChargeLines$Line" "references" "I", Cond.fieldLink RX1 37 "ChargeLines$Line" "samples" "[I", Cond.fieldLink RX1 40 "ChargeLines$Line" "referencesOfSamples" "[I", Cond.fieldLink RX1 43 "ChargeLines$Line" "outputs" "[I", Cond.fieldLink RX1 46 "ChargeLines$Line" "mendedOutputs" "[I", Cond.methodLink RX1 49 yX3_copyFrom, Cond.instanceMethod yX3_copyFrom, Cond.selects RX3 yX3_copyFrom yX3_copyFrom, Cond.initialized RX3, Cond.code yX3_copyFrom cX3_copyFrom 2 none, Cond.fieldLink RX3 9 "ChargeLines$Stages" "many" "I", Cond.fieldLink RX3 15 "ChargeLines$Stages" "charge" "[I", Cond.methodLink RX3 25 arraycopyName, Cond.fieldLink RX3 19 "ChargeLines$Stages" "stays" "[I", Cond.fieldLink RX3 22 "ChargeLines$Stages" "leaks" "[I", Cond.fieldLink RX3 31 "ChargeLines$Stages" "given" "I", Cond.fieldLink RX3 34 "ChargeLines$Stages" "cameOut" "I"]
def wsX5_play_r5 : List Cond := [Cond.fieldLink RX3 37 "ChargeLines$Stages" "leaked" "I", Cond.fieldLink RX3 40 "ChargeLines$Stages" "spilled" "I", Cond.methodLink RX1 53 yX2_copyFrom, Cond.instanceMethod yX2_copyFrom, Cond.selects RX2 yX2_copyFrom yX2_copyFrom, Cond.initialized RX2, Cond.code yX2_copyFrom cX2_copyFrom 2 none, Cond.fieldLink RX2 9 "ChargeLines$Pairs" "outputs" "[I", Cond.methodLink RX2 18 arraycopyName, Cond.fieldLink RX2 15 "ChargeLines$Pairs" "sizes" "[I", Cond.methodLink RX5 237 yX4_readPart, Cond.methodLink RX5 241 yX5_playPart, Cond.instanceMethod yX5_playPart, Cond.selects RX5 yX5_playPart yX5_playPart, Cond.initialized RX5, Cond.code yX5_playPart cX5_playPart 1 none, Cond.fieldLink RX5 247 "ChargeLines$Text" "kind" "C", Cond.fieldLink RX5 251 "ChargeLines$Text" "numbers" "[I", Cond.methodLink RX5 90 yX1_take, Cond.instanceMethod yX1_take, Cond.selects RX1 yX1_take yX1_take, Cond.code yX1_take cX1_take 3 none, Cond.methodLink RX1 83 yX1_nextReference, Cond.instanceMethod yX1_nextReference]
def wsX5_play_r6 : List Cond := [Cond.selects RX1 yX1_nextReference yX1_nextReference, Cond.code yX1_nextReference cX1_nextReference 1 (some .int), Cond.methodLink RX1 87 yX1_handOver, Cond.instanceMethod yX1_handOver, Cond.selects RX1 yX1_handOver yX1_handOver, Cond.code yX1_handOver cX1_handOver 5 none, Cond.fieldLink RX1 94 "ChargeLines$Stages" "many" "I", Cond.methodLink RX1 91 yX3_handOver, Cond.instanceMethod yX3_handOver, Cond.selects RX3 yX3_handOver yX3_handOver, Cond.code yX3_handOver cX3_handOver 9 (some .int), Cond.methodLink RX3 60 Lib.Math.min.name, Cond.static Lib.Math.min.name, Cond.initialized "java/lang/Math", Cond.code Lib.Math.min.name Lib.Math.min.code 2 (some .int), Cond.methodLink RX3 53 yX3_staying, Cond.instanceMethod yX3_staying, Cond.selects RX3 yX3_staying yX3_staying, Cond.code yX3_staying cX3_staying 2 (some .int), Cond.methodLink RX3 57 yX3_leaking, Cond.instanceMethod yX3_leaking, Cond.selects RX3 yX3_leaking yX3_leaking, Cond.code yX3_leaking cX3_leaking 2 (some .int), Cond.methodLink RX1 97 yX1_sourceSlot]
def wsX5_play_r7 : List Cond := [Cond.instanceMethod yX1_sourceSlot, Cond.selects RX1 yX1_sourceSlot yX1_sourceSlot, Cond.code yX1_sourceSlot cX1_sourceSlot 2 (some .int), Cond.methodLink RX1 101 yX1_learnFrom, Cond.instanceMethod yX1_learnFrom, Cond.selects RX1 yX1_learnFrom yX1_learnFrom, Cond.code yX1_learnFrom cX1_learnFrom 4 none, Cond.methodLink RX1 107 yX2_learn, Cond.instanceMethod yX2_learn, Cond.selects RX2 yX2_learn yX2_learn, Cond.code yX2_learn cX2_learn 4 none, Cond.methodLink RX1 104 yX2_mend, Cond.instanceMethod yX2_mend, Cond.selects RX2 yX2_mend yX2_mend, Cond.code yX2_mend cX2_mend 6 (some .int), Cond.constant RX2 34 (-2000004), Cond.methodLink RX2 30 yX2_isKnown, Cond.instanceMethod yX2_isKnown, Cond.selects RX2 yX2_isKnown yX2_isKnown, Cond.code yX2_isKnown cX2_isKnown 2 (some .boolean), Cond.methodLink RX2 35 yX2_mendBy, Cond.instanceMethod yX2_mendBy, Cond.selects RX2 yX2_mendBy yX2_mendBy, Cond.code yX2_mendBy cX2_mendBy 6 (some .int)]
def wsX5_play_r8 : List Cond := [Cond.constantLong RX2 48 (1000000), Cond.methodLink RX2 50 Lib.MathLoose.min_long.x, Cond.static Lib.MathLoose.min_long.x, Cond.code Lib.MathLoose.min_long.x Lib.MathLoose.min_long.code 4 (some .long), Cond.methodLink RX2 39 yX2_mendBetween, Cond.instanceMethod yX2_mendBetween, Cond.selects RX2 yX2_mendBetween yX2_mendBetween, Cond.code yX2_mendBetween cX2_mendBetween 6 (some .int), Cond.methodLink RX2 43 yJ9_floorDiv_7cf53, Cond.static yJ9_floorDiv_7cf53, Cond.initialized RJ9, Cond.code yJ9_floorDiv_7cf53 cJ9_floorDiv_7cf53 3 (some .int), Cond.methodLink RX5 57 yX3_has, Cond.instanceMethod yX3_has, Cond.selects RX3 yX3_has yX3_has, Cond.code yX3_has cX3_has 2 (some .boolean), Cond.methodLink RX5 68 yX3_changeShares, Cond.instanceMethod yX3_changeShares, Cond.selects RX3 yX3_changeShares yX3_changeShares, Cond.code yX3_changeShares cX3_changeShares 4 none]
def wsX5_play : List Cond := .code yX5_play cX5_play 5 (some .int) :: ((wsX5_play_r1 ++ (wsX5_play_r2 ++ (wsX5_play_r3 ++ (wsX5_play_r4 ++ (wsX5_play_r5 ++ (wsX5_play_r6 ++ (wsX5_play_r7 ++ wsX5_play_r8))))))) ++ wsX50 ++ wsX10 ++ wsX30 ++ wsX40 ++ wsX00 ++ wsX20)
def wsX6_begins : List Cond := .code yX6_begins cX6_begins 2 none :: ([.fieldLink RX6 7 "ChargeLinesModel" "s" "[I"] ++ wsX60)
def wsX6_init : List Cond := .code yX6_init cX6_init 1 none :: ([.methodLink RX6 1 objectInit, .instanceMethod objectInit, .code objectInit ⟨#[0xb1]⟩ 1 none, .arrayClass .int, .fieldLink RX6 7 "ChargeLinesModel" "s" "[I", .fieldLink RX6 13 "ChargeLinesModel" "trial" "[I", .fieldLink RX6 16 "ChargeLinesModel" "past" "[I", .fieldLink RX6 19 "ChargeLinesModel" "text" "[I", .fieldLink RX6 22 "ChargeLinesModel" "row" "[I", .fieldLink RX6 25 "ChargeLinesModel" "told" "[I", .methodLink RX6 28 yX6_begins, .instanceMethod yX6_begins, .selects RX6 yX6_begins yX6_begins, .initialized RX6, .code yX6_begins cX6_begins 2 none] ++ wsX60)
def wsX6_in : List Cond := .code yX6_in cX6_in 3 (some .boolean) :: ([])
def wsX6_records : List Cond := .code yX6_records cX6_records 2 none :: ([.fieldLink RX6 31 "ChargeLinesModel" "saved" "I", .fieldLink RX6 16 "ChargeLinesModel" "past" "[I", .fieldLink RX6 7 "ChargeLinesModel" "s" "[I"] ++ wsX60)
def wsX6_undo : List Cond := .code yX6_undo cX6_undo 2 (some .int) :: ([.fieldLink RX6 31 "ChargeLinesModel" "saved" "I", .constant RX6 35 (-2000002), .fieldLink RX6 7 "ChargeLinesModel" "s" "[I", .fieldLink RX6 16 "ChargeLinesModel" "past" "[I"] ++ wsX60)
def wsX6_staying : List Cond := .code yX6_staying cX6_staying 2 (some .int) :: ([])
def wsX6_leaking : List Cond := .code yX6_leaking cX6_leaking 2 (some .int) :: ([.methodLink RX6 36 yX6_staying, .static yX6_staying, .initialized RX6, .code yX6_staying cX6_staying 2 (some .int)])
def wsX6_moving : List Cond := .code yX6_moving cX6_moving 2 (some .int) :: ([.methodLink RX6 36 yX6_staying, .static yX6_staying, .initialized RX6, .code yX6_staying cX6_staying 2 (some .int), .methodLink RX6 40 yX6_leaking, .static yX6_leaking, .code yX6_leaking cX6_leaking 2 (some .int)])
def wsX6_handsOver : List Cond := .code yX6_handsOver cX6_handsOver 8 (some .int) :: ([.methodLink RX6 36 yX6_staying, .static yX6_staying, .initialized RX6, .code yX6_staying cX6_staying 2 (some .int), .methodLink RX6 43 yX6_moving, .static yX6_moving, .code yX6_moving cX6_moving 2 (some .int), .methodLink RX6 40 yX6_leaking, .static yX6_leaking, .code yX6_leaking cX6_leaking 2 (some .int)])
def wsX6_counts : List Cond := .code yX6_counts cX6_counts 4 (some .boolean) :: ([.fieldLink RX6 7 "ChargeLinesModel" "s" "[I"] ++ wsX60)
def wsX6_laysRow : List Cond := .code yX6_laysRow cX6_laysRow 3 none :: ([.fieldLink RX6 93 "ChargeLinesModel" "rowMany" "I", .fieldLink RX6 7 "ChargeLinesModel" "s" "[I", .fieldLink RX6 22 "ChargeLinesModel" "row" "[I", .methodLink RX6 96 yX6_counts, .instanceMethod yX6_counts, .selects RX6 yX6_counts yX6_counts, .initialized RX6, .code yX6_counts cX6_counts 4 (some .boolean)] ++ wsX60)
def wsX6_alone : List Cond := .code yX6_alone cX6_alone 3 (some .long) :: ([.fieldLink RX6 7 "ChargeLinesModel" "s" "[I"] ++ wsX60)
def wsX6_down : List Cond := .code yX6_down cX6_down 6 (some .long) :: ([])
def wsX6_between : List Cond := .code yX6_between cX6_between 10 (some .long) :: ([.fieldLink RX6 7 "ChargeLinesModel" "s" "[I", .methodLink RX6 99 yX6_down, .static yX6_down, .initialized RX6, .code yX6_down cX6_down 6 (some .long)] ++ wsX60)
def wsX6_mends_r1 : List Cond := [Cond.fieldLink RX6 93 "ChargeLinesModel" "rowMany" "I", Cond.fieldLink RX6 22 "ChargeLinesModel" "row" "[I", Cond.fieldLink RX6 7 "ChargeLinesModel" "s" "[I", Cond.constantLong RX6 114 (1000000), Cond.constant RX6 116 (1000000), Cond.methodLink RX6 103 yX6_laysRow, Cond.instanceMethod yX6_laysRow, Cond.selects RX6 yX6_laysRow yX6_laysRow, Cond.initialized RX6, Cond.code yX6_laysRow cX6_laysRow 3 none, Cond.methodLink RX6 96 yX6_counts, Cond.instanceMethod yX6_counts, Cond.selects RX6 yX6_counts yX6_counts, Cond.code yX6_counts cX6_counts 4 (some .boolean), Cond.methodLink RX6 106 yX6_alone, Cond.instanceMethod yX6_alone, Cond.selects RX6 yX6_alone yX6_alone, Cond.code yX6_alone cX6_alone 3 (some .long), Cond.methodLink RX6 110 yX6_between, Cond.instanceMethod yX6_between, Cond.selects RX6 yX6_between yX6_between, Cond.code yX6_between cX6_between 10 (some .long), Cond.methodLink RX6 99 yX6_down, Cond.static yX6_down]
def wsX6_mends_r2 : List Cond := [Cond.code yX6_down cX6_down 6 (some .long)]
def wsX6_mends : List Cond := .code yX6_mends cX6_mends 6 (some .int) :: ((wsX6_mends_r1 ++ wsX6_mends_r2) ++ wsX60)
def wsX6_comes_r1 : List Cond := [Cond.fieldLink RX6 7 "ChargeLinesModel" "s" "[I", Cond.methodLink RX6 46 yX6_mends, Cond.instanceMethod yX6_mends, Cond.selects RX6 yX6_mends yX6_mends, Cond.initialized RX6, Cond.code yX6_mends cX6_mends 6 (some .int), Cond.fieldLink RX6 93 "ChargeLinesModel" "rowMany" "I", Cond.fieldLink RX6 22 "ChargeLinesModel" "row" "[I", Cond.constantLong RX6 114 (1000000), Cond.constant RX6 116 (1000000), Cond.methodLink RX6 103 yX6_laysRow, Cond.instanceMethod yX6_laysRow, Cond.selects RX6 yX6_laysRow yX6_laysRow, Cond.code yX6_laysRow cX6_laysRow 3 none, Cond.methodLink RX6 96 yX6_counts, Cond.instanceMethod yX6_counts, Cond.selects RX6 yX6_counts yX6_counts, Cond.code yX6_counts cX6_counts 4 (some .boolean), Cond.methodLink RX6 106 yX6_alone, Cond.instanceMethod yX6_alone, Cond.selects RX6 yX6_alone yX6_alone, Cond.code yX6_alone cX6_alone 3 (some .long), Cond.methodLink RX6 110 yX6_between, Cond.instanceMethod yX6_between]
def wsX6_comes_r2 : List Cond := [Cond.selects RX6 yX6_between yX6_between, Cond.code yX6_between cX6_between 10 (some .long), Cond.methodLink RX6 99 yX6_down, Cond.static yX6_down, Cond.code yX6_down cX6_down 6 (some .long)]
def wsX6_comes : List Cond := .code yX6_comes cX6_comes 6 none :: ((wsX6_comes_r1 ++ wsX6_comes_r2) ++ wsX60)
def wsX6_passes_r1 : List Cond := [Cond.fieldLink RX6 7 "ChargeLinesModel" "s" "[I", Cond.methodLink RX6 50 yX6_handsOver, Cond.static yX6_handsOver, Cond.initialized RX6, Cond.code yX6_handsOver cX6_handsOver 8 (some .int), Cond.methodLink RX6 36 yX6_staying, Cond.static yX6_staying, Cond.code yX6_staying cX6_staying 2 (some .int), Cond.methodLink RX6 43 yX6_moving, Cond.static yX6_moving, Cond.code yX6_moving cX6_moving 2 (some .int), Cond.methodLink RX6 40 yX6_leaking, Cond.static yX6_leaking, Cond.code yX6_leaking cX6_leaking 2 (some .int), Cond.methodLink RX6 53 yX6_comes, Cond.instanceMethod yX6_comes, Cond.selects RX6 yX6_comes yX6_comes, Cond.code yX6_comes cX6_comes 6 none, Cond.methodLink RX6 46 yX6_mends, Cond.instanceMethod yX6_mends, Cond.selects RX6 yX6_mends yX6_mends, Cond.code yX6_mends cX6_mends 6 (some .int), Cond.fieldLink RX6 93 "ChargeLinesModel" "rowMany" "I", Cond.fieldLink RX6 22 "ChargeLinesModel" "row" "[I"]
def wsX6_passes_r2 : List Cond := [Cond.constantLong RX6 114 (1000000), Cond.constant RX6 116 (1000000), Cond.methodLink RX6 103 yX6_laysRow, Cond.instanceMethod yX6_laysRow, Cond.selects RX6 yX6_laysRow yX6_laysRow, Cond.code yX6_laysRow cX6_laysRow 3 none, Cond.methodLink RX6 96 yX6_counts, Cond.instanceMethod yX6_counts, Cond.selects RX6 yX6_counts yX6_counts, Cond.code yX6_counts cX6_counts 4 (some .boolean), Cond.methodLink RX6 106 yX6_alone, Cond.instanceMethod yX6_alone, Cond.selects RX6 yX6_alone yX6_alone, Cond.code yX6_alone cX6_alone 3 (some .long), Cond.methodLink RX6 110 yX6_between, Cond.instanceMethod yX6_between, Cond.selects RX6 yX6_between yX6_between, Cond.code yX6_between cX6_between 10 (some .long), Cond.methodLink RX6 99 yX6_down, Cond.static yX6_down, Cond.code yX6_down cX6_down 6 (some .long)]
def wsX6_passes : List Cond := .code yX6_passes cX6_passes 6 none :: ((wsX6_passes_r1 ++ wsX6_passes_r2) ++ wsX60)
def wsX6_isDue : List Cond := .code yX6_isDue cX6_isDue 2 (some .boolean) :: ([.fieldLink RX6 7 "ChargeLinesModel" "s" "[I"] ++ wsX60)
def wsX6_gives_r1 : List Cond := [Cond.fieldLink RX6 7 "ChargeLinesModel" "s" "[I", Cond.methodLink RX6 57 yX6_isDue, Cond.instanceMethod yX6_isDue, Cond.selects RX6 yX6_isDue yX6_isDue, Cond.initialized RX6, Cond.code yX6_isDue cX6_isDue 2 (some .boolean), Cond.methodLink RX6 61 yX6_passes, Cond.instanceMethod yX6_passes, Cond.selects RX6 yX6_passes yX6_passes, Cond.code yX6_passes cX6_passes 6 none, Cond.methodLink RX6 50 yX6_handsOver, Cond.static yX6_handsOver, Cond.code yX6_handsOver cX6_handsOver 8 (some .int), Cond.methodLink RX6 36 yX6_staying, Cond.static yX6_staying, Cond.code yX6_staying cX6_staying 2 (some .int), Cond.methodLink RX6 43 yX6_moving, Cond.static yX6_moving, Cond.code yX6_moving cX6_moving 2 (some .int), Cond.methodLink RX6 40 yX6_leaking, Cond.static yX6_leaking, Cond.code yX6_leaking cX6_leaking 2 (some .int), Cond.methodLink RX6 53 yX6_comes, Cond.instanceMethod yX6_comes]
def wsX6_gives_r2 : List Cond := [Cond.selects RX6 yX6_comes yX6_comes, Cond.code yX6_comes cX6_comes 6 none, Cond.methodLink RX6 46 yX6_mends, Cond.instanceMethod yX6_mends, Cond.selects RX6 yX6_mends yX6_mends, Cond.code yX6_mends cX6_mends 6 (some .int), Cond.fieldLink RX6 93 "ChargeLinesModel" "rowMany" "I", Cond.fieldLink RX6 22 "ChargeLinesModel" "row" "[I", Cond.constantLong RX6 114 (1000000), Cond.constant RX6 116 (1000000), Cond.methodLink RX6 103 yX6_laysRow, Cond.instanceMethod yX6_laysRow, Cond.selects RX6 yX6_laysRow yX6_laysRow, Cond.code yX6_laysRow cX6_laysRow 3 none, Cond.methodLink RX6 96 yX6_counts, Cond.instanceMethod yX6_counts, Cond.selects RX6 yX6_counts yX6_counts, Cond.code yX6_counts cX6_counts 4 (some .boolean), Cond.methodLink RX6 106 yX6_alone, Cond.instanceMethod yX6_alone, Cond.selects RX6 yX6_alone yX6_alone, Cond.code yX6_alone cX6_alone 3 (some .long), Cond.methodLink RX6 110 yX6_between, Cond.instanceMethod yX6_between]
def wsX6_gives_r3 : List Cond := [Cond.selects RX6 yX6_between yX6_between, Cond.code yX6_between cX6_between 10 (some .long), Cond.methodLink RX6 99 yX6_down, Cond.static yX6_down, Cond.code yX6_down cX6_down 6 (some .long)]
def wsX6_gives : List Cond := .code yX6_gives cX6_gives 3 none :: ((wsX6_gives_r1 ++ (wsX6_gives_r2 ++ wsX6_gives_r3)) ++ wsX60)
def wsX6_handedBehind : List Cond := .code yX6_handedBehind cX6_handedBehind 4 (some .int) :: ([.fieldLink RX6 7 "ChargeLinesModel" "s" "[I", .methodLink RX6 57 yX6_isDue, .instanceMethod yX6_isDue, .selects RX6 yX6_isDue yX6_isDue, .initialized RX6, .code yX6_isDue cX6_isDue 2 (some .boolean)] ++ wsX60)
def wsX6_isStage : List Cond := .code yX6_isStage cX6_isStage 2 (some .boolean) :: ([.fieldLink RX6 7 "ChargeLinesModel" "s" "[I", .methodLink RX6 65 yX6_in, .static yX6_in, .initialized RX6, .code yX6_in cX6_in 3 (some .boolean)] ++ wsX60)
def wsX6_begin : List Cond := .code yX6_begin cX6_begin 4 (some .int) :: ([.constant RX6 69 (-2000001), .fieldLink RX6 7 "ChargeLinesModel" "s" "[I", .methodLink RX6 65 yX6_in, .static yX6_in, .initialized RX6, .code yX6_in cX6_in 3 (some .boolean), .methodLink RX6 70 yX6_records, .instanceMethod yX6_records, .selects RX6 yX6_records yX6_records, .code yX6_records cX6_records 2 none, .fieldLink RX6 31 "ChargeLinesModel" "saved" "I", .fieldLink RX6 16 "ChargeLinesModel" "past" "[I", .methodLink RX6 28 yX6_begins, .instanceMethod yX6_begins, .selects RX6 yX6_begins yX6_begins, .code yX6_begins cX6_begins 2 none] ++ wsX60)
def wsX6_shares : List Cond := .code yX6_shares cX6_shares 5 (some .int) :: ([.fieldLink RX6 7 "ChargeLinesModel" "s" "[I"] ++ wsX60)
def wsX6_stage : List Cond := .code yX6_stage cX6_stage 4 (some .int) :: ([.constant RX6 69 (-2000001), .methodLink RX6 73 yX6_isStage, .instanceMethod yX6_isStage, .selects RX6 yX6_isStage yX6_isStage, .initialized RX6, .code yX6_isStage cX6_isStage 2 (some .boolean), .fieldLink RX6 7 "ChargeLinesModel" "s" "[I", .methodLink RX6 65 yX6_in, .static yX6_in, .code yX6_in cX6_in 3 (some .boolean), .methodLink RX6 70 yX6_records, .instanceMethod yX6_records, .selects RX6 yX6_records yX6_records, .code yX6_records cX6_records 2 none, .fieldLink RX6 31 "ChargeLinesModel" "saved" "I", .fieldLink RX6 16 "ChargeLinesModel" "past" "[I", .methodLink RX6 76 yX6_shares, .instanceMethod yX6_shares, .selects RX6 yX6_shares yX6_shares, .code yX6_shares cX6_shares 5 (some .int)] ++ wsX60)
def wsX6_isSetting : List Cond := .code yX6_isSetting cX6_isSetting 2 (some .boolean) :: ([.constant RX6 80 (100000), .methodLink RX6 65 yX6_in, .static yX6_in, .initialized RX6, .code yX6_in cX6_in 3 (some .boolean)])
def wsX6_set : List Cond := .code yX6_set cX6_set 4 (some .int) :: ([.constant RX6 69 (-2000001), .fieldLink RX6 7 "ChargeLinesModel" "s" "[I", .methodLink RX6 81 yX6_isSetting, .static yX6_isSetting, .initialized RX6, .code yX6_isSetting cX6_isSetting 2 (some .boolean), .constant RX6 80 (100000), .methodLink RX6 65 yX6_in, .static yX6_in, .code yX6_in cX6_in 3 (some .boolean), .methodLink RX6 70 yX6_records, .instanceMethod yX6_records, .selects RX6 yX6_records yX6_records, .code yX6_records cX6_records 2 none, .fieldLink RX6 31 "ChargeLinesModel" "saved" "I", .fieldLink RX6 16 "ChargeLinesModel" "past" "[I"] ++ wsX60)
def wsX6_give_r1 : List Cond := [Cond.constant RX6 69 (-2000001), Cond.constant RX6 88 (-2000003), Cond.fieldLink RX6 7 "ChargeLinesModel" "s" "[I", Cond.methodLink RX6 65 yX6_in, Cond.static yX6_in, Cond.initialized RX6, Cond.code yX6_in cX6_in 3 (some .boolean), Cond.methodLink RX6 85 yX6_handedBehind, Cond.instanceMethod yX6_handedBehind, Cond.selects RX6 yX6_handedBehind yX6_handedBehind, Cond.code yX6_handedBehind cX6_handedBehind 4 (some .int), Cond.methodLink RX6 57 yX6_isDue, Cond.instanceMethod yX6_isDue, Cond.selects RX6 yX6_isDue yX6_isDue, Cond.code yX6_isDue cX6_isDue 2 (some .boolean), Cond.methodLink RX6 70 yX6_records, Cond.instanceMethod yX6_records, Cond.selects RX6 yX6_records yX6_records, Cond.code yX6_records cX6_records 2 none, Cond.fieldLink RX6 31 "ChargeLinesModel" "saved" "I", Cond.fieldLink RX6 16 "ChargeLinesModel" "past" "[I", Cond.methodLink RX6 89 yX6_gives, Cond.instanceMethod yX6_gives, Cond.selects RX6 yX6_gives yX6_gives]
def wsX6_give_r2 : List Cond := [Cond.code yX6_gives cX6_gives 3 none, Cond.methodLink RX6 61 yX6_passes, Cond.instanceMethod yX6_passes, Cond.selects RX6 yX6_passes yX6_passes, Cond.code yX6_passes cX6_passes 6 none, Cond.methodLink RX6 50 yX6_handsOver, Cond.static yX6_handsOver, Cond.code yX6_handsOver cX6_handsOver 8 (some .int), Cond.methodLink RX6 36 yX6_staying, Cond.static yX6_staying, Cond.code yX6_staying cX6_staying 2 (some .int), Cond.methodLink RX6 43 yX6_moving, Cond.static yX6_moving, Cond.code yX6_moving cX6_moving 2 (some .int), Cond.methodLink RX6 40 yX6_leaking, Cond.static yX6_leaking, Cond.code yX6_leaking cX6_leaking 2 (some .int), Cond.methodLink RX6 53 yX6_comes, Cond.instanceMethod yX6_comes, Cond.selects RX6 yX6_comes yX6_comes, Cond.code yX6_comes cX6_comes 6 none, Cond.methodLink RX6 46 yX6_mends, Cond.instanceMethod yX6_mends, Cond.selects RX6 yX6_mends yX6_mends]
def wsX6_give_r3 : List Cond := [Cond.code yX6_mends cX6_mends 6 (some .int), Cond.fieldLink RX6 93 "ChargeLinesModel" "rowMany" "I", Cond.fieldLink RX6 22 "ChargeLinesModel" "row" "[I", Cond.constantLong RX6 114 (1000000), Cond.constant RX6 116 (1000000), Cond.methodLink RX6 103 yX6_laysRow, Cond.instanceMethod yX6_laysRow, Cond.selects RX6 yX6_laysRow yX6_laysRow, Cond.code yX6_laysRow cX6_laysRow 3 none, Cond.methodLink RX6 96 yX6_counts, Cond.instanceMethod yX6_counts, Cond.selects RX6 yX6_counts yX6_counts, Cond.code yX6_counts cX6_counts 4 (some .boolean), Cond.methodLink RX6 106 yX6_alone, Cond.instanceMethod yX6_alone, Cond.selects RX6 yX6_alone yX6_alone, Cond.code yX6_alone cX6_alone 3 (some .long), Cond.methodLink RX6 110 yX6_between, Cond.instanceMethod yX6_between, Cond.selects RX6 yX6_between yX6_between, Cond.code yX6_between cX6_between 10 (some .long), Cond.methodLink RX6 99 yX6_down, Cond.static yX6_down, Cond.code yX6_down cX6_down 6 (some .long)]
def wsX6_give : List Cond := .code yX6_give cX6_give 4 (some .int) :: ((wsX6_give_r1 ++ (wsX6_give_r2 ++ wsX6_give_r3)) ++ wsX60)
def wsX6_idle_r1 : List Cond := [Cond.constant RX6 69 (-2000001), Cond.constant RX6 88 (-2000003), Cond.fieldLink RX6 7 "ChargeLinesModel" "s" "[I", Cond.methodLink RX6 65 yX6_in, Cond.static yX6_in, Cond.initialized RX6, Cond.code yX6_in cX6_in 3 (some .boolean), Cond.methodLink RX6 85 yX6_handedBehind, Cond.instanceMethod yX6_handedBehind, Cond.selects RX6 yX6_handedBehind yX6_handedBehind, Cond.code yX6_handedBehind cX6_handedBehind 4 (some .int), Cond.methodLink RX6 57 yX6_isDue, Cond.instanceMethod yX6_isDue, Cond.selects RX6 yX6_isDue yX6_isDue, Cond.code yX6_isDue cX6_isDue 2 (some .boolean), Cond.methodLink RX6 70 yX6_records, Cond.instanceMethod yX6_records, Cond.selects RX6 yX6_records yX6_records, Cond.code yX6_records cX6_records 2 none, Cond.fieldLink RX6 31 "ChargeLinesModel" "saved" "I", Cond.fieldLink RX6 16 "ChargeLinesModel" "past" "[I", Cond.methodLink RX6 89 yX6_gives, Cond.instanceMethod yX6_gives, Cond.selects RX6 yX6_gives yX6_gives]
def wsX6_idle_r2 : List Cond := [Cond.code yX6_gives cX6_gives 3 none, Cond.methodLink RX6 61 yX6_passes, Cond.instanceMethod yX6_passes, Cond.selects RX6 yX6_passes yX6_passes, Cond.code yX6_passes cX6_passes 6 none, Cond.methodLink RX6 50 yX6_handsOver, Cond.static yX6_handsOver, Cond.code yX6_handsOver cX6_handsOver 8 (some .int), Cond.methodLink RX6 36 yX6_staying, Cond.static yX6_staying, Cond.code yX6_staying cX6_staying 2 (some .int), Cond.methodLink RX6 43 yX6_moving, Cond.static yX6_moving, Cond.code yX6_moving cX6_moving 2 (some .int), Cond.methodLink RX6 40 yX6_leaking, Cond.static yX6_leaking, Cond.code yX6_leaking cX6_leaking 2 (some .int), Cond.methodLink RX6 53 yX6_comes, Cond.instanceMethod yX6_comes, Cond.selects RX6 yX6_comes yX6_comes, Cond.code yX6_comes cX6_comes 6 none, Cond.methodLink RX6 46 yX6_mends, Cond.instanceMethod yX6_mends, Cond.selects RX6 yX6_mends yX6_mends]
def wsX6_idle_r3 : List Cond := [Cond.code yX6_mends cX6_mends 6 (some .int), Cond.fieldLink RX6 93 "ChargeLinesModel" "rowMany" "I", Cond.fieldLink RX6 22 "ChargeLinesModel" "row" "[I", Cond.constantLong RX6 114 (1000000), Cond.constant RX6 116 (1000000), Cond.methodLink RX6 103 yX6_laysRow, Cond.instanceMethod yX6_laysRow, Cond.selects RX6 yX6_laysRow yX6_laysRow, Cond.code yX6_laysRow cX6_laysRow 3 none, Cond.methodLink RX6 96 yX6_counts, Cond.instanceMethod yX6_counts, Cond.selects RX6 yX6_counts yX6_counts, Cond.code yX6_counts cX6_counts 4 (some .boolean), Cond.methodLink RX6 106 yX6_alone, Cond.instanceMethod yX6_alone, Cond.selects RX6 yX6_alone yX6_alone, Cond.code yX6_alone cX6_alone 3 (some .long), Cond.methodLink RX6 110 yX6_between, Cond.instanceMethod yX6_between, Cond.selects RX6 yX6_between yX6_between, Cond.code yX6_between cX6_between 10 (some .long), Cond.methodLink RX6 99 yX6_down, Cond.static yX6_down, Cond.code yX6_down cX6_down 6 (some .long)]
def wsX6_idle : List Cond := .code yX6_idle cX6_idle 5 (some .int) :: ((wsX6_idle_r1 ++ (wsX6_idle_r2 ++ wsX6_idle_r3)) ++ wsX60)
def wsX6_mended_r1 : List Cond := [Cond.constant RX6 80 (100000), Cond.constant RX6 69 (-2000001), Cond.constant RX6 117 (-2000004), Cond.methodLink RX6 65 yX6_in, Cond.static yX6_in, Cond.initialized RX6, Cond.code yX6_in cX6_in 3 (some .boolean), Cond.methodLink RX6 46 yX6_mends, Cond.instanceMethod yX6_mends, Cond.selects RX6 yX6_mends yX6_mends, Cond.code yX6_mends cX6_mends 6 (some .int), Cond.fieldLink RX6 93 "ChargeLinesModel" "rowMany" "I", Cond.fieldLink RX6 22 "ChargeLinesModel" "row" "[I", Cond.fieldLink RX6 7 "ChargeLinesModel" "s" "[I", Cond.constantLong RX6 114 (1000000), Cond.constant RX6 116 (1000000), Cond.methodLink RX6 103 yX6_laysRow, Cond.instanceMethod yX6_laysRow, Cond.selects RX6 yX6_laysRow yX6_laysRow, Cond.code yX6_laysRow cX6_laysRow 3 none, Cond.methodLink RX6 96 yX6_counts, Cond.instanceMethod yX6_counts, Cond.selects RX6 yX6_counts yX6_counts, Cond.code yX6_counts cX6_counts 4 (some .boolean)]
def wsX6_mended_r2 : List Cond := [Cond.methodLink RX6 106 yX6_alone, Cond.instanceMethod yX6_alone, Cond.selects RX6 yX6_alone yX6_alone, Cond.code yX6_alone cX6_alone 3 (some .long), Cond.methodLink RX6 110 yX6_between, Cond.instanceMethod yX6_between, Cond.selects RX6 yX6_between yX6_between, Cond.code yX6_between cX6_between 10 (some .long), Cond.methodLink RX6 99 yX6_down, Cond.static yX6_down, Cond.code yX6_down cX6_down 6 (some .long)]
def wsX6_mended : List Cond := .code yX6_mended cX6_mended 3 (some .int) :: ((wsX6_mended_r1 ++ wsX6_mended_r2) ++ wsX60)
def wsX6_pairOf : List Cond := .code yX6_pairOf cX6_pairOf 3 (some .int) :: ([.constant RX6 69 (-2000001), .fieldLink RX6 7 "ChargeLinesModel" "s" "[I", .constant RX6 117 (-2000004), .methodLink RX6 65 yX6_in, .static yX6_in, .initialized RX6, .code yX6_in cX6_in 3 (some .boolean)] ++ wsX60)
def wsX6_stageOf : List Cond := .code yX6_stageOf cX6_stageOf 3 (some .int) :: ([.constant RX6 69 (-2000001), .fieldLink RX6 7 "ChargeLinesModel" "s" "[I", .methodLink RX6 73 yX6_isStage, .instanceMethod yX6_isStage, .selects RX6 yX6_isStage yX6_isStage, .initialized RX6, .code yX6_isStage cX6_isStage 2 (some .boolean), .methodLink RX6 65 yX6_in, .static yX6_in, .code yX6_in cX6_in 3 (some .boolean), .methodLink RX6 36 yX6_staying, .static yX6_staying, .code yX6_staying cX6_staying 2 (some .int), .methodLink RX6 40 yX6_leaking, .static yX6_leaking, .code yX6_leaking cX6_leaking 2 (some .int), .methodLink RX6 43 yX6_moving, .static yX6_moving, .code yX6_moving cX6_moving 2 (some .int)] ++ wsX60)
def wsX6_of : List Cond := .code yX6_of cX6_of 3 (some .int) :: ([.fieldLink RX6 7 "ChargeLinesModel" "s" "[I"] ++ wsX60)
def wsX6_error : List Cond := .code yX6_error cX6_error 2 (some .int) :: ([.methodLink RX6 118 yX6_of, .instanceMethod yX6_of, .selects RX6 yX6_of yX6_of, .initialized RX6, .code yX6_of cX6_of 3 (some .int), .fieldLink RX6 7 "ChargeLinesModel" "s" "[I"] ++ wsX60)
def wsX6_outputOf : List Cond := .code yX6_outputOf cX6_outputOf 4 (some .int) :: ([.constant RX6 69 (-2000001), .fieldLink RX6 7 "ChargeLinesModel" "s" "[I", .constant RX6 117 (-2000004), .methodLink RX6 65 yX6_in, .static yX6_in, .initialized RX6, .code yX6_in cX6_in 3 (some .boolean), .methodLink RX6 122 yX6_error, .instanceMethod yX6_error, .selects RX6 yX6_error yX6_error, .code yX6_error cX6_error 2 (some .int), .methodLink RX6 118 yX6_of, .instanceMethod yX6_of, .selects RX6 yX6_of yX6_of, .code yX6_of cX6_of 3 (some .int)] ++ wsX60)
def wsX6_size : List Cond := .code yX6_size cX6_size 1 (some .int) :: ([])
def wsJxf58ca_isNaN_12338 : List Cond := .code yJxf58ca_isNaN_12338 cJxf58ca_isNaN_12338 1 (some .boolean) :: ([])
def wsJxf58ca_floatToIntBits_5c35a : List Cond := .code yJxf58ca_floatToIntBits_5c35a cJxf58ca_floatToIntBits_5c35a 1 (some .int) :: ([.methodLink RJxf58ca 74 ⟨"java/lang/Float", "floatToRawIntBits", "(F)I"⟩, .native ⟨"java/lang/Float", "floatToRawIntBits", "(F)I"⟩, .static ⟨"java/lang/Float", "floatToRawIntBits", "(F)I"⟩, .initialized "java/lang/Float", .constant RJxf58ca 77 (2143289344), .methodLink RJxf58ca 59 yJxf58ca_isNaN_12338, .static yJxf58ca_isNaN_12338, .initialized RJxf58ca, .code yJxf58ca_isNaN_12338 cJxf58ca_isNaN_12338 1 (some .boolean)])
def wsX6_errors_r1 : List Cond := [Cond.constant RX6 69 (-2000001), Cond.fieldLink RX6 7 "ChargeLinesModel" "s" "[I", Cond.constant RX6 117 (-2000004), Cond.constant RX6 128 (100000000), Cond.methodLink RX6 65 yX6_in, Cond.static yX6_in, Cond.initialized RX6, Cond.code yX6_in cX6_in 3 (some .boolean), Cond.methodLink RX6 118 yX6_of, Cond.instanceMethod yX6_of, Cond.selects RX6 yX6_of yX6_of, Cond.code yX6_of cX6_of 3 (some .int), Cond.methodLink RX6 122 yX6_error, Cond.instanceMethod yX6_error, Cond.selects RX6 yX6_error yX6_error, Cond.code yX6_error cX6_error 2 (some .int), Cond.methodLink RX6 125 yX6_size, Cond.static yX6_size, Cond.code yX6_size cX6_size 1 (some .int), Cond.methodLink RX6 129 yJxf58ca_floatToIntBits_5c35a, Cond.static yJxf58ca_floatToIntBits_5c35a, Cond.initialized RJxf58ca, Cond.code yJxf58ca_floatToIntBits_5c35a cJxf58ca_floatToIntBits_5c35a 1 (some .int), Cond.methodLink RJxf58ca 74 ⟨"java/lang/Float", "floatToRawIntBits", "(F)I"⟩]
def wsX6_errors_r2 : List Cond := [Cond.native ⟨"java/lang/Float", "floatToRawIntBits", "(F)I"⟩, Cond.static ⟨"java/lang/Float", "floatToRawIntBits", "(F)I"⟩, Cond.initialized "java/lang/Float", Cond.constant RJxf58ca 77 (2143289344), Cond.methodLink RJxf58ca 59 yJxf58ca_isNaN_12338, Cond.static yJxf58ca_isNaN_12338, Cond.code yJxf58ca_isNaN_12338 cJxf58ca_isNaN_12338 1 (some .boolean)]
def wsX6_errors : List Cond := .code yX6_errors cX6_errors 7 (some .int) :: ((wsX6_errors_r1 ++ wsX6_errors_r2) ++ wsX60)
def wsX6_inStages : List Cond := .code yX6_inStages cX6_inStages 3 (some .int) :: ([])
def wsX6_account : List Cond := .code yX6_account cX6_account 2 (some .int) :: ([.constant RX6 69 (-2000001), .fieldLink RX6 7 "ChargeLinesModel" "s" "[I", .methodLink RX6 65 yX6_in, .static yX6_in, .initialized RX6, .code yX6_in cX6_in 3 (some .boolean), .methodLink RX6 135 yX6_inStages, .static yX6_inStages, .code yX6_inStages cX6_inStages 3 (some .int)] ++ wsX60)
def wsX6_tries : List Cond := .code yX6_tries cX6_tries 3 none :: ([.fieldLink RX6 13 "ChargeLinesModel" "trial" "[I", .fieldLink RX6 7 "ChargeLinesModel" "s" "[I"] ++ wsX60)
def wsX6_echoes : List Cond := .code yX6_echoes cX6_echoes 5 (some .int) :: ([.fieldLink RX6 13 "ChargeLinesModel" "trial" "[I", .methodLink RX6 50 yX6_handsOver, .static yX6_handsOver, .initialized RX6, .code yX6_handsOver cX6_handsOver 8 (some .int), .methodLink RX6 36 yX6_staying, .static yX6_staying, .code yX6_staying cX6_staying 2 (some .int), .methodLink RX6 43 yX6_moving, .static yX6_moving, .code yX6_moving cX6_moving 2 (some .int), .methodLink RX6 40 yX6_leaking, .static yX6_leaking, .code yX6_leaking cX6_leaking 2 (some .int)] ++ wsX60)
def wsX6_echo_r1 : List Cond := [Cond.constant RX6 69 (-2000001), Cond.methodLink RX6 65 yX6_in, Cond.static yX6_in, Cond.initialized RX6, Cond.code yX6_in cX6_in 3 (some .boolean), Cond.methodLink RX6 139 yX6_tries, Cond.instanceMethod yX6_tries, Cond.selects RX6 yX6_tries yX6_tries, Cond.code yX6_tries cX6_tries 3 none, Cond.fieldLink RX6 13 "ChargeLinesModel" "trial" "[I", Cond.fieldLink RX6 7 "ChargeLinesModel" "s" "[I", Cond.methodLink RX6 143 yX6_echoes, Cond.instanceMethod yX6_echoes, Cond.selects RX6 yX6_echoes yX6_echoes, Cond.code yX6_echoes cX6_echoes 5 (some .int), Cond.methodLink RX6 50 yX6_handsOver, Cond.static yX6_handsOver, Cond.code yX6_handsOver cX6_handsOver 8 (some .int), Cond.methodLink RX6 36 yX6_staying, Cond.static yX6_staying, Cond.code yX6_staying cX6_staying 2 (some .int), Cond.methodLink RX6 43 yX6_moving, Cond.static yX6_moving, Cond.code yX6_moving cX6_moving 2 (some .int)]
def wsX6_echo_r2 : List Cond := [Cond.methodLink RX6 40 yX6_leaking, Cond.static yX6_leaking, Cond.code yX6_leaking cX6_leaking 2 (some .int)]
def wsX6_echo : List Cond := .code yX6_echo cX6_echo 3 (some .int) :: ((wsX6_echo_r1 ++ wsX6_echo_r2) ++ wsX60)
def wsX6_emptyAfter : List Cond := .code yX6_emptyAfter cX6_emptyAfter 2 (some .int) :: ([.fieldLink RX6 13 "ChargeLinesModel" "trial" "[I", .constant RX6 117 (-2000004), .methodLink RX6 139 yX6_tries, .instanceMethod yX6_tries, .selects RX6 yX6_tries yX6_tries, .initialized RX6, .code yX6_tries cX6_tries 3 none, .fieldLink RX6 7 "ChargeLinesModel" "s" "[I", .methodLink RX6 135 yX6_inStages, .static yX6_inStages, .code yX6_inStages cX6_inStages 3 (some .int), .methodLink RX6 50 yX6_handsOver, .static yX6_handsOver, .code yX6_handsOver cX6_handsOver 8 (some .int), .methodLink RX6 36 yX6_staying, .static yX6_staying, .code yX6_staying cX6_staying 2 (some .int), .methodLink RX6 43 yX6_moving, .static yX6_moving, .code yX6_moving cX6_moving 2 (some .int), .methodLink RX6 40 yX6_leaking, .static yX6_leaking, .code yX6_leaking cX6_leaking 2 (some .int)] ++ wsX60)
def wsX6_worn_r1 : List Cond := [Cond.constant RX6 69 (-2000001), Cond.fieldLink RX6 7 "ChargeLinesModel" "s" "[I", Cond.fieldLink RX6 13 "ChargeLinesModel" "trial" "[I", Cond.methodLink RX6 65 yX6_in, Cond.static yX6_in, Cond.initialized RX6, Cond.code yX6_in cX6_in 3 (some .boolean), Cond.methodLink RX6 139 yX6_tries, Cond.instanceMethod yX6_tries, Cond.selects RX6 yX6_tries yX6_tries, Cond.code yX6_tries cX6_tries 3 none, Cond.methodLink RX6 143 yX6_echoes, Cond.instanceMethod yX6_echoes, Cond.selects RX6 yX6_echoes yX6_echoes, Cond.code yX6_echoes cX6_echoes 5 (some .int), Cond.methodLink RX6 50 yX6_handsOver, Cond.static yX6_handsOver, Cond.code yX6_handsOver cX6_handsOver 8 (some .int), Cond.methodLink RX6 36 yX6_staying, Cond.static yX6_staying, Cond.code yX6_staying cX6_staying 2 (some .int), Cond.methodLink RX6 43 yX6_moving, Cond.static yX6_moving, Cond.code yX6_moving cX6_moving 2 (some .int)]
def wsX6_worn_r2 : List Cond := [Cond.methodLink RX6 40 yX6_leaking, Cond.static yX6_leaking, Cond.code yX6_leaking cX6_leaking 2 (some .int)]
def wsX6_worn : List Cond := .code yX6_worn cX6_worn 6 (some .int) :: ((wsX6_worn_r1 ++ wsX6_worn_r2) ++ wsX60)
def wsX6_isSafe : List Cond := .code yX6_isSafe cX6_isSafe 3 (some .boolean) :: ([.fieldLink RX6 13 "ChargeLinesModel" "trial" "[I", .methodLink RX6 139 yX6_tries, .instanceMethod yX6_tries, .selects RX6 yX6_tries yX6_tries, .initialized RX6, .code yX6_tries cX6_tries 3 none, .fieldLink RX6 7 "ChargeLinesModel" "s" "[I", .methodLink RX6 50 yX6_handsOver, .static yX6_handsOver, .code yX6_handsOver cX6_handsOver 8 (some .int), .methodLink RX6 36 yX6_staying, .static yX6_staying, .code yX6_staying cX6_staying 2 (some .int), .methodLink RX6 43 yX6_moving, .static yX6_moving, .code yX6_moving cX6_moving 2 (some .int), .methodLink RX6 40 yX6_leaking, .static yX6_leaking, .code yX6_leaking cX6_leaking 2 (some .int)] ++ wsX60)
def wsX6_safe : List Cond := .code yX6_safe cX6_safe 4 (some .int) :: ([.methodLink RX6 146 yX6_isSafe, .instanceMethod yX6_isSafe, .selects RX6 yX6_isSafe yX6_isSafe, .initialized RX6, .code yX6_isSafe cX6_isSafe 3 (some .boolean), .fieldLink RX6 13 "ChargeLinesModel" "trial" "[I", .methodLink RX6 139 yX6_tries, .instanceMethod yX6_tries, .selects RX6 yX6_tries yX6_tries, .code yX6_tries cX6_tries 3 none, .fieldLink RX6 7 "ChargeLinesModel" "s" "[I", .methodLink RX6 50 yX6_handsOver, .static yX6_handsOver, .code yX6_handsOver cX6_handsOver 8 (some .int), .methodLink RX6 36 yX6_staying, .static yX6_staying, .code yX6_staying cX6_staying 2 (some .int), .methodLink RX6 43 yX6_moving, .static yX6_moving, .code yX6_moving cX6_moving 2 (some .int), .methodLink RX6 40 yX6_leaking, .static yX6_leaking, .code yX6_leaking cX6_leaking 2 (some .int)] ++ wsX60)
def wsX6_pairs : List Cond := .code yX6_pairs cX6_pairs 3 (some .int) :: ([.fieldLink RX6 7 "ChargeLinesModel" "s" "[I"] ++ wsX60)
def wsX6_count : List Cond := .code yX6_count cX6_count 2 (some .int) :: ([.fieldLink RX6 7 "ChargeLinesModel" "s" "[I", .fieldLink RX6 31 "ChargeLinesModel" "saved" "I", .fieldLink RX6 153 "ChargeLinesModel" "length" "I", .constant RX6 69 (-2000001), .methodLink RX6 149 yX6_pairs, .instanceMethod yX6_pairs, .selects RX6 yX6_pairs yX6_pairs, .initialized RX6, .code yX6_pairs cX6_pairs 3 (some .int), .methodLink RX6 57 yX6_isDue, .instanceMethod yX6_isDue, .selects RX6 yX6_isDue yX6_isDue, .code yX6_isDue cX6_isDue 2 (some .boolean), .methodLink RX6 65 yX6_in, .static yX6_in, .code yX6_in cX6_in 3 (some .boolean)] ++ wsX60)
def wsX6_type : List Cond := .code yX6_type cX6_type 2 (some .int) :: ([.constant RX6 69 (-2000001), .fieldLink RX6 153 "ChargeLinesModel" "length" "I", .constant RX6 88 (-2000003), .fieldLink RX6 19 "ChargeLinesModel" "text" "[I", .methodLink RX6 65 yX6_in, .static yX6_in, .initialized RX6, .code yX6_in cX6_in 3 (some .boolean)] ++ wsX60)
def wsX6_clearText : List Cond := .code yX6_clearText cX6_clearText 2 (some .int) :: ([.fieldLink RX6 153 "ChargeLinesModel" "length" "I"] ++ wsX60)
def wsX6_takes : List Cond := .code yX6_takes cX6_takes 3 (some .boolean) :: ([.fieldLink RX6 156 "ChargeLinesModel" "at" "I", .fieldLink RX6 153 "ChargeLinesModel" "length" "I", .fieldLink RX6 19 "ChargeLinesModel" "text" "[I"] ++ wsX60)
def wsX6_takesNumber : List Cond := .code yX6_takesNumber cX6_takesNumber 5 (some .boolean) :: ([.fieldLink RX6 156 "ChargeLinesModel" "at" "I", .fieldLink RX6 153 "ChargeLinesModel" "length" "I", .fieldLink RX6 19 "ChargeLinesModel" "text" "[I", .fieldLink RX6 25 "ChargeLinesModel" "told" "[I", .methodLink RX6 65 yX6_in, .static yX6_in, .initialized RX6, .code yX6_in cX6_in 3 (some .boolean)] ++ wsX60)
def wsX6_hasForm : List Cond := .code yX6_hasForm cX6_hasForm 1 (some .boolean) :: ([.fieldLink RX6 156 "ChargeLinesModel" "at" "I", .fieldLink RX6 153 "ChargeLinesModel" "length" "I", .fieldLink RX6 19 "ChargeLinesModel" "text" "[I", .fieldLink RX6 159 "ChargeLinesModel" "sort" "I", .methodLink RX6 162 yX6_takes, .instanceMethod yX6_takes, .selects RX6 yX6_takes yX6_takes, .initialized RX6, .code yX6_takes cX6_takes 3 (some .boolean), .methodLink RX6 165 yX6_takesNumber, .instanceMethod yX6_takesNumber, .selects RX6 yX6_takesNumber yX6_takesNumber, .code yX6_takesNumber cX6_takesNumber 5 (some .boolean), .fieldLink RX6 25 "ChargeLinesModel" "told" "[I", .methodLink RX6 65 yX6_in, .static yX6_in, .code yX6_in cX6_in 3 (some .boolean)] ++ wsX60)
def wsX6_wrongNumber : List Cond := .code yX6_wrongNumber cX6_wrongNumber 1 (some .int) :: ([.fieldLink RX6 159 "ChargeLinesModel" "sort" "I", .fieldLink RX6 25 "ChargeLinesModel" "told" "[I"] ++ wsX60)
def wsX6_reads_r1 : List Cond := [Cond.fieldLink RX6 156 "ChargeLinesModel" "at" "I", Cond.fieldLink RX6 168 "ChargeLinesModel" "reason" "I", Cond.fieldLink RX6 175 "ChargeLinesModel" "cause" "I", Cond.fieldLink RX6 159 "ChargeLinesModel" "sort" "I", Cond.fieldLink RX6 25 "ChargeLinesModel" "told" "[I", Cond.methodLink RX6 171 yX6_hasForm, Cond.instanceMethod yX6_hasForm, Cond.selects RX6 yX6_hasForm yX6_hasForm, Cond.initialized RX6, Cond.code yX6_hasForm cX6_hasForm 1 (some .boolean), Cond.fieldLink RX6 153 "ChargeLinesModel" "length" "I", Cond.fieldLink RX6 19 "ChargeLinesModel" "text" "[I", Cond.methodLink RX6 162 yX6_takes, Cond.instanceMethod yX6_takes, Cond.selects RX6 yX6_takes yX6_takes, Cond.code yX6_takes cX6_takes 3 (some .boolean), Cond.methodLink RX6 165 yX6_takesNumber, Cond.instanceMethod yX6_takesNumber, Cond.selects RX6 yX6_takesNumber yX6_takesNumber, Cond.code yX6_takesNumber cX6_takesNumber 5 (some .boolean), Cond.methodLink RX6 65 yX6_in, Cond.static yX6_in, Cond.code yX6_in cX6_in 3 (some .boolean), Cond.methodLink RX6 73 yX6_isStage]
def wsX6_reads_r2 : List Cond := [Cond.instanceMethod yX6_isStage, Cond.selects RX6 yX6_isStage yX6_isStage, Cond.code yX6_isStage cX6_isStage 2 (some .boolean), Cond.fieldLink RX6 7 "ChargeLinesModel" "s" "[I", Cond.methodLink RX6 178 yX6_wrongNumber, Cond.instanceMethod yX6_wrongNumber, Cond.selects RX6 yX6_wrongNumber yX6_wrongNumber, Cond.code yX6_wrongNumber cX6_wrongNumber 1 (some .int)]
def wsX6_reads : List Cond := .code yX6_reads cX6_reads 2 (some .boolean) :: ((wsX6_reads_r1 ++ wsX6_reads_r2) ++ wsX60)
def wsX6_position_r1 : List Cond := [Cond.fieldLink RX6 156 "ChargeLinesModel" "at" "I", Cond.fieldLink RX6 153 "ChargeLinesModel" "length" "I", Cond.methodLink RX6 181 yX6_reads, Cond.instanceMethod yX6_reads, Cond.selects RX6 yX6_reads yX6_reads, Cond.initialized RX6, Cond.code yX6_reads cX6_reads 2 (some .boolean), Cond.fieldLink RX6 168 "ChargeLinesModel" "reason" "I", Cond.fieldLink RX6 175 "ChargeLinesModel" "cause" "I", Cond.fieldLink RX6 159 "ChargeLinesModel" "sort" "I", Cond.fieldLink RX6 25 "ChargeLinesModel" "told" "[I", Cond.methodLink RX6 171 yX6_hasForm, Cond.instanceMethod yX6_hasForm, Cond.selects RX6 yX6_hasForm yX6_hasForm, Cond.code yX6_hasForm cX6_hasForm 1 (some .boolean), Cond.fieldLink RX6 19 "ChargeLinesModel" "text" "[I", Cond.methodLink RX6 162 yX6_takes, Cond.instanceMethod yX6_takes, Cond.selects RX6 yX6_takes yX6_takes, Cond.code yX6_takes cX6_takes 3 (some .boolean), Cond.methodLink RX6 165 yX6_takesNumber, Cond.instanceMethod yX6_takesNumber, Cond.selects RX6 yX6_takesNumber yX6_takesNumber, Cond.code yX6_takesNumber cX6_takesNumber 5 (some .boolean)]
def wsX6_position_r2 : List Cond := [Cond.methodLink RX6 65 yX6_in, Cond.static yX6_in, Cond.code yX6_in cX6_in 3 (some .boolean), Cond.methodLink RX6 73 yX6_isStage, Cond.instanceMethod yX6_isStage, Cond.selects RX6 yX6_isStage yX6_isStage, Cond.code yX6_isStage cX6_isStage 2 (some .boolean), Cond.fieldLink RX6 7 "ChargeLinesModel" "s" "[I", Cond.methodLink RX6 178 yX6_wrongNumber, Cond.instanceMethod yX6_wrongNumber, Cond.selects RX6 yX6_wrongNumber yX6_wrongNumber, Cond.code yX6_wrongNumber cX6_wrongNumber 1 (some .int)]
def wsX6_position : List Cond := .code yX6_position cX6_position 2 (some .int) :: ((wsX6_position_r1 ++ wsX6_position_r2) ++ wsX60)
def wsX6_fault_r1 : List Cond := [Cond.constant RX6 69 (-2000001), Cond.constant RX6 117 (-2000004), Cond.fieldLink RX6 168 "ChargeLinesModel" "reason" "I", Cond.fieldLink RX6 175 "ChargeLinesModel" "cause" "I", Cond.methodLink RX6 65 yX6_in, Cond.static yX6_in, Cond.initialized RX6, Cond.code yX6_in cX6_in 3 (some .boolean), Cond.methodLink RX6 184 yX6_position, Cond.instanceMethod yX6_position, Cond.selects RX6 yX6_position yX6_position, Cond.code yX6_position cX6_position 2 (some .int), Cond.fieldLink RX6 156 "ChargeLinesModel" "at" "I", Cond.fieldLink RX6 153 "ChargeLinesModel" "length" "I", Cond.methodLink RX6 181 yX6_reads, Cond.instanceMethod yX6_reads, Cond.selects RX6 yX6_reads yX6_reads, Cond.code yX6_reads cX6_reads 2 (some .boolean), Cond.fieldLink RX6 159 "ChargeLinesModel" "sort" "I", Cond.fieldLink RX6 25 "ChargeLinesModel" "told" "[I", Cond.methodLink RX6 171 yX6_hasForm, Cond.instanceMethod yX6_hasForm, Cond.selects RX6 yX6_hasForm yX6_hasForm, Cond.code yX6_hasForm cX6_hasForm 1 (some .boolean)]
def wsX6_fault_r2 : List Cond := [Cond.fieldLink RX6 19 "ChargeLinesModel" "text" "[I", Cond.methodLink RX6 162 yX6_takes, Cond.instanceMethod yX6_takes, Cond.selects RX6 yX6_takes yX6_takes, Cond.code yX6_takes cX6_takes 3 (some .boolean), Cond.methodLink RX6 165 yX6_takesNumber, Cond.instanceMethod yX6_takesNumber, Cond.selects RX6 yX6_takesNumber yX6_takesNumber, Cond.code yX6_takesNumber cX6_takesNumber 5 (some .boolean), Cond.methodLink RX6 73 yX6_isStage, Cond.instanceMethod yX6_isStage, Cond.selects RX6 yX6_isStage yX6_isStage, Cond.code yX6_isStage cX6_isStage 2 (some .boolean), Cond.fieldLink RX6 7 "ChargeLinesModel" "s" "[I", Cond.methodLink RX6 178 yX6_wrongNumber, Cond.instanceMethod yX6_wrongNumber, Cond.selects RX6 yX6_wrongNumber yX6_wrongNumber, Cond.code yX6_wrongNumber cX6_wrongNumber 1 (some .int)]
def wsX6_fault : List Cond := .code yX6_fault cX6_fault 3 (some .int) :: ((wsX6_fault_r1 ++ wsX6_fault_r2) ++ wsX60)
def wsX6_play_r1 : List Cond := [Cond.constant RX6 35 (-2000002), Cond.fieldLink RX6 153 "ChargeLinesModel" "length" "I", Cond.fieldLink RX6 19 "ChargeLinesModel" "text" "[I", Cond.constant RX6 88 (-2000003), Cond.fieldLink RX6 156 "ChargeLinesModel" "at" "I", Cond.fieldLink RX6 159 "ChargeLinesModel" "sort" "I", Cond.fieldLink RX6 25 "ChargeLinesModel" "told" "[I", Cond.methodLink RX6 184 yX6_position, Cond.instanceMethod yX6_position, Cond.selects RX6 yX6_position yX6_position, Cond.initialized RX6, Cond.code yX6_position cX6_position 2 (some .int), Cond.methodLink RX6 181 yX6_reads, Cond.instanceMethod yX6_reads, Cond.selects RX6 yX6_reads yX6_reads, Cond.code yX6_reads cX6_reads 2 (some .boolean), Cond.fieldLink RX6 168 "ChargeLinesModel" "reason" "I", Cond.fieldLink RX6 175 "ChargeLinesModel" "cause" "I", Cond.methodLink RX6 171 yX6_hasForm, Cond.instanceMethod yX6_hasForm, Cond.selects RX6 yX6_hasForm yX6_hasForm, Cond.code yX6_hasForm cX6_hasForm 1 (some .boolean), Cond.methodLink RX6 162 yX6_takes, Cond.instanceMethod yX6_takes]
def wsX6_play_r2 : List Cond := [Cond.selects RX6 yX6_takes yX6_takes, Cond.code yX6_takes cX6_takes 3 (some .boolean), Cond.methodLink RX6 165 yX6_takesNumber, Cond.instanceMethod yX6_takesNumber, Cond.selects RX6 yX6_takesNumber yX6_takesNumber, Cond.code yX6_takesNumber cX6_takesNumber 5 (some .boolean), Cond.methodLink RX6 65 yX6_in, Cond.static yX6_in, Cond.code yX6_in cX6_in 3 (some .boolean), Cond.methodLink RX6 73 yX6_isStage, Cond.instanceMethod yX6_isStage, Cond.selects RX6 yX6_isStage yX6_isStage, Cond.code yX6_isStage cX6_isStage 2 (some .boolean), Cond.fieldLink RX6 7 "ChargeLinesModel" "s" "[I", Cond.methodLink RX6 178 yX6_wrongNumber, Cond.instanceMethod yX6_wrongNumber, Cond.selects RX6 yX6_wrongNumber yX6_wrongNumber, Cond.code yX6_wrongNumber cX6_wrongNumber 1 (some .int), Cond.methodLink RX6 85 yX6_handedBehind, Cond.instanceMethod yX6_handedBehind, Cond.selects RX6 yX6_handedBehind yX6_handedBehind, Cond.code yX6_handedBehind cX6_handedBehind 4 (some .int), Cond.methodLink RX6 57 yX6_isDue, Cond.instanceMethod yX6_isDue]
def wsX6_play_r3 : List Cond := [Cond.selects RX6 yX6_isDue yX6_isDue, Cond.code yX6_isDue cX6_isDue 2 (some .boolean), Cond.methodLink RX6 70 yX6_records, Cond.instanceMethod yX6_records, Cond.selects RX6 yX6_records yX6_records, Cond.code yX6_records cX6_records 2 none, Cond.fieldLink RX6 31 "ChargeLinesModel" "saved" "I", Cond.fieldLink RX6 16 "ChargeLinesModel" "past" "[I", Cond.methodLink RX6 89 yX6_gives, Cond.instanceMethod yX6_gives, Cond.selects RX6 yX6_gives yX6_gives, Cond.code yX6_gives cX6_gives 3 none, Cond.methodLink RX6 61 yX6_passes, Cond.instanceMethod yX6_passes, Cond.selects RX6 yX6_passes yX6_passes, Cond.code yX6_passes cX6_passes 6 none, Cond.methodLink RX6 50 yX6_handsOver, Cond.static yX6_handsOver, Cond.code yX6_handsOver cX6_handsOver 8 (some .int), Cond.methodLink RX6 36 yX6_staying, Cond.static yX6_staying, Cond.code yX6_staying cX6_staying 2 (some .int), Cond.methodLink RX6 43 yX6_moving, Cond.static yX6_moving]
def wsX6_play_r4 : List Cond := [Cond.code yX6_moving cX6_moving 2 (some .int), Cond.methodLink RX6 40 yX6_leaking, Cond.static yX6_leaking, Cond.code yX6_leaking cX6_leaking 2 (some .int), Cond.methodLink RX6 53 yX6_comes, Cond.instanceMethod yX6_comes, Cond.selects RX6 yX6_comes yX6_comes, Cond.code yX6_comes cX6_comes 6 none, Cond.methodLink RX6 46 yX6_mends, Cond.instanceMethod yX6_mends, Cond.selects RX6 yX6_mends yX6_mends, Cond.code yX6_mends cX6_mends 6 (some .int), Cond.fieldLink RX6 93 "ChargeLinesModel" "rowMany" "I", Cond.fieldLink RX6 22 "ChargeLinesModel" "row" "[I", Cond.constantLong RX6 114 (1000000), Cond.constant RX6 116 (1000000), Cond.methodLink RX6 103 yX6_laysRow, Cond.instanceMethod yX6_laysRow, Cond.selects RX6 yX6_laysRow yX6_laysRow, Cond.code yX6_laysRow cX6_laysRow 3 none, Cond.methodLink RX6 96 yX6_counts, Cond.instanceMethod yX6_counts, Cond.selects RX6 yX6_counts yX6_counts, Cond.code yX6_counts cX6_counts 4 (some .boolean)]
def wsX6_play_r5 : List Cond := [Cond.methodLink RX6 106 yX6_alone, Cond.instanceMethod yX6_alone, Cond.selects RX6 yX6_alone yX6_alone, Cond.code yX6_alone cX6_alone 3 (some .long), Cond.methodLink RX6 110 yX6_between, Cond.instanceMethod yX6_between, Cond.selects RX6 yX6_between yX6_between, Cond.code yX6_between cX6_between 10 (some .long), Cond.methodLink RX6 99 yX6_down, Cond.static yX6_down, Cond.code yX6_down cX6_down 6 (some .long), Cond.methodLink RX6 76 yX6_shares, Cond.instanceMethod yX6_shares, Cond.selects RX6 yX6_shares yX6_shares, Cond.code yX6_shares cX6_shares 5 (some .int)]
def wsX6_play : List Cond := .code yX6_play cX6_play 5 (some .int) :: ((wsX6_play_r1 ++ (wsX6_play_r2 ++ (wsX6_play_r3 ++ (wsX6_play_r4 ++ wsX6_play_r5)))) ++ wsX60)
def wsJ9_abs_0f7a4 : List Cond := .code yJ9_abs_0f7a4 cJ9_abs_0f7a4 1 (some .int) :: ([])
def wsJ9_max_7cf53 : List Cond := .code yJ9_max_7cf53 cJ9_max_7cf53 2 (some .int) :: ([])
def wsJ9_min_7cf53 : List Cond := .code yJ9_min_7cf53 cJ9_min_7cf53 2 (some .int) :: ([])
def wsJ9_min_f86c9 : List Cond := .code yJ9_min_f86c9 cJ9_min_f86c9 4 (some .long) :: ([])
def wsL_law_r1 : List Cond := [Cond.classLink RL 7 RX5, Cond.instantiable RX5 4, Cond.initialized RX5, Cond.classLink RL 10 RX6, Cond.instantiable RX6 13, Cond.initialized RX6, Cond.methodLink RL 9 yX5_init, Cond.instanceMethod yX5_init, Cond.code yX5_init cX5_init 1 none, Cond.methodLink RX5 3 objectInit, Cond.instanceMethod objectInit, Cond.code objectInit ⟨#[0xb1]⟩ 1 none, Cond.classLink RX5 9 RX1, Cond.instantiable RX1 9, Cond.initialized RX1, Cond.fieldLink RX5 12 "ChargeLines" "line" "LChargeLines$Line;", Cond.classLink RX5 16 RX0, Cond.instantiable RX0 3, Cond.initialized RX0, Cond.fieldLink RX5 19 "ChargeLines" "history" "LChargeLines$History;", Cond.classLink RX5 23 RX4, Cond.instantiable RX4 9, Cond.initialized RX4, Cond.fieldLink RX5 26 "ChargeLines" "text" "LChargeLines$Text;"]
def wsL_law_r2 : List Cond := [Cond.classLink RX5 30 RX3, Cond.instantiable RX3 8, Cond.initialized RX3, Cond.fieldLink RX5 33 "ChargeLines" "trial" "LChargeLines$Stages;", Cond.instanceMethod yX1_init, Cond.code yX1_init cX1_init 1 none, Cond.methodLink RX1 3 objectInit, Cond.classLink RX1 9 RX3, Cond.fieldLink RX1 12 "ChargeLines$Line" "stages" "LChargeLines$Stages;", Cond.classLink RX1 18 RX2, Cond.instantiable RX2 2, Cond.initialized RX2, Cond.fieldLink RX1 21 "ChargeLines$Line" "pairs" "LChargeLines$Pairs;", Cond.methodLink RX1 29 ⟨"[I", "clone", "()Ljava/lang/Object;"⟩, Cond.sameMethod "[I" "java/lang/Object" "clone" "()Ljava/lang/Object;", Cond.native ⟨"java/lang/Object", "clone", "()Ljava/lang/Object;"⟩, Cond.instanceMethod ⟨"java/lang/Object", "clone", "()Ljava/lang/Object;"⟩, Cond.selects "[I" ⟨"[I", "clone", "()Ljava/lang/Object;"⟩ ⟨"java/lang/Object", "clone", "()Ljava/lang/Object;"⟩, Cond.classLink RX1 30 "[I", Cond.fieldLink RX1 34 "ChargeLines$Line" "settings" "[I", Cond.arrayClass .int, Cond.fieldLink RX1 37 "ChargeLines$Line" "samples" "[I", Cond.fieldLink RX1 40 "ChargeLines$Line" "referencesOfSamples" "[I", Cond.fieldLink RX1 43 "ChargeLines$Line" "outputs" "[I"]
def wsL_law_r3 : List Cond := [Cond.fieldLink RX1 46 "ChargeLines$Line" "mendedOutputs" "[I", Cond.instanceMethod yX3_init, Cond.code yX3_init cX3_init 1 none, Cond.methodLink RX3 3 objectInit, Cond.fieldLink RX3 9 "ChargeLines$Stages" "many" "I", Cond.fieldLink RX3 15 "ChargeLines$Stages" "charge" "[I", Cond.fieldLink RX3 19 "ChargeLines$Stages" "stays" "[I", Cond.fieldLink RX3 22 "ChargeLines$Stages" "leaks" "[I", Cond.instanceMethod yX2_init, Cond.code yX2_init cX2_init 1 none, Cond.methodLink RX2 3 objectInit, Cond.fieldLink RX2 9 "ChargeLines$Pairs" "outputs" "[I", Cond.fieldLink RX2 15 "ChargeLines$Pairs" "sizes" "[I", Cond.methodLink RX5 18 yX0_init, Cond.instanceMethod yX0_init, Cond.code yX0_init cX0_init 2 none, Cond.methodLink RX0 3 objectInit, Cond.classLink RX0 9 RX1, Cond.fieldLink RX0 11 "ChargeLines$History" "states" "[LChargeLines$Line;", Cond.instanceMethod yX4_init, Cond.code yX4_init cX4_init 1 none, Cond.methodLink RX4 3 objectInit, Cond.arrayClass .char, Cond.fieldLink RX4 9 "ChargeLines$Text" "signs" "[C"]
def wsL_law_r4 : List Cond := [Cond.fieldLink RX4 15 "ChargeLines$Text" "numbers" "[I", Cond.methodLink RL 12 yX6_init, Cond.instanceMethod yX6_init, Cond.code yX6_init cX6_init 1 none, Cond.methodLink RX6 1 objectInit, Cond.fieldLink RX6 7 "ChargeLinesModel" "s" "[I", Cond.fieldLink RX6 13 "ChargeLinesModel" "trial" "[I", Cond.fieldLink RX6 16 "ChargeLinesModel" "past" "[I", Cond.fieldLink RX6 19 "ChargeLinesModel" "text" "[I", Cond.fieldLink RX6 22 "ChargeLinesModel" "row" "[I", Cond.fieldLink RX6 25 "ChargeLinesModel" "told" "[I", Cond.methodLink RX6 28 yX6_begins, Cond.instanceMethod yX6_begins, Cond.selects RX6 yX6_begins yX6_begins, Cond.code yX6_begins cX6_begins 2 none, Cond.methodLink RL 13 yX5_begin, Cond.instanceMethod yX5_begin, Cond.selects RX5 yX5_begin yX5_begin, Cond.code yX5_begin cX5_begin 3 (some .int), Cond.constant RX5 41 (-2000001), Cond.fieldLink RX5 42 "ChargeLines$Line" "handOvers" "I", Cond.methodLink RX5 37 yX5_outside, Cond.static yX5_outside, Cond.code yX5_outside cX5_outside 3 (some .boolean)]
def wsL_law_r5 : List Cond := [Cond.methodLink RX5 46 yX0_keep, Cond.instanceMethod yX0_keep, Cond.selects RX0 yX0_keep yX0_keep, Cond.code yX0_keep cX0_keep 2 none, Cond.fieldLink RX0 18 "ChargeLines$History" "many" "I", Cond.fieldLink RX0 22 "ChargeLines$History" "first" "I", Cond.methodLink RX0 25 yX1_copyFrom, Cond.instanceMethod yX1_copyFrom, Cond.selects RX1 yX1_copyFrom yX1_copyFrom, Cond.code yX1_copyFrom cX1_copyFrom 2 none, Cond.methodLink RX1 56 arraycopyName, Cond.native arraycopyName, Cond.static arraycopyName, Cond.initialized "java/lang/System", Cond.fieldLink RX1 62 "ChargeLines$Line" "handOvers" "I", Cond.fieldLink RX1 66 "ChargeLines$Line" "references" "I", Cond.methodLink RX1 49 yX3_copyFrom, Cond.instanceMethod yX3_copyFrom, Cond.selects RX3 yX3_copyFrom yX3_copyFrom, Cond.code yX3_copyFrom cX3_copyFrom 2 none, Cond.methodLink RX3 25 arraycopyName, Cond.fieldLink RX3 31 "ChargeLines$Stages" "given" "I", Cond.fieldLink RX3 34 "ChargeLines$Stages" "cameOut" "I", Cond.fieldLink RX3 37 "ChargeLines$Stages" "leaked" "I"]
def wsL_law_r6 : List Cond := [Cond.fieldLink RX3 40 "ChargeLines$Stages" "spilled" "I", Cond.methodLink RX1 53 yX2_copyFrom, Cond.instanceMethod yX2_copyFrom, Cond.selects RX2 yX2_copyFrom yX2_copyFrom, Cond.code yX2_copyFrom cX2_copyFrom 2 none, Cond.methodLink RX2 18 arraycopyName, Cond.methodLink RX5 50 yX1_startAnew, Cond.instanceMethod yX1_startAnew, Cond.selects RX1 yX1_startAnew yX1_startAnew, Cond.code yX1_startAnew cX1_startAnew 2 none, Cond.methodLink RX1 69 yX3_changeMany, Cond.instanceMethod yX3_changeMany, Cond.selects RX3 yX3_changeMany yX3_changeMany, Cond.code yX3_changeMany cX3_changeMany 3 none, Cond.methodLink RX3 43 yX3_changeShares, Cond.instanceMethod yX3_changeShares, Cond.selects RX3 yX3_changeShares yX3_changeShares, Cond.code yX3_changeShares cX3_changeShares 4 none, Cond.methodLink RX1 73 yX3_empty, Cond.instanceMethod yX3_empty, Cond.selects RX3 yX3_empty yX3_empty, Cond.code yX3_empty cX3_empty 1 none, Cond.methodLink RX3 47 yJ7_fill_53178, Cond.static yJ7_fill_53178]
def wsL_law_r7 : List Cond := [Cond.initialized RJ7, Cond.code yJ7_fill_53178 cJ7_fill_53178 4 none, Cond.methodLink RX1 76 yX2_forget, Cond.instanceMethod yX2_forget, Cond.selects RX2 yX2_forget yX2_forget, Cond.code yX2_forget cX2_forget 1 none, Cond.methodLink RX2 24 yJ7_fill_53178, Cond.methodLink RL 17 yX6_begin, Cond.instanceMethod yX6_begin, Cond.selects RX6 yX6_begin yX6_begin, Cond.code yX6_begin cX6_begin 4 (some .int), Cond.constant RX6 69 (-2000001), Cond.methodLink RX6 65 yX6_in, Cond.static yX6_in, Cond.code yX6_in cX6_in 3 (some .boolean), Cond.methodLink RX6 70 yX6_records, Cond.instanceMethod yX6_records, Cond.selects RX6 yX6_records yX6_records, Cond.code yX6_records cX6_records 2 none, Cond.fieldLink RX6 31 "ChargeLinesModel" "saved" "I", Cond.methodLink RL 18 yX5_stage, Cond.instanceMethod yX5_stage, Cond.selects RX5 yX5_stage yX5_stage, Cond.code yX5_stage cX5_stage 5 (some .int)]
def wsL_law_r8 : List Cond := [Cond.fieldLink RX5 54 "ChargeLines$Line" "stages" "LChargeLines$Stages;", Cond.fieldLink RX5 61 "ChargeLines$Stages" "stays" "[I", Cond.fieldLink RX5 65 "ChargeLines$Stages" "leaks" "[I", Cond.methodLink RX5 57 yX3_has, Cond.instanceMethod yX3_has, Cond.selects RX3 yX3_has yX3_has, Cond.code yX3_has cX3_has 2 (some .boolean), Cond.methodLink RX5 68 yX3_changeShares, Cond.methodLink RL 22 yX6_stage, Cond.instanceMethod yX6_stage, Cond.selects RX6 yX6_stage yX6_stage, Cond.code yX6_stage cX6_stage 4 (some .int), Cond.methodLink RX6 73 yX6_isStage, Cond.instanceMethod yX6_isStage, Cond.selects RX6 yX6_isStage yX6_isStage, Cond.code yX6_isStage cX6_isStage 2 (some .boolean), Cond.methodLink RX6 76 yX6_shares, Cond.instanceMethod yX6_shares, Cond.selects RX6 yX6_shares yX6_shares, Cond.code yX6_shares cX6_shares 5 (some .int), Cond.methodLink RL 23 yX5_set, Cond.instanceMethod yX5_set, Cond.selects RX5 yX5_set yX5_set, Cond.code yX5_set cX5_set 4 (some .int)]
def wsL_law_r9 : List Cond := [Cond.fieldLink RX5 72 "ChargeLines" "LEAST_SETTINGS" "[I", Cond.fieldLink RX5 75 "ChargeLines" "MOST_SETTINGS" "[I", Cond.fieldLink RX5 78 "ChargeLines$Line" "settings" "[I", Cond.methodLink RL 27 yX6_set, Cond.instanceMethod yX6_set, Cond.selects RX6 yX6_set yX6_set, Cond.code yX6_set cX6_set 4 (some .int), Cond.methodLink RX6 81 yX6_isSetting, Cond.static yX6_isSetting, Cond.code yX6_isSetting cX6_isSetting 2 (some .boolean), Cond.constant RX6 80 (100000), Cond.methodLink RL 28 yX5_give, Cond.instanceMethod yX5_give, Cond.selects RX5 yX5_give yX5_give, Cond.code yX5_give cX5_give 2 (some .int), Cond.methodLink RX5 81 yX5_takeTimes, Cond.instanceMethod yX5_takeTimes, Cond.selects RX5 yX5_takeTimes yX5_takeTimes, Cond.code yX5_takeTimes cX5_takeTimes 5 (some .int), Cond.constant RX5 89 (-2000003), Cond.methodLink RX5 85 yX1_handOversBehind, Cond.instanceMethod yX1_handOversBehind, Cond.selects RX1 yX1_handOversBehind yX1_handOversBehind, Cond.code yX1_handOversBehind cX1_handOversBehind 4 (some .int)]
def wsL_law_r10 : List Cond := [Cond.methodLink RX1 79 yX1_isForReference, Cond.instanceMethod yX1_isForReference, Cond.selects RX1 yX1_isForReference yX1_isForReference, Cond.code yX1_isForReference cX1_isForReference 3 (some .boolean), Cond.methodLink RX5 90 yX1_take, Cond.instanceMethod yX1_take, Cond.selects RX1 yX1_take yX1_take, Cond.code yX1_take cX1_take 3 none, Cond.methodLink RX1 83 yX1_nextReference, Cond.instanceMethod yX1_nextReference, Cond.selects RX1 yX1_nextReference yX1_nextReference, Cond.code yX1_nextReference cX1_nextReference 1 (some .int), Cond.methodLink RX1 87 yX1_handOver, Cond.instanceMethod yX1_handOver, Cond.selects RX1 yX1_handOver yX1_handOver, Cond.code yX1_handOver cX1_handOver 5 none, Cond.fieldLink RX1 94 "ChargeLines$Stages" "many" "I", Cond.methodLink RX1 91 yX3_handOver, Cond.instanceMethod yX3_handOver, Cond.selects RX3 yX3_handOver yX3_handOver, Cond.code yX3_handOver cX3_handOver 9 (some .int), Cond.methodLink RX3 60 Lib.Math.min.name, Cond.static Lib.Math.min.name, Cond.initialized "java/lang/Math"]
def wsL_law_r11 : List Cond := [Cond.code Lib.Math.min.name Lib.Math.min.code 2 (some .int), Cond.methodLink RX3 53 yX3_staying, Cond.instanceMethod yX3_staying, Cond.selects RX3 yX3_staying yX3_staying, Cond.code yX3_staying cX3_staying 2 (some .int), Cond.methodLink RX3 57 yX3_leaking, Cond.instanceMethod yX3_leaking, Cond.selects RX3 yX3_leaking yX3_leaking, Cond.code yX3_leaking cX3_leaking 2 (some .int), Cond.methodLink RX1 97 yX1_sourceSlot, Cond.instanceMethod yX1_sourceSlot, Cond.selects RX1 yX1_sourceSlot yX1_sourceSlot, Cond.code yX1_sourceSlot cX1_sourceSlot 2 (some .int), Cond.methodLink RX1 101 yX1_learnFrom, Cond.instanceMethod yX1_learnFrom, Cond.selects RX1 yX1_learnFrom yX1_learnFrom, Cond.code yX1_learnFrom cX1_learnFrom 4 none, Cond.methodLink RX1 107 yX2_learn, Cond.instanceMethod yX2_learn, Cond.selects RX2 yX2_learn yX2_learn, Cond.code yX2_learn cX2_learn 4 none, Cond.methodLink RX1 104 yX2_mend, Cond.instanceMethod yX2_mend, Cond.selects RX2 yX2_mend yX2_mend]
def wsL_law_r12 : List Cond := [Cond.code yX2_mend cX2_mend 6 (some .int), Cond.constant RX2 34 (-2000004), Cond.methodLink RX2 30 yX2_isKnown, Cond.instanceMethod yX2_isKnown, Cond.selects RX2 yX2_isKnown yX2_isKnown, Cond.code yX2_isKnown cX2_isKnown 2 (some .boolean), Cond.methodLink RX2 35 yX2_mendBy, Cond.instanceMethod yX2_mendBy, Cond.selects RX2 yX2_mendBy yX2_mendBy, Cond.code yX2_mendBy cX2_mendBy 6 (some .int), Cond.constantLong RX2 48 (1000000), Cond.methodLink RX2 50 Lib.MathLoose.min_long.x, Cond.static Lib.MathLoose.min_long.x, Cond.code Lib.MathLoose.min_long.x Lib.MathLoose.min_long.code 4 (some .long), Cond.methodLink RX2 39 yX2_mendBetween, Cond.instanceMethod yX2_mendBetween, Cond.selects RX2 yX2_mendBetween yX2_mendBetween, Cond.code yX2_mendBetween cX2_mendBetween 6 (some .int), Cond.methodLink RX2 43 yJ9_floorDiv_7cf53, Cond.static yJ9_floorDiv_7cf53, Cond.initialized RJ9, Cond.code yJ9_floorDiv_7cf53 cJ9_floorDiv_7cf53 3 (some .int), Cond.methodLink RL 31 yX6_give, Cond.instanceMethod yX6_give]
def wsL_law_r13 : List Cond := [Cond.selects RX6 yX6_give yX6_give, Cond.code yX6_give cX6_give 4 (some .int), Cond.constant RX6 88 (-2000003), Cond.methodLink RX6 85 yX6_handedBehind, Cond.instanceMethod yX6_handedBehind, Cond.selects RX6 yX6_handedBehind yX6_handedBehind, Cond.code yX6_handedBehind cX6_handedBehind 4 (some .int), Cond.methodLink RX6 57 yX6_isDue, Cond.instanceMethod yX6_isDue, Cond.selects RX6 yX6_isDue yX6_isDue, Cond.code yX6_isDue cX6_isDue 2 (some .boolean), Cond.methodLink RX6 89 yX6_gives, Cond.instanceMethod yX6_gives, Cond.selects RX6 yX6_gives yX6_gives, Cond.code yX6_gives cX6_gives 3 none, Cond.methodLink RX6 61 yX6_passes, Cond.instanceMethod yX6_passes, Cond.selects RX6 yX6_passes yX6_passes, Cond.code yX6_passes cX6_passes 6 none, Cond.methodLink RX6 50 yX6_handsOver, Cond.static yX6_handsOver, Cond.code yX6_handsOver cX6_handsOver 8 (some .int), Cond.methodLink RX6 36 yX6_staying, Cond.static yX6_staying]
def wsL_law_r14 : List Cond := [Cond.code yX6_staying cX6_staying 2 (some .int), Cond.methodLink RX6 43 yX6_moving, Cond.static yX6_moving, Cond.code yX6_moving cX6_moving 2 (some .int), Cond.methodLink RX6 40 yX6_leaking, Cond.static yX6_leaking, Cond.code yX6_leaking cX6_leaking 2 (some .int), Cond.methodLink RX6 53 yX6_comes, Cond.instanceMethod yX6_comes, Cond.selects RX6 yX6_comes yX6_comes, Cond.code yX6_comes cX6_comes 6 none, Cond.methodLink RX6 46 yX6_mends, Cond.instanceMethod yX6_mends, Cond.selects RX6 yX6_mends yX6_mends, Cond.code yX6_mends cX6_mends 6 (some .int), Cond.fieldLink RX6 93 "ChargeLinesModel" "rowMany" "I", Cond.constantLong RX6 114 (1000000), Cond.constant RX6 116 (1000000), Cond.methodLink RX6 103 yX6_laysRow, Cond.instanceMethod yX6_laysRow, Cond.selects RX6 yX6_laysRow yX6_laysRow, Cond.code yX6_laysRow cX6_laysRow 3 none, Cond.methodLink RX6 96 yX6_counts, Cond.instanceMethod yX6_counts]
def wsL_law_r15 : List Cond := [Cond.selects RX6 yX6_counts yX6_counts, Cond.code yX6_counts cX6_counts 4 (some .boolean), Cond.methodLink RX6 106 yX6_alone, Cond.instanceMethod yX6_alone, Cond.selects RX6 yX6_alone yX6_alone, Cond.code yX6_alone cX6_alone 3 (some .long), Cond.methodLink RX6 110 yX6_between, Cond.instanceMethod yX6_between, Cond.selects RX6 yX6_between yX6_between, Cond.code yX6_between cX6_between 10 (some .long), Cond.methodLink RX6 99 yX6_down, Cond.static yX6_down, Cond.code yX6_down cX6_down 6 (some .long), Cond.methodLink RL 32 yX5_idle, Cond.instanceMethod yX5_idle, Cond.selects RX5 yX5_idle yX5_idle, Cond.code yX5_idle cX5_idle 2 (some .int), Cond.methodLink RL 35 yX6_idle, Cond.instanceMethod yX6_idle, Cond.selects RX6 yX6_idle yX6_idle, Cond.code yX6_idle cX6_idle 5 (some .int), Cond.methodLink RL 36 yX5_stageOf, Cond.instanceMethod yX5_stageOf, Cond.selects RX5 yX5_stageOf yX5_stageOf]
def wsL_law_r16 : List Cond := [Cond.code yX5_stageOf cX5_stageOf 3 (some .int), Cond.fieldLink RX5 93 "ChargeLines$Stages" "charge" "[I", Cond.methodLink RX5 96 yX3_staying, Cond.methodLink RX5 99 yX3_leaking, Cond.methodLink RX5 102 yX3_leaving, Cond.instanceMethod yX3_leaving, Cond.selects RX3 yX3_leaving yX3_leaving, Cond.code yX3_leaving cX3_leaving 2 (some .int), Cond.methodLink RL 39 yX6_stageOf, Cond.instanceMethod yX6_stageOf, Cond.selects RX6 yX6_stageOf yX6_stageOf, Cond.code yX6_stageOf cX6_stageOf 3 (some .int), Cond.methodLink RL 40 yX5_outputOf, Cond.instanceMethod yX5_outputOf, Cond.selects RX5 yX5_outputOf yX5_outputOf, Cond.code yX5_outputOf cX5_outputOf 4 (some .int), Cond.constant RX5 109 (-2000004), Cond.fieldLink RX5 110 "ChargeLines$Line" "samples" "[I", Cond.fieldLink RX5 116 "ChargeLines$Line" "outputs" "[I", Cond.fieldLink RX5 119 "ChargeLines$Line" "mendedOutputs" "[I", Cond.methodLink RX5 105 yX1_keptOutputs, Cond.instanceMethod yX1_keptOutputs, Cond.selects RX1 yX1_keptOutputs yX1_keptOutputs, Cond.code yX1_keptOutputs cX1_keptOutputs 1 (some .int)]
def wsL_law_r17 : List Cond := [Cond.methodLink RX1 111 Lib.Math.min.name, Cond.methodLink RX1 116 Lib.Math.max.name, Cond.static Lib.Math.max.name, Cond.code Lib.Math.max.name Lib.Math.max.code 2 (some .int), Cond.methodLink RX5 113 yX1_sourceSlot, Cond.methodLink RX5 122 yX1_isOfReference, Cond.instanceMethod yX1_isOfReference, Cond.selects RX1 yX1_isOfReference yX1_isOfReference, Cond.code yX1_isOfReference cX1_isOfReference 2 (some .boolean), Cond.methodLink RX5 125 yX1_errorOf, Cond.instanceMethod yX1_errorOf, Cond.selects RX1 yX1_errorOf yX1_errorOf, Cond.code yX1_errorOf cX1_errorOf 4 (some .int), Cond.constant RX1 119 (-2000004), Cond.methodLink RL 43 yX6_outputOf, Cond.instanceMethod yX6_outputOf, Cond.selects RX6 yX6_outputOf yX6_outputOf, Cond.code yX6_outputOf cX6_outputOf 4 (some .int), Cond.constant RX6 117 (-2000004), Cond.methodLink RX6 122 yX6_error, Cond.instanceMethod yX6_error, Cond.selects RX6 yX6_error yX6_error, Cond.code yX6_error cX6_error 2 (some .int), Cond.methodLink RX6 118 yX6_of]
def wsL_law_r18 : List Cond := [Cond.instanceMethod yX6_of, Cond.selects RX6 yX6_of yX6_of, Cond.code yX6_of cX6_of 3 (some .int), Cond.methodLink RL 44 yX5_pairOf, Cond.instanceMethod yX5_pairOf, Cond.selects RX5 yX5_pairOf yX5_pairOf, Cond.code yX5_pairOf cX5_pairOf 3 (some .int), Cond.fieldLink RX5 128 "ChargeLines$Line" "pairs" "LChargeLines$Pairs;", Cond.fieldLink RX5 137 "ChargeLines$Pairs" "outputs" "[I", Cond.fieldLink RX5 138 "ChargeLines$Pairs" "sizes" "[I", Cond.methodLink RX5 132 yX2_isKnown, Cond.methodLink RL 47 yX6_pairOf, Cond.instanceMethod yX6_pairOf, Cond.selects RX6 yX6_pairOf yX6_pairOf, Cond.code yX6_pairOf cX6_pairOf 3 (some .int), Cond.methodLink RL 48 yX5_mended, Cond.instanceMethod yX5_mended, Cond.selects RX5 yX5_mended yX5_mended, Cond.code yX5_mended cX5_mended 2 (some .int), Cond.constant RX5 141 (100000), Cond.methodLink RX5 142 yX2_mend, Cond.methodLink RL 51 yX6_mended, Cond.instanceMethod yX6_mended, Cond.selects RX6 yX6_mended yX6_mended]
def wsL_law_r19 : List Cond := [Cond.code yX6_mended cX6_mended 3 (some .int), Cond.methodLink RL 52 yX5_errors, Cond.instanceMethod yX5_errors, Cond.selects RX5 yX5_errors yX5_errors, Cond.code yX5_errors cX5_errors 10 (some .int), Cond.methodLink RX5 145 Lib.Math.abs.name, Cond.static Lib.Math.abs.name, Cond.code Lib.Math.abs.name Lib.Math.abs.code 1 (some .int), Cond.methodLink RX5 150 Lib.Math.max.name, Cond.constant RX5 153 (100000000), Cond.methodLink RX5 154 yX5_bitsOf, Cond.static yX5_bitsOf, Cond.code yX5_bitsOf cX5_bitsOf 3 (some .int), Cond.constantFloat RX5 254 (1258291200), Cond.methodLink RL 55 yX6_errors, Cond.instanceMethod yX6_errors, Cond.selects RX6 yX6_errors yX6_errors, Cond.code yX6_errors cX6_errors 7 (some .int), Cond.constant RX6 128 (100000000), Cond.methodLink RX6 125 yX6_size, Cond.static yX6_size, Cond.code yX6_size cX6_size 1 (some .int), Cond.methodLink RX6 129 yJxf58ca_floatToIntBits_5c35a, Cond.static yJxf58ca_floatToIntBits_5c35a]
def wsL_law_r20 : List Cond := [Cond.initialized RJxf58ca, Cond.code yJxf58ca_floatToIntBits_5c35a cJxf58ca_floatToIntBits_5c35a 1 (some .int), Cond.methodLink RJxf58ca 74 ⟨"java/lang/Float", "floatToRawIntBits", "(F)I"⟩, Cond.native ⟨"java/lang/Float", "floatToRawIntBits", "(F)I"⟩, Cond.static ⟨"java/lang/Float", "floatToRawIntBits", "(F)I"⟩, Cond.initialized "java/lang/Float", Cond.constant RJxf58ca 77 (2143289344), Cond.methodLink RJxf58ca 59 yJxf58ca_isNaN_12338, Cond.static yJxf58ca_isNaN_12338, Cond.code yJxf58ca_isNaN_12338 cJxf58ca_isNaN_12338 1 (some .boolean), Cond.methodLink RL 56 yX5_account, Cond.instanceMethod yX5_account, Cond.selects RX5 yX5_account yX5_account, Cond.code yX5_account cX5_account 2 (some .int), Cond.fieldLink RX5 158 "ChargeLines$Stages" "given" "I", Cond.fieldLink RX5 161 "ChargeLines$Stages" "cameOut" "I", Cond.fieldLink RX5 164 "ChargeLines$Stages" "leaked" "I", Cond.fieldLink RX5 167 "ChargeLines$Stages" "spilled" "I", Cond.methodLink RX5 170 yX3_inStages, Cond.instanceMethod yX3_inStages, Cond.selects RX3 yX3_inStages yX3_inStages, Cond.code yX3_inStages cX3_inStages 3 (some .int), Cond.methodLink RL 59 yX6_account, Cond.instanceMethod yX6_account]
def wsL_law_r21 : List Cond := [Cond.selects RX6 yX6_account yX6_account, Cond.code yX6_account cX6_account 2 (some .int), Cond.methodLink RX6 135 yX6_inStages, Cond.static yX6_inStages, Cond.code yX6_inStages cX6_inStages 3 (some .int), Cond.methodLink RL 60 yX5_echo, Cond.instanceMethod yX5_echo, Cond.selects RX5 yX5_echo yX5_echo, Cond.code yX5_echo cX5_echo 3 (some .int), Cond.methodLink RX5 173 yX3_copyFrom, Cond.methodLink RX5 177 yX3_outputOfLone, Cond.instanceMethod yX3_outputOfLone, Cond.selects RX3 yX3_outputOfLone yX3_outputOfLone, Cond.code yX3_outputOfLone cX3_outputOfLone 6 (some .int), Cond.methodLink RX3 66 yX3_empty, Cond.methodLink RX3 69 yX3_handOver, Cond.methodLink RL 63 yX6_echo, Cond.instanceMethod yX6_echo, Cond.selects RX6 yX6_echo yX6_echo, Cond.code yX6_echo cX6_echo 3 (some .int), Cond.methodLink RX6 139 yX6_tries, Cond.instanceMethod yX6_tries, Cond.selects RX6 yX6_tries yX6_tries, Cond.code yX6_tries cX6_tries 3 none]
def wsL_law_r22 : List Cond := [Cond.methodLink RX6 143 yX6_echoes, Cond.instanceMethod yX6_echoes, Cond.selects RX6 yX6_echoes yX6_echoes, Cond.code yX6_echoes cX6_echoes 5 (some .int), Cond.methodLink RL 64 yX5_emptyAfter, Cond.instanceMethod yX5_emptyAfter, Cond.selects RX5 yX5_emptyAfter yX5_emptyAfter, Cond.code yX5_emptyAfter cX5_emptyAfter 2 (some .int), Cond.methodLink RX5 181 yX3_handOver, Cond.methodLink RL 68 yX6_emptyAfter, Cond.instanceMethod yX6_emptyAfter, Cond.selects RX6 yX6_emptyAfter yX6_emptyAfter, Cond.code yX6_emptyAfter cX6_emptyAfter 2 (some .int), Cond.methodLink RL 69 yX5_worn, Cond.instanceMethod yX5_worn, Cond.selects RX5 yX5_worn yX5_worn, Cond.code yX5_worn cX5_worn 6 (some .int), Cond.fieldLink RX5 187 "ChargeLines$Stages" "many" "I", Cond.methodLink RX5 184 yX5_outputWithoutShares, Cond.instanceMethod yX5_outputWithoutShares, Cond.selects RX5 yX5_outputWithoutShares yX5_outputWithoutShares, Cond.code yX5_outputWithoutShares cX5_outputWithoutShares 2 (some .int), Cond.methodLink RL 72 yX6_worn, Cond.instanceMethod yX6_worn]
def wsL_law_r23 : List Cond := [Cond.selects RX6 yX6_worn yX6_worn, Cond.code yX6_worn cX6_worn 6 (some .int), Cond.methodLink RL 73 yX5_safe, Cond.instanceMethod yX5_safe, Cond.selects RX5 yX5_safe yX5_safe, Cond.code yX5_safe cX5_safe 5 (some .int), Cond.methodLink RX5 190 yX3_holds, Cond.instanceMethod yX3_holds, Cond.selects RX3 yX3_holds yX3_holds, Cond.code yX3_holds cX3_holds 5 (some .boolean), Cond.methodLink RL 76 yX6_safe, Cond.instanceMethod yX6_safe, Cond.selects RX6 yX6_safe yX6_safe, Cond.code yX6_safe cX6_safe 4 (some .int), Cond.methodLink RX6 146 yX6_isSafe, Cond.instanceMethod yX6_isSafe, Cond.selects RX6 yX6_isSafe yX6_isSafe, Cond.code yX6_isSafe cX6_isSafe 3 (some .boolean), Cond.methodLink RL 77 yX5_count, Cond.instanceMethod yX5_count, Cond.selects RX5 yX5_count yX5_count, Cond.code yX5_count cX5_count 2 (some .int), Cond.fieldLink RX5 193 "ChargeLines$Line" "references" "I", Cond.fieldLink RX5 205 "ChargeLines$History" "many" "I"]
def wsL_law_r24 : List Cond := [Cond.fieldLink RX5 206 "ChargeLines$Text" "length" "I", Cond.methodLink RX5 196 yX2_known, Cond.instanceMethod yX2_known, Cond.selects RX2 yX2_known yX2_known, Cond.code yX2_known cX2_known 3 (some .int), Cond.methodLink RX5 199 yX1_nextReference, Cond.methodLink RX5 202 yX1_isForReference, Cond.methodLink RX5 209 yX5_settingOfCount, Cond.instanceMethod yX5_settingOfCount, Cond.selects RX5 yX5_settingOfCount yX5_settingOfCount, Cond.code yX5_settingOfCount cX5_settingOfCount 2 (some .int), Cond.methodLink RL 80 yX6_count, Cond.instanceMethod yX6_count, Cond.selects RX6 yX6_count yX6_count, Cond.code yX6_count cX6_count 2 (some .int), Cond.fieldLink RX6 153 "ChargeLinesModel" "length" "I", Cond.methodLink RX6 149 yX6_pairs, Cond.instanceMethod yX6_pairs, Cond.selects RX6 yX6_pairs yX6_pairs, Cond.code yX6_pairs cX6_pairs 3 (some .int), Cond.methodLink RL 81 yX5_undo, Cond.instanceMethod yX5_undo, Cond.selects RX5 yX5_undo yX5_undo, Cond.code yX5_undo cX5_undo 1 (some .int)]
def wsL_law_r25 : List Cond := [Cond.constant RX5 212 (-2000002), Cond.methodLink RX5 213 yX0_restore, Cond.instanceMethod yX0_restore, Cond.selects RX0 yX0_restore yX0_restore, Cond.code yX0_restore cX0_restore 2 none, Cond.methodLink RL 84 yX6_undo, Cond.instanceMethod yX6_undo, Cond.selects RX6 yX6_undo yX6_undo, Cond.code yX6_undo cX6_undo 2 (some .int), Cond.constant RX6 35 (-2000002), Cond.methodLink RL 85 yX5_type, Cond.instanceMethod yX5_type, Cond.selects RX5 yX5_type yX5_type, Cond.code yX5_type cX5_type 2 (some .int), Cond.methodLink RX5 216 yX4_append, Cond.instanceMethod yX4_append, Cond.selects RX4 yX4_append yX4_append, Cond.code yX4_append cX4_append 2 none, Cond.fieldLink RX4 19 "ChargeLines$Text" "length" "I", Cond.methodLink RL 88 yX6_type, Cond.instanceMethod yX6_type, Cond.selects RX6 yX6_type yX6_type, Cond.code yX6_type cX6_type 2 (some .int), Cond.methodLink RL 89 yX5_clearText]
def wsL_law_r26 : List Cond := [Cond.instanceMethod yX5_clearText, Cond.selects RX5 yX5_clearText yX5_clearText, Cond.code yX5_clearText cX5_clearText 2 (some .int), Cond.methodLink RX5 220 yX4_clear, Cond.instanceMethod yX4_clear, Cond.selects RX4 yX4_clear yX4_clear, Cond.code yX4_clear cX4_clear 1 none, Cond.methodLink RL 92 yX6_clearText, Cond.instanceMethod yX6_clearText, Cond.selects RX6 yX6_clearText yX6_clearText, Cond.code yX6_clearText cX6_clearText 2 (some .int), Cond.methodLink RL 93 yX5_fault, Cond.instanceMethod yX5_fault, Cond.selects RX5 yX5_fault yX5_fault, Cond.code yX5_fault cX5_fault 3 (some .int), Cond.fieldLink RX5 226 "ChargeLines$Text" "reason" "I", Cond.fieldLink RX5 229 "ChargeLines$Text" "cause" "I", Cond.methodLink RX5 223 yX4_faultPosition, Cond.instanceMethod yX4_faultPosition, Cond.selects RX4 yX4_faultPosition yX4_faultPosition, Cond.code yX4_faultPosition cX4_faultPosition 3 (some .int), Cond.fieldLink RX4 23 "ChargeLines$Text" "parts" "I", Cond.fieldLink RX4 26 "ChargeLines$Text" "samples" "I", Cond.fieldLink RX4 33 "ChargeLines$Text" "reason" "I"]
def wsL_law_r27 : List Cond := [Cond.fieldLink RX4 36 "ChargeLines$Text" "kind" "C", Cond.fieldLink RX4 40 "ChargeLines$Text" "at" "I", Cond.constant RX4 43 (-2000004), Cond.methodLink RX4 29 yX4_readPart, Cond.instanceMethod yX4_readPart, Cond.selects RX4 yX4_readPart yX4_readPart, Cond.code yX4_readPart cX4_readPart 3 none, Cond.fieldLink RX4 44 "ChargeLines$Text" "cause" "I", Cond.methodLink RX4 47 yX4_readForm, Cond.instanceMethod yX4_readForm, Cond.selects RX4 yX4_readForm yX4_readForm, Cond.code yX4_readForm cX4_readForm 1 (some .boolean), Cond.methodLink RX4 54 yX4_reads, Cond.instanceMethod yX4_reads, Cond.selects RX4 yX4_reads yX4_reads, Cond.code yX4_reads cX4_reads 2 (some .boolean), Cond.methodLink RX4 58 yX4_readsNumber, Cond.instanceMethod yX4_readsNumber, Cond.selects RX4 yX4_readsNumber yX4_readsNumber, Cond.code yX4_readsNumber cX4_readsNumber 5 (some .boolean), Cond.methodLink RX4 62 yX4_atDigit, Cond.instanceMethod yX4_atDigit, Cond.selects RX4 yX4_atDigit yX4_atDigit, Cond.code yX4_atDigit cX4_atDigit 1 (some .boolean)]
def wsL_law_r28 : List Cond := [Cond.methodLink RX4 51 yX4_findOutOfRange, Cond.instanceMethod yX4_findOutOfRange, Cond.selects RX4 yX4_findOutOfRange yX4_findOutOfRange, Cond.code yX4_findOutOfRange cX4_findOutOfRange 4 none, Cond.methodLink RL 96 yX6_fault, Cond.instanceMethod yX6_fault, Cond.selects RX6 yX6_fault yX6_fault, Cond.code yX6_fault cX6_fault 3 (some .int), Cond.fieldLink RX6 168 "ChargeLinesModel" "reason" "I", Cond.fieldLink RX6 175 "ChargeLinesModel" "cause" "I", Cond.methodLink RX6 184 yX6_position, Cond.instanceMethod yX6_position, Cond.selects RX6 yX6_position yX6_position, Cond.code yX6_position cX6_position 2 (some .int), Cond.fieldLink RX6 156 "ChargeLinesModel" "at" "I", Cond.methodLink RX6 181 yX6_reads, Cond.instanceMethod yX6_reads, Cond.selects RX6 yX6_reads yX6_reads, Cond.code yX6_reads cX6_reads 2 (some .boolean), Cond.fieldLink RX6 159 "ChargeLinesModel" "sort" "I", Cond.methodLink RX6 171 yX6_hasForm, Cond.instanceMethod yX6_hasForm, Cond.selects RX6 yX6_hasForm yX6_hasForm, Cond.code yX6_hasForm cX6_hasForm 1 (some .boolean)]
def wsL_law_r29 : List Cond := [Cond.methodLink RX6 162 yX6_takes, Cond.instanceMethod yX6_takes, Cond.selects RX6 yX6_takes yX6_takes, Cond.code yX6_takes cX6_takes 3 (some .boolean), Cond.methodLink RX6 165 yX6_takesNumber, Cond.instanceMethod yX6_takesNumber, Cond.selects RX6 yX6_takesNumber yX6_takesNumber, Cond.code yX6_takesNumber cX6_takesNumber 5 (some .boolean), Cond.methodLink RX6 178 yX6_wrongNumber, Cond.instanceMethod yX6_wrongNumber, Cond.selects RX6 yX6_wrongNumber yX6_wrongNumber, Cond.code yX6_wrongNumber cX6_wrongNumber 1 (some .int), Cond.methodLink RL 97 yX5_play, Cond.instanceMethod yX5_play, Cond.selects RX5 yX5_play yX5_play, Cond.code yX5_play cX5_play 5 (some .int), Cond.fieldLink RX5 232 "ChargeLines$Text" "samples" "I", Cond.fieldLink RX5 234 "ChargeLines$Text" "parts" "I", Cond.fieldLink RX5 244 "ChargeLines$Text" "at" "I", Cond.methodLink RX5 237 yX4_readPart, Cond.methodLink RX5 241 yX5_playPart, Cond.instanceMethod yX5_playPart, Cond.selects RX5 yX5_playPart yX5_playPart, Cond.code yX5_playPart cX5_playPart 1 none]
def wsL_law_r30 : List Cond := [Cond.fieldLink RX5 247 "ChargeLines$Text" "kind" "C", Cond.fieldLink RX5 251 "ChargeLines$Text" "numbers" "[I", Cond.methodLink RL 100 yX6_play, Cond.instanceMethod yX6_play, Cond.selects RX6 yX6_play yX6_play, Cond.code yX6_play cX6_play 5 (some .int)]
def wsL_law : List Cond := (wsL_law_r1 ++ (wsL_law_r2 ++ (wsL_law_r3 ++ (wsL_law_r4 ++ (wsL_law_r5 ++ (wsL_law_r6 ++ (wsL_law_r7 ++ (wsL_law_r8 ++ (wsL_law_r9 ++ (wsL_law_r10 ++ (wsL_law_r11 ++ (wsL_law_r12 ++ (wsL_law_r13 ++ (wsL_law_r14 ++ (wsL_law_r15 ++ (wsL_law_r16 ++ (wsL_law_r17 ++ (wsL_law_r18 ++ (wsL_law_r19 ++ (wsL_law_r20 ++ (wsL_law_r21 ++ (wsL_law_r22 ++ (wsL_law_r23 ++ (wsL_law_r24 ++ (wsL_law_r25 ++ (wsL_law_r26 ++ (wsL_law_r27 ++ (wsL_law_r28 ++ (wsL_law_r29 ++ wsL_law_r30))))))))))))))))))))))))))))) ++ wsX50 ++ wsX60 ++ wsX10 ++ wsX00 ++ wsX40 ++ wsX30 ++ wsX20 ++ ([] : List Cond)
set_option maxRecDepth 100000 in
theorem wsL_law_r1_in : ∀ w ∈ wsL_law_r1, w ∈ lw_tbl := fun w h => (goodIn_p wsL_law_r1 [56, 59] (by decide +kernel) (by decide +kernel) w h).1
set_option maxRecDepth 100000 in
theorem wsL_law_r2_in : ∀ w ∈ wsL_law_r2, w ∈ lw_tbl := fun w h => (goodIn_p wsL_law_r2 [64] (by decide +kernel) (by decide +kernel) w h).1
set_option maxRecDepth 100000 in
theorem wsL_law_r3_in : ∀ w ∈ wsL_law_r3, w ∈ lw_tbl := fun w h => (goodIn_p wsL_law_r3 [70, 111, 171, 191] (by decide +kernel) (by decide +kernel) w h).1
set_option maxRecDepth 100000 in
theorem wsL_law_r4_in : ∀ w ∈ wsL_law_r4, w ∈ lw_tbl := fun w h => (goodIn_p wsL_law_r4 [581, 586, 248, 251] (by decide +kernel) (by decide +kernel) w h).1
set_option maxRecDepth 100000 in
theorem wsL_law_r5_in : ∀ w ∈ wsL_law_r5, w ∈ lw_tbl := fun w h => (goodIn_p wsL_law_r5 [256, 260, 264] (by decide +kernel) (by decide +kernel) w h).1
set_option maxRecDepth 100000 in
theorem wsL_law_r6_in : ∀ w ∈ wsL_law_r6, w ∈ lw_tbl := fun w h => (goodIn_p wsL_law_r6 [271, 277, 281, 285, 289] (by decide +kernel) (by decide +kernel) w h).1
set_option maxRecDepth 100000 in
theorem wsL_law_r7_in : ∀ w ∈ wsL_law_r7, w ∈ lw_tbl := fun w h => (goodIn_p wsL_law_r7 [292, 296, 635, 638, 643, 301] (by decide +kernel) (by decide +kernel) w h).1
set_option maxRecDepth 100000 in
theorem wsL_law_r8_in : ∀ w ∈ wsL_law_r8, w ∈ lw_tbl := fun w h => (goodIn_p wsL_law_r8 [305, 647, 651, 655, 310] (by decide +kernel) (by decide +kernel) w h).1
set_option maxRecDepth 100000 in
theorem wsL_law_r9_in : ∀ w ∈ wsL_law_r9, w ∈ lw_tbl := fun w h => (goodIn_p wsL_law_r9 [659, 662, 318, 322, 326] (by decide +kernel) (by decide +kernel) w h).1
set_option maxRecDepth 100000 in
theorem wsL_law_r10_in : ∀ w ∈ wsL_law_r10, w ∈ lw_tbl := fun w h => (goodIn_p wsL_law_r10 [330, 335, 339, 343, 347] (by decide +kernel) (by decide +kernel) w h).1
set_option maxRecDepth 100000 in
theorem wsL_law_r11_in : ∀ w ∈ wsL_law_r11, w ∈ lw_tbl := fun w h => (goodIn_p wsL_law_r11 [358, 351, 355, 362, 366, 370] (by decide +kernel) (by decide +kernel) w h).1
set_option maxRecDepth 100000 in
theorem wsL_law_r12_in : ∀ w ∈ wsL_law_r12, w ∈ lw_tbl := fun w h => (goodIn_p wsL_law_r12 [374, 378, 383, 387, 391, 394] (by decide +kernel) (by decide +kernel) w h).1
set_option maxRecDepth 100000 in
theorem wsL_law_r13_in : ∀ w ∈ wsL_law_r13, w ∈ lw_tbl := fun w h => (goodIn_p wsL_law_r13 [667, 671, 675, 680, 684, 687] (by decide +kernel) (by decide +kernel) w h).1
set_option maxRecDepth 100000 in
theorem wsL_law_r14_in : ∀ w ∈ wsL_law_r14, w ∈ lw_tbl := fun w h => (goodIn_p wsL_law_r14 [690, 693, 696, 700, 704, 708] (by decide +kernel) (by decide +kernel) w h).1
set_option maxRecDepth 100000 in
theorem wsL_law_r15_in : ∀ w ∈ wsL_law_r15, w ∈ lw_tbl := fun w h => (goodIn_p wsL_law_r15 [712, 716, 720, 723, 398, 729] (by decide +kernel) (by decide +kernel) w h).1
set_option maxRecDepth 100000 in
theorem wsL_law_r16_in : ∀ w ∈ wsL_law_r16, w ∈ lw_tbl := fun w h => (goodIn_p wsL_law_r16 [402, 408, 742, 412, 416] (by decide +kernel) (by decide +kernel) w h).1
set_option maxRecDepth 100000 in
theorem wsL_law_r17_in : ∀ w ∈ wsL_law_r17, w ∈ lw_tbl := fun w h => (goodIn_p wsL_law_r17 [420, 426, 430, 746, 750] (by decide +kernel) (by decide +kernel) w h).1
set_option maxRecDepth 100000 in
theorem wsL_law_r18_in : ∀ w ∈ wsL_law_r18, w ∈ lw_tbl := fun w h => (goodIn_p wsL_law_r18 [754, 435, 738, 440] (by decide +kernel) (by decide +kernel) w h).1
set_option maxRecDepth 100000 in
theorem wsL_law_r19_in : ∀ w ∈ wsL_law_r19, w ∈ lw_tbl := fun w h => (goodIn_p wsL_law_r19 [733, 446, 449, 454, 758, 761] (by decide +kernel) (by decide +kernel) w h).1
set_option maxRecDepth 100000 in
theorem wsL_law_r20_in : ∀ w ∈ wsL_law_r20, w ∈ lw_tbl := fun w h => (goodIn_p wsL_law_r20 [765, 768, 459, 463] (by decide +kernel) (by decide +kernel) w h).1
set_option maxRecDepth 100000 in
theorem wsL_law_r21_in : ∀ w ∈ wsL_law_r21, w ∈ lw_tbl := fun w h => (goodIn_p wsL_law_r21 [776, 779, 467, 472, 783, 787] (by decide +kernel) (by decide +kernel) w h).1
set_option maxRecDepth 100000 in
theorem wsL_law_r22_in : ∀ w ∈ wsL_law_r22, w ∈ lw_tbl := fun w h => (goodIn_p wsL_law_r22 [791, 478, 795, 483, 487] (by decide +kernel) (by decide +kernel) w h).1
set_option maxRecDepth 100000 in
theorem wsL_law_r23_in : ∀ w ∈ wsL_law_r23, w ∈ lw_tbl := fun w h => (goodIn_p wsL_law_r23 [799, 491, 495, 803, 807, 499] (by decide +kernel) (by decide +kernel) w h).1
set_option maxRecDepth 100000 in
theorem wsL_law_r24_in : ∀ w ∈ wsL_law_r24, w ∈ lw_tbl := fun w h => (goodIn_p wsL_law_r24 [503, 509, 811, 815, 513] (by decide +kernel) (by decide +kernel) w h).1
set_option maxRecDepth 100000 in
theorem wsL_law_r25_in : ∀ w ∈ wsL_law_r25, w ∈ lw_tbl := fun w h => (goodIn_p wsL_law_r25 [518, 630, 522, 526, 819] (by decide +kernel) (by decide +kernel) w h).1
set_option maxRecDepth 100000 in
theorem wsL_law_r26_in : ∀ w ∈ wsL_law_r26, w ∈ lw_tbl := fun w h => (goodIn_p wsL_law_r26 [530, 534, 823, 538, 542] (by decide +kernel) (by decide +kernel) w h).1
set_option maxRecDepth 100000 in
theorem wsL_law_r27_in : ∀ w ∈ wsL_law_r27, w ∈ lw_tbl := fun w h => (goodIn_p wsL_law_r27 [546, 551, 555, 559, 563] (by decide +kernel) (by decide +kernel) w h).1
set_option maxRecDepth 100000 in
theorem wsL_law_r28_in : ∀ w ∈ wsL_law_r28, w ∈ lw_tbl := fun w h => (goodIn_p wsL_law_r28 [567, 827, 831, 835, 839] (by decide +kernel) (by decide +kernel) w h).1
set_option maxRecDepth 100000 in
theorem wsL_law_r29_in : ∀ w ∈ wsL_law_r29, w ∈ lw_tbl := fun w h => (goodIn_p wsL_law_r29 [843, 847, 851, 571, 576] (by decide +kernel) (by decide +kernel) w h).1
set_option maxRecDepth 100000 in
theorem wsL_law_r30_in : ∀ w ∈ wsL_law_r30, w ∈ lw_tbl := fun w h => (goodIn_p wsL_law_r30 [855] (by decide +kernel) (by decide +kernel) w h).1
theorem wsX50_inT : ∀ w ∈ wsX50, w ∈ lw_tbl := fun w h => (goodIn_p wsX50 [] (by decide +kernel) (by decide +kernel) w h).1
theorem wsX60_inT : ∀ w ∈ wsX60, w ∈ lw_tbl := fun w h => (goodIn_p wsX60 [] (by decide +kernel) (by decide +kernel) w h).1
theorem wsX10_inT : ∀ w ∈ wsX10, w ∈ lw_tbl := fun w h => (goodIn_p wsX10 [] (by decide +kernel) (by decide +kernel) w h).1
theorem wsX00_inT : ∀ w ∈ wsX00, w ∈ lw_tbl := fun w h => (goodIn_p wsX00 [] (by decide +kernel) (by decide +kernel) w h).1
theorem wsX40_inT : ∀ w ∈ wsX40, w ∈ lw_tbl := fun w h => (goodIn_p wsX40 [] (by decide +kernel) (by decide +kernel) w h).1
theorem wsX30_inT : ∀ w ∈ wsX30, w ∈ lw_tbl := fun w h => (goodIn_p wsX30 [] (by decide +kernel) (by decide +kernel) w h).1
theorem wsX20_inT : ∀ w ∈ wsX20, w ∈ lw_tbl := fun w h => (goodIn_p wsX20 [] (by decide +kernel) (by decide +kernel) w h).1
theorem wsN_app {a b t : List Cond} (h1 : ∀ w ∈ a, w ∈ t) (h2 : ∀ w ∈ b, w ∈ t) : ∀ w ∈ a ++ b, w ∈ t := fun w h => (List.mem_append.mp h).elim (h1 w) (h2 w)
theorem wsL_law_in : ∀ w ∈ wsL_law, w ∈ lw_tbl := wsN_app (wsN_app (wsN_app (wsN_app (wsN_app (wsN_app (wsN_app (wsN_app (wsN_app wsL_law_r1_in (wsN_app wsL_law_r2_in (wsN_app wsL_law_r3_in (wsN_app wsL_law_r4_in (wsN_app wsL_law_r5_in (wsN_app wsL_law_r6_in (wsN_app wsL_law_r7_in (wsN_app wsL_law_r8_in (wsN_app wsL_law_r9_in (wsN_app wsL_law_r10_in (wsN_app wsL_law_r11_in (wsN_app wsL_law_r12_in (wsN_app wsL_law_r13_in (wsN_app wsL_law_r14_in (wsN_app wsL_law_r15_in (wsN_app wsL_law_r16_in (wsN_app wsL_law_r17_in (wsN_app wsL_law_r18_in (wsN_app wsL_law_r19_in (wsN_app wsL_law_r20_in (wsN_app wsL_law_r21_in (wsN_app wsL_law_r22_in (wsN_app wsL_law_r23_in (wsN_app wsL_law_r24_in (wsN_app wsL_law_r25_in (wsN_app wsL_law_r26_in (wsN_app wsL_law_r27_in (wsN_app wsL_law_r28_in (wsN_app wsL_law_r29_in (wsL_law_r30_in)))))))))))))))))))))))))))))) wsX50_inT) wsX60_inT) wsX10_inT) wsX00_inT) wsX40_inT) wsX30_inT) wsX20_inT) (fun _ h => absurd h List.not_mem_nil)
theorem inlX0 : ∀ w ∈ wsX00, w ∈ wsL_law := fun _ h => List.mem_append_left _ (List.mem_append_left _ (List.mem_append_left _ (List.mem_append_left _ (List.mem_append_right _ h))))
theorem inX0 : ∀ w ∈ wsX00, w ∈ lw_tbl := fun w h => wsL_law_in w (inlX0 w h)
theorem inlX1 : ∀ w ∈ wsX10, w ∈ wsL_law := fun _ h => List.mem_append_left _ (List.mem_append_left _ (List.mem_append_left _ (List.mem_append_left _ (List.mem_append_left _ (List.mem_append_right _ h)))))
theorem inX1 : ∀ w ∈ wsX10, w ∈ lw_tbl := fun w h => wsL_law_in w (inlX1 w h)
theorem inlX2 : ∀ w ∈ wsX20, w ∈ wsL_law := fun _ h => List.mem_append_left _ (List.mem_append_right _ h)
theorem inX2 : ∀ w ∈ wsX20, w ∈ lw_tbl := fun w h => wsL_law_in w (inlX2 w h)
theorem inlX3 : ∀ w ∈ wsX30, w ∈ wsL_law := fun _ h => List.mem_append_left _ (List.mem_append_left _ (List.mem_append_right _ h))
theorem inX3 : ∀ w ∈ wsX30, w ∈ lw_tbl := fun w h => wsL_law_in w (inlX3 w h)
theorem inlX4 : ∀ w ∈ wsX40, w ∈ wsL_law := fun _ h => List.mem_append_left _ (List.mem_append_left _ (List.mem_append_left _ (List.mem_append_right _ h)))
theorem inX4 : ∀ w ∈ wsX40, w ∈ lw_tbl := fun w h => wsL_law_in w (inlX4 w h)
theorem inlX5 : ∀ w ∈ wsX50, w ∈ wsL_law := fun _ h => List.mem_append_left _ (List.mem_append_left _ (List.mem_append_left _ (List.mem_append_left _ (List.mem_append_left _ (List.mem_append_left _ (List.mem_append_left _ (List.mem_append_right _ h)))))))
theorem inX5 : ∀ w ∈ wsX50, w ∈ lw_tbl := fun w h => wsL_law_in w (inlX5 w h)
theorem inlX6 : ∀ w ∈ wsX60, w ∈ wsL_law := fun _ h => List.mem_append_left _ (List.mem_append_left _ (List.mem_append_left _ (List.mem_append_left _ (List.mem_append_left _ (List.mem_append_left _ (List.mem_append_right _ h))))))
theorem inX6 : ∀ w ∈ wsX60, w ∈ lw_tbl := fun w h => wsL_law_in w (inlX6 w h)
theorem inJx145de : ∀ w ∈ wsJx145de0, w ∈ lw_tbl := by decide +kernel
theorem inJx8e188 : ∀ w ∈ wsJx8e1880, w ∈ lw_tbl := by decide +kernel
theorem inJxb160c : ∀ w ∈ wsJxb160c0, w ∈ lw_tbl := by decide +kernel
theorem inJxf58ca : ∀ w ∈ wsJxf58ca0, w ∈ lw_tbl := by decide +kernel
theorem inJ9 : ∀ w ∈ wsJ90, w ∈ lw_tbl := by decide +kernel
theorem inJxd2413 : ∀ w ∈ wsJxd24130, w ∈ lw_tbl := by decide +kernel
theorem inJ10 : ∀ w ∈ wsJ100, w ∈ lw_tbl := by decide +kernel
theorem inJxfd54e : ∀ w ∈ wsJxfd54e0, w ∈ lw_tbl := by decide +kernel
theorem inJx3cf43 : ∀ w ∈ wsJx3cf430, w ∈ lw_tbl := by decide +kernel
theorem inJ7 : ∀ w ∈ wsJ70, w ∈ lw_tbl := by decide +kernel
abbrev vwCl : List vw_C := [(RX0, TX0, 3), (RX1, TX1, 9), (RX2, TX2, 2), (RX3, TX3, 8), (RX4, TX4, 9), (RX5, TX5, 4), (RX6, TX6, 13)]
end
section
/-! rows of this claim over the kit's: worlds of cells in one word (y_W), a method's contract in one word (y_MI, y_MV ..) -/
abbrev y_tys (cI cC cL : ClassId) : List (ClassId × FieldType) := [(cI, .int), (cC, .char), (cL, .object RX1)]
/-- the cells ws, the tables, the cells apart and within A -/
def y_B (D : va_G) (cI cC cL : ClassId) (A : Nat → Prop) (ws : va_W) (t : State) : Prop := va_P D vwCl ws t.heap ∧ va_K D vwCl (y_tys cI cC cL) t ∧ va_D A ws
def y_Pre (D : va_G) (cI cC cL : ClassId) (sz : Nat) (ws : va_W) : State → Prop := fun U => U.heap.size = sz ∧ y_B D cI cC cL (fun _ => True) ws U
/-- what a walk holds of the world -/
def y_W (D : va_G) (cI cC cL : ClassId) (A : Nat → Prop) (s : State) (H : Heap) (locs : List Loc) (ws : va_W) : Prop := va_K D vwCl (y_tys cI cC cL) s ∧ va_P D vwCl ws H ∧ va_D A ws ∧ va_S A s.heap H locs ∧ (∀ q, s.heap.size ≤ q → A q)
abbrev y_R (fr lo : Nat) : Room := { frames := fr, cells := 0, slots := 0, locals := lo }
/-- a method that answers an int: the answer is r, the world F u -/
def y_MI {σ : Type} (l : Launch) (y : MethodName) (w : List Cond) (fr lo : Nat) (D : va_G) (cI cC cL : ClassId) (as : List Value) (ws : va_W) (r : Int32) (F : σ → va_W) (u : σ) : Prop :=
  ∀ sz : Nat, Met l y w (y_R fr lo) (va_Pc as (y_Pre D cI cC cL sz ws)) (va_Qi (fun (x : Int32) (v : σ) => x = r ∧ v = u) (fun v t => y_B D cI cC cL (va_A ws sz) (F v) t) (va_A ws sz)) 0 0 (va_A ws sz)
def y_ML {σ : Type} (l : Launch) (y : MethodName) (w : List Cond) (fr lo : Nat) (D : va_G) (cI cC cL : ClassId) (as : List Value) (ws : va_W) (r : Int64) (F : σ → va_W) (u : σ) : Prop :=
  ∀ sz : Nat, Met l y w (y_R fr lo) (va_Pc as (y_Pre D cI cC cL sz ws)) (va_Ql (fun (x : Int64) (v : σ) => x = r ∧ v = u) (fun v t => y_B D cI cC cL (va_A ws sz) (F v) t) (va_A ws sz)) 0 0 (va_A ws sz)
def y_MV {σ : Type} (l : Launch) (y : MethodName) (w : List Cond) (fr lo : Nat) (D : va_G) (cI cC cL : ClassId) (as : List Value) (ws : va_W) (F : σ → va_W) (u : σ) : Prop :=
  ∀ sz : Nat, Met l y w (y_R fr lo) (va_Pc as (y_Pre D cI cC cL sz ws)) (va_Qv (fun (v : σ) => v = u) (fun v t => y_B D cI cC cL (va_A ws sz) (F v) t) (va_A ws sz)) 0 0 (va_A ws sz)
theorem y_blind {D : va_G} {cI cC cL : ClassId} {as : List Value} {sz : Nat} {ws : va_W} : FrameBlind (va_Pc as (y_Pre D cI cC cL sz ws)) := fun a U g mk q => by
  obtain ⟨q0, q1, qP, qK, qD⟩ := q
  exact ⟨q0, q1, qP, va_K.moved (u := U) (U := U.calling g mk a) (Vm.Alike.refl U.vm) qK, qD⟩
theorem y_preU {D : va_G} {cI cC cL : ClassId} {A : Nat → Prop} {as : List Value} {ws wc : va_W} {s U : State} {H : Heap} {locs : List Loc} (hw : y_W D cI cC cL A s H locs ws) (is : List Nat) (hC : is.map (fun i => ws[i]?) = wc.map some) (hn : va_nd is = true) (hU : U.heap = H) (hW : s.WarmedH U.vm) : va_Pc as (y_Pre D cI cC cL H.size wc) as.toArray U := by
  obtain ⟨hK, hP, hD, hS, hA⟩ := hw
  refine ⟨rfl, by rw [hU], ?_, va_K.moved hW.alike hK, (hD.sub is hn hC).weaken (fun _ _ _ _ => trivial)⟩
  rw [hU]
  intro k q hk
  have h1 : (is.map (fun i => ws[i]?))[k]? = some (some q) := by rw [hC, List.getElem?_map, hk]; rfl
  rw [List.getElem?_map] at h1
  cases hi : is[k]? with
  | none => rw [hi] at h1; cases h1
  | some i => rw [hi] at h1; exact hP i q (Option.some.inj h1)
/-- the cells in another order, or fewer -/
theorem y_W.sub {D : va_G} {cI cC cL : ClassId} {A : Nat → Prop} {ws ws' : va_W} {s : State} {H : Heap} {locs : List Loc} (hw : y_W D cI cC cL A s H locs ws) (is : List Nat) (hn : va_nd is = true) (hC : is.map (fun i => ws[i]?) = ws'.map some) : y_W D cI cC cL A s H locs ws' := by
  obtain ⟨hK, hP, hD, hS, hA⟩ := hw
  refine ⟨hK, ?_, hD.sub is hn hC, hS, hA⟩
  intro k q hk
  have h1 : (is.map (fun i => ws[i]?))[k]? = some (some q) := by rw [hC, List.getElem?_map, hk]; rfl
  rw [List.getElem?_map] at h1
  cases hi : is[k]? with
  | none => rw [hi] at h1; cases h1
  | some i => rw [hi] at h1; exact hP i q (Option.some.inj h1)
/-- an array's cell speaks of its places alone -/
theorem y_cong {cA : ClassId} {n : Nat} {f g : Nat → Int32} (h : ∀ k, k < n → f k = g k) : vp_cell cA (n, .inl f) = vp_cell cA (n, .inl g) := by
  rw [vp_cell_i, vp_cell_i]
  unfold arrV
  congr 1
  apply Array.ext
  · simp
  · intro i h1 h2
    simp only [Array.size_ofFn] at h1
    simp [h i h1]
theorem y_W.cong {D : va_G} {cI cC cL : ClassId} {A : Nat → Prop} {ws ws' : va_W} {s : State} {H : Heap} {locs : List Loc} (hw : y_W D cI cC cL A s H locs ws) (q0 : Nat) {a : Nat} {cA : ClassId} {n : Nat} {f : Nat → Int32} (g : Nat → Int32) (ha : ws[q0]? = some (a, .inl (cA, n, .inl f))) (h : ∀ k, k < n → f k = g k) (hw' : ws.set q0 (a, .inl (cA, n, .inl g)) = ws') : y_W D cI cC cL A s H locs ws' := by
  obtain ⟨hK, hP, hD, hS, hA⟩ := hw
  subst hw'
  refine ⟨hK, hP.set hD ha ?_ (fun _ _ => rfl), hD.set ha, hS, hA⟩
  show H[a]? = some (vp_cell _ _)
  rw [← y_cong h]
  exact hP q0 _ ha
section YR
variable {p : Program} {l : Launch} {e : Env} {R : Room} {s : State} {m : MethodId} {args : Array Value} {below : List Frame} {meth : Method} {c : Code} {H : Heap} {locs : List Loc} {cells slots : Nat} {Q : State → Prop}
variable {cc : ByteArray} {pc nL : Nat} {ls : Array Slot} {rest : List Value} {D : va_G} {cI cC cL : ClassId} {A : Nat → Prop} {a : Nat} {ws ws' : va_W} {Ts : List Cond} {own : String}
theorem y_top {x y : Int32} (h : x = y) (k : W p l e R s m args below meth c H locs cells slots Q (F0 m pc ls (.int y :: rest))) : W p l e R s m args below meth c H locs cells slots Q (F0 m pc ls (.int x :: rest)) := by rw [h]; exact k
theorem y_get (S : CallFix p m c cc nL s args Ts own) (hw : y_W D cI cC cL A s H locs ws) {C : String} {T : u_T} {N ci index : Nat} (hin : ∀ w ∈ u_ws C T N, w ∈ Ts) (q0 : Nat) {fs : List Value} (he : ws[q0]? = some (a, .inr (ci, fs))) (hc : vwCl[ci]? = some (C, T, N)) (k : Nat) (hk : k < N) (hlink : Cond.fieldLink own index (T k).1 (T k).2.1 (T k).2.2.1 ∈ Ts) {v : Value} (hv : fs[k]? = some v) (hdg : decode cc pc = .ok (.getfield index, 3))
    (kk : W p l e R s m args below meth c H locs cells slots Q (F0 m (pc + 3) ls (v :: rest))) : W p l e R s m args below meth c H locs cells slots Q (F0 m pc ls (.ref a :: rest)) := by
  obtain ⟨hx, hb, hml, hown, hts⟩ := S
  exact va_get (D := D) (ci := ci) (v := v) (C := C) (T := T) (N := N) hx hb hts hin hown hw.1 hw.2.1 q0 he hc k hk (hts _ hlink) (fun _ h9 => h9) hv hdg kk
theorem y_put (S : CallFix p m c cc nL s args Ts own) (hw : y_W D cI cC cL A s H locs ws) {C : String} {T : u_T} {N ci index : Nat} (hin : ∀ w ∈ u_ws C T N, w ∈ Ts) {ty0 : Nat → FieldType} (hty : ∀ k, k < N → parseFieldDescriptor (T k).2.2.1 = some (ty0 k)) (hnm : ∀ a, a < N → ∀ b, b < N → a ≠ b → (T a).2.1 ≠ (T b).2.1) (q0 : Nat) {fs : List Value} (he : ws[q0]? = some (a, .inr (ci, fs))) (hc : vwCl[ci]? = some (C, T, N)) (k : Nat) (hk : k < N) (hlink : Cond.fieldLink own index (T k).1 (T k).2.1 (T k).2.2.1 ∈ Ts) (hfin : (T k).2.2.2 = false) {v : Value} (hn : narrow (ty0 k) v = v) (hfit : fits (ty0 k) v = true) (hl : k < fs.length) (hdg : decode cc pc = .ok (.putfield index, 3)) (hws : ws.set q0 (a, .inr (ci, fs.set k v)) = ws')
    (kk : ∀ (H1 : Heap) (locs1 : List Loc), y_W D cI cC cL A s H1 locs1 ws' → W p l e R s m args below meth c H1 locs1 cells slots Q (F0 m (pc + 3) ls rest)) : W p l e R s m args below meth c H locs cells slots Q (F0 m pc ls (v :: .ref a :: rest)) := by
  obtain ⟨hx, hb, hml, hown, hts⟩ := S
  obtain ⟨hK, hP, hD, hS, hA⟩ := hw
  refine va_put (D := D) (ci := ci) (v := v) (ty := ty0 k) (C := C) (T := T) (N := N) hx hb hts hin ty0 hty hnm hown hK hP hD hS q0 he hc k hk (hts _ hlink) (fun _ h9 => h9) hfin (hty k hk) hn hfit hl hdg (fun H1 locs1 hP1 hD1 hS1 => ?_)
  exact kk H1 locs1 ⟨hK, hws ▸ hP1, hws ▸ hD1, hS1, hA⟩
theorem y_iald (S : CallFix p m c cc nL s args Ts own) (hw : y_W D cI cC cL A s H locs ws) (q0 : Nat) {n k : Nat} {f : Nat → Int32} (ha : ws[q0]? = some (a, .inl (cI, n, .inl f))) (hk : k < n) (hn : n < 2 ^ 31) (hdg : decode cc pc = .ok (.iaload, 1))
    (kk : W p l e R s m args below meth c H locs cells slots Q (F0 m (pc + 1) ls (.int (f k) :: rest))) : W p l e R s m args below meth c H locs cells slots Q (F0 m pc ls (.int (nI k) :: .ref a :: rest)) := by
  refine va_iald S.1 S.2.1 hw.1 hw.2.1 q0 0 ha rfl (vp_in_nI hk hn) hdg ?_
  rw [nI_clamp (by omega)]
  exact kk
theorem y_cald (S : CallFix p m c cc nL s args Ts own) (hw : y_W D cI cC cL A s H locs ws) (q0 : Nat) {n k : Nat} {f : Nat → Int32} (ha : ws[q0]? = some (a, .inl (cC, n, .inl f))) (hk : k < n) (hn : n < 2 ^ 31) (hdg : decode cc pc = .ok (.caload, 1))
    (kk : W p l e R s m args below meth c H locs cells slots Q (F0 m (pc + 1) ls (.int (f k) :: rest))) : W p l e R s m args below meth c H locs cells slots Q (F0 m pc ls (.int (nI k) :: .ref a :: rest)) := by
  refine va_cald S.1 S.2.1 hw.1 hw.2.1 q0 1 ha rfl (vp_in_nI hk hn) hdg ?_
  rw [nI_clamp (by omega)]
  exact kk
theorem y_aldq (S : CallFix p m c cc nL s args Ts own) (hw : y_W D cI cC cL A s H locs ws) (q0 : Nat) {n k : Nat} {f : Nat → Option Nat} (ha : ws[q0]? = some (a, .inl (cL, n, .inr (.inr (.inr (.inr f)))))) (hk : k < n) (hn : n < 2 ^ 31) {v : Value} (hv : va_rf (f k) = v) (hdg : decode cc pc = .ok (.aaload, 1))
    (kk : W p l e R s m args below meth c H locs cells slots Q (F0 m (pc + 1) ls (v :: rest))) : W p l e R s m args below meth c H locs cells slots Q (F0 m pc ls (.int (nI k) :: .ref a :: rest)) := by
  refine va_aldq S.1 S.2.1 hw.1 hw.2.1 q0 2 ha rfl (vp_in_nI hk hn) hdg ?_
  rw [nI_clamp (by omega), hv]
  exact kk
theorem y_iast (S : CallFix p m c cc nL s args Ts own) (hw : y_W D cI cC cL A s H locs ws) (q0 : Nat) {n k : Nat} {f : Nat → Int32} {x : Int32} (ha : ws[q0]? = some (a, .inl (cI, n, .inl f))) (hk : k < n) (hn : n < 2 ^ 31) (hdg : decode cc pc = .ok (.iastore, 1)) (hws : ws.set q0 (a, .inl (cI, n, .inl (upd f k x))) = ws')
    (kk : ∀ (H1 : Heap) (locs1 : List Loc), y_W D cI cC cL A s H1 locs1 ws' → W p l e R s m args below meth c H1 locs1 cells slots Q (F0 m (pc + 1) ls rest)) : W p l e R s m args below meth c H locs cells slots Q (F0 m pc ls (.int x :: .int (nI k) :: .ref a :: rest)) := by
  obtain ⟨hK, hP, hD, hS, hA⟩ := hw
  refine va_iast S.1 S.2.1 hK hP hD hS q0 0 ha rfl (vp_in_nI hk hn) hdg (fun H1 locs1 hP1 hD1 hS1 => ?_)
  rw [nI_clamp (by omega)] at hP1 hD1
  exact kk H1 locs1 ⟨hK, hws ▸ hP1, hws ▸ hD1, hS1, hA⟩
theorem y_cast (S : CallFix p m c cc nL s args Ts own) (hw : y_W D cI cC cL A s H locs ws) (q0 : Nat) {n k : Nat} {f : Nat → Int32} {x : Int32} (ha : ws[q0]? = some (a, .inl (cC, n, .inl f))) (hk : k < n) (hn : n < 2 ^ 31) (hx : vp_nar .char x = x) (hdg : decode cc pc = .ok (.castore, 1)) (hws : ws.set q0 (a, .inl (cC, n, .inl (upd f k x))) = ws')
    (kk : ∀ (H1 : Heap) (locs1 : List Loc), y_W D cI cC cL A s H1 locs1 ws' → W p l e R s m args below meth c H1 locs1 cells slots Q (F0 m (pc + 1) ls rest)) : W p l e R s m args below meth c H locs cells slots Q (F0 m pc ls (.int x :: .int (nI k) :: .ref a :: rest)) := by
  obtain ⟨hK, hP, hD, hS, hA⟩ := hw
  refine va_cast S.1 S.2.1 hK hP hD hS q0 1 ha rfl (vp_in_nI hk hn) hdg (fun H1 locs1 hP1 hD1 hS1 => ?_)
  rw [nI_clamp (by omega), hx] at hP1 hD1
  exact kk H1 locs1 ⟨hK, hws ▸ hP1, hws ▸ hD1, hS1, hA⟩
/-- arithmetic on numbers that are known -/
theorem y_iaddN (S : CallFix p m c cc nL s args Ts own) (i j : Nat) (hdg : decode cc pc = .ok (.iadd, 1)) (kk : W p l e R s m args below meth c H locs cells slots Q (F0 m (pc + 1) ls (.int (nI (i + j)) :: rest))) : W p l e R s m args below meth c H locs cells slots Q (F0 m pc ls (.int (nI j) :: .int (nI i) :: rest)) := by
  refine lv_iadd S.1 S.2.1 hdg ?_
  rw [nI_add]
  exact kk
theorem y_imulN (S : CallFix p m c cc nL s args Ts own) (i j : Nat) (hdg : decode cc pc = .ok (.imul, 1)) (kk : W p l e R s m args below meth c H locs cells slots Q (F0 m (pc + 1) ls (.int (nI (i * j)) :: rest))) : W p l e R s m args below meth c H locs cells slots Q (F0 m pc ls (.int (nI j) :: .int (nI i) :: rest)) := by
  refine lv_imul S.1 S.2.1 hdg ?_
  rw [pk_mul]
  exact kk
theorem y_isubN (S : CallFix p m c cc nL s args Ts own) (i j : Nat) (h : j ≤ i) (hdg : decode cc pc = .ok (.isub, 1)) (kk : W p l e R s m args below meth c H locs cells slots Q (F0 m (pc + 1) ls (.int (nI (i - j)) :: rest))) : W p l e R s m args below meth c H locs cells slots Q (F0 m pc ls (.int (nI j) :: .int (nI i) :: rest)) := by
  refine lv_isub S.1 S.2.1 hdg ?_
  rw [pk_sub h]
  exact kk
/-- the start of a method's walk -/
theorem y_startI {σ : Type} {y : MethodName} {w w' : List Cond} {fr lo maxL : Nat} {as : List Value} {r : Int32} {F : σ → va_W} {u : σ} {ret : Option FieldType} (hy : plainName y.cls = true) (hwd : w = Cond.code y cc maxL ret :: w') (hn : (lg_sl as).length ≤ maxL) (hret : ∃ ty, ret = some ty ∧ ∀ x : Int32, (ty = .boolean → x = 0 ∨ x = 1) → narrow ty (.int x) = .int x) (hrb : ret = some .boolean → r = 0 ∨ r = 1)
    (body : ∀ (p : Program) (e : Env) (s : State) (m : MethodId) (args : Array Value) (below : List Frame) (meth : Method) (c : Code) (A : Nat → Prop) (Q : State → Prop) (ls : Array Slot), CallFix p m c cc maxL s args w y.cls → y_W D cI cC cL A s s.heap [] ws →
      (∀ (H : Heap) (locs : List Loc) (pc : Nat) (ls : Array Slot) (x : Int32), y_W D cI cC cL A s H locs (F u) → x = r → decode cc pc = .ok (.ireturn, 1) → W p l e (y_R fr lo) s m args below meth c H locs 0 0 Q (F0 m pc ls [.int x])) →
      lv_has ls maxL (lv_args 0 as) → W p l e (y_R fr lo) s m args below meth c s.heap [] 0 0 Q (F0 m 0 ls [])) : y_MI l y w fr lo D cI cC cL as ws r F u := by
  intro sz
  refine Met.ofW (cc := cc) (maxL := maxL) (ret := ret) hy hwd ?_
  intro p e s m args below meth c s₁ B hml hv
  obtain ⟨rfl, hsz, hP, hK, hD0⟩ := hv
  have hts := atoms_spec (ws := w) B.pre
  have hr := B.returns
  have hlocks := B.notSynchronized
  subst hsz
  rw [lg_entry_eq]
  refine body p e s m _ below meth c (va_A ws s.heap.size) _ _ ⟨B.exec, B.bytes, hml, findClass_of_methodNamed B.named, hts⟩ ⟨hK, hP, hD0.self, va_S.rf, fun q h => Or.inr h⟩ ?_ (lv_entry as hn)
  intro H locs pc ls x hw hx hdg
  obtain ⟨ty, hty, hna⟩ := hret
  obtain ⟨hK, hP, hD, hS, hA⟩ := hw
  refine W.zret (v := x) B.exec B.bytes (hr.trans hty) (hna x (fun h => by rw [hx]; exact hrb (hty.trans (by rw [h])))) (fun t ht hW => ⟨⟨x, u, rfl, ⟨hx, rfl⟩, by rw [ht]; exact hP, va_K.moved hW.alike hK, hD⟩, hS.F ht⟩) hS.2.2 hdg
theorem y_startV {σ : Type} {y : MethodName} {w w' : List Cond} {fr lo maxL : Nat} {as : List Value} {F : σ → va_W} {u : σ} (hy : plainName y.cls = true) (hwd : w = Cond.code y cc maxL none :: w') (hn : (lg_sl as).length ≤ maxL)
    (body : ∀ (p : Program) (e : Env) (s : State) (m : MethodId) (args : Array Value) (below : List Frame) (meth : Method) (c : Code) (A : Nat → Prop) (Q : State → Prop) (ls : Array Slot), CallFix p m c cc maxL s args w y.cls → y_W D cI cC cL A s s.heap [] ws →
      (∀ (H : Heap) (locs : List Loc) (pc : Nat) (ls : Array Slot), y_W D cI cC cL A s H locs (F u) → decode cc pc = .ok (.return_, 1) → W p l e (y_R fr lo) s m args below meth c H locs 0 0 Q (F0 m pc ls [])) →
      lv_has ls maxL (lv_args 0 as) → W p l e (y_R fr lo) s m args below meth c s.heap [] 0 0 Q (F0 m 0 ls [])) : y_MV l y w fr lo D cI cC cL as ws F u := by
  intro sz
  refine Met.ofW (cc := cc) (maxL := maxL) (ret := none) hy hwd ?_
  intro p e s m args below meth c s₁ B hml hv
  obtain ⟨rfl, hsz, hP, hK, hD0⟩ := hv
  have hts := atoms_spec (ws := w) B.pre
  have hr := B.returns
  have hlocks := B.notSynchronized
  subst hsz
  rw [lg_entry_eq]
  refine body p e s m _ below meth c (va_A ws s.heap.size) _ _ ⟨B.exec, B.bytes, hml, findClass_of_methodNamed B.named, hts⟩ ⟨hK, hP, hD0.self, va_S.rf, fun q h => Or.inr h⟩ ?_ (lv_entry as hn)
  intro H locs pc ls hw hdg
  obtain ⟨hK, hP, hD, hS, hA⟩ := hw
  exact W.vret B.exec B.bytes hr (fun t ht hW => ⟨⟨u, rfl, rfl, by rw [ht]; exact hP, va_K.moved hW.alike hK, hD⟩, hS.F ht⟩) hS.2.2 hdg
theorem y_startL {σ : Type} {y : MethodName} {w w' : List Cond} {fr lo maxL : Nat} {as : List Value} {r : Int64} {F : σ → va_W} {u : σ} (hy : plainName y.cls = true) (hwd : w = Cond.code y cc maxL (some .long) :: w') (hn : (lg_sl as).length ≤ maxL)
    (body : ∀ (p : Program) (e : Env) (s : State) (m : MethodId) (args : Array Value) (below : List Frame) (meth : Method) (c : Code) (A : Nat → Prop) (Q : State → Prop) (ls : Array Slot), CallFix p m c cc maxL s args w y.cls → y_W D cI cC cL A s s.heap [] ws →
      (∀ (H : Heap) (locs : List Loc) (pc : Nat) (ls : Array Slot) (x : Int64), y_W D cI cC cL A s H locs (F u) → x = r → decode cc pc = .ok (.lreturn, 1) → W p l e (y_R fr lo) s m args below meth c H locs 0 0 Q (F0 m pc ls [.long x])) →
      lv_has ls maxL (lv_args 0 as) → W p l e (y_R fr lo) s m args below meth c s.heap [] 0 0 Q (F0 m 0 ls [])) : y_ML l y w fr lo D cI cC cL as ws r F u := by
  intro sz
  refine Met.ofW (cc := cc) (maxL := maxL) (ret := some .long) hy hwd ?_
  intro p e s m args below meth c s₁ B hml hv
  obtain ⟨rfl, hsz, hP, hK, hD0⟩ := hv
  have hts := atoms_spec (ws := w) B.pre
  have hr := B.returns
  have hlocks := B.notSynchronized
  subst hsz
  rw [lg_entry_eq]
  refine body p e s m _ below meth c (va_A ws s.heap.size) _ _ ⟨B.exec, B.bytes, hml, findClass_of_methodNamed B.named, hts⟩ ⟨hK, hP, hD0.self, va_S.rf, fun q h => Or.inr h⟩ ?_ (lv_entry as hn)
  intro H locs pc ls x hw hx hdg
  obtain ⟨hK, hP, hD, hS, hA⟩ := hw
  exact W.lret (v := x) B.exec B.bytes hr (fun t ht hW => ⟨⟨x, u, rfl, ⟨hx, rfl⟩, by rw [ht]; exact hP, va_K.moved hW.alike hK, hD⟩, hS.F ht⟩) hS.2.2 hdg
/-- behind a call: what came back, and the rest -/
theorem y_back {wc wr w1 : va_W} {H1 : Heap} {locs1 : List Loc} {t : State} (hw : y_W D cI cC cL A s H locs ws) (isC isR : List Nat) (hC : isC.map (fun i => ws[i]?) = wc.map some) (hR : isR.map (fun i => ws[i]?) = wr.map some) (hnR : va_nd isR = true) (hdis : ∀ i ∈ isR, i ∉ isC) (ht : t.heap = H1) (hB : y_B D cI cC cL (va_A wc H.size) w1 t) (hk1 : ∀ q : Nat, q < H.size → ¬ va_A wc H.size q → H1[q]? = H[q]?) (hS1 : va_S A s.heap H1 locs1) : y_W D cI cC cL A s H1 locs1 (wr ++ w1) := by
  obtain ⟨hK, hP, hD, hS, hA⟩ := hw
  obtain ⟨hP1, hK1, hD1⟩ := hB
  rw [ht] at hP1
  obtain ⟨j1, j2⟩ := va_join hP hD isC isR hC hR hnR hdis hk1 (va_free hD hS hA isC hC) hP1 hD1
  exact ⟨hK, j1, j2, hS1, hA⟩
variable {σ : Type} {y : MethodName} {bytes : ByteArray} {maxL n index fr lo ci q0 b : Nat} {ret : Option FieldType} {w : List Cond} {C : String} {As fs : List Value} {wc wr : va_W} {F : σ → va_W} {u : σ} {r : Int32} {rl : Int64}
theorem y_callI (S : CallFix p m c cc nL s args Ts own) (hw : y_W D cI cC cL A s H locs ws) (hl : ls.size = nL) (hM : y_MI l y w fr lo D cI cC cL (.ref b :: As) wc r F u) (cw : CallW R s args own C index y bytes maxL ret w (y_R fr lo) 0 0 n) (q0 : Nat) (he : ws[q0]? = some (b, .inr (ci, fs))) (hc : (vwCl[ci]?).map (fun z => z.1) = some C) (isC isR : List Nat) (hC : isC.map (fun i => ws[i]?) = wc.map some) (hnC : va_nd isC = true) (hR : isR.map (fun i => ws[i]?) = wr.map some) (hnR : va_nd isR = true) (hdis : ∀ i ∈ isR, i ∉ isC) (hn : As.length = n) (hm : (rest.map fun v => v.category).sum ≤ 8) (hdg : decode cc pc = .ok (.invokevirtual index, 3)) {st : List Value} (hst : st = As.reverse ++ .ref b :: rest) (hcs : cells ≤ R.cells ∧ slots ≤ R.slots)
    (kk : ∀ (H1 : Heap) (locs1 : List Loc) (v : σ) (x : Int32), v = u → x = r → y_W D cI cC cL A s H1 locs1 (wr ++ F v) → W p l e R s m args below meth c H1 locs1 cells slots Q (F0 m (pc + 3) ls (.int x :: rest))) : W p l e R s m args below meth c H locs cells slots Q (F0 m pc ls st) := by
  subst hst
  cases hci : vwCl[ci]? with
  | none => rw [hci] at hc; cases hc
  | some z =>
    rw [hci] at hc
    have hC2 : z.1 = C := Option.some.inj hc
    refine va_calli (va_runV (As := As) (rest := rest) S (hM H.size) cw ⟨y_blind, ?_, fun U hU hW => y_preU hw isC hC hnC hU hW⟩ rfl hn hl rfl (lv_room hm) hdg hcs) hw.2.2.2.1 (fun q _ h => va_free hw.2.2.1 hw.2.2.2.1 hw.2.2.2.2 isC hC q h) (va_free hw.2.2.1 hw.2.2.2.1 hw.2.2.2.2 isC hC) (fun x v t H1 locs1 ht hvm hp hB hz1 hk1 hS1 => ?_)
    · have := va_recv hw.1 hw.2.1 hci he
      rw [hC2] at this
      exact this
    · exact kk H1 locs1 v x hp.2 hp.1 (y_back hw isC isR hC hR hnR hdis ht hB hk1 hS1)
theorem y_callV (S : CallFix p m c cc nL s args Ts own) (hw : y_W D cI cC cL A s H locs ws) (hl : ls.size = nL) (hM : y_MV l y w fr lo D cI cC cL (.ref b :: As) wc F u) (cw : CallW R s args own C index y bytes maxL ret w (y_R fr lo) 0 0 n) (q0 : Nat) (he : ws[q0]? = some (b, .inr (ci, fs))) (hc : (vwCl[ci]?).map (fun z => z.1) = some C) (isC isR : List Nat) (hC : isC.map (fun i => ws[i]?) = wc.map some) (hnC : va_nd isC = true) (hR : isR.map (fun i => ws[i]?) = wr.map some) (hnR : va_nd isR = true) (hdis : ∀ i ∈ isR, i ∉ isC) (hn : As.length = n) (hm : (rest.map fun v => v.category).sum ≤ 8) (hdg : decode cc pc = .ok (.invokevirtual index, 3)) {st : List Value} (hst : st = As.reverse ++ .ref b :: rest) (hcs : cells ≤ R.cells ∧ slots ≤ R.slots)
    (kk : ∀ (H1 : Heap) (locs1 : List Loc) (v : σ), v = u → y_W D cI cC cL A s H1 locs1 (wr ++ F v) → W p l e R s m args below meth c H1 locs1 cells slots Q (F0 m (pc + 3) ls rest)) : W p l e R s m args below meth c H locs cells slots Q (F0 m pc ls st) := by
  subst hst
  cases hci : vwCl[ci]? with
  | none => rw [hci] at hc; cases hc
  | some z =>
    rw [hci] at hc
    have hC2 : z.1 = C := Option.some.inj hc
    refine va_callv (va_runV (As := As) (rest := rest) S (hM H.size) cw ⟨y_blind, ?_, fun U hU hW => y_preU hw isC hC hnC hU hW⟩ rfl hn hl rfl (lv_room hm) hdg hcs) hw.2.2.2.1 (fun q _ h => va_free hw.2.2.1 hw.2.2.2.1 hw.2.2.2.2 isC hC q h) (va_free hw.2.2.1 hw.2.2.2.1 hw.2.2.2.2 isC hC) (fun v t H1 locs1 ht hvm hp hB hz1 hk1 hS1 => ?_)
    · have := va_recv hw.1 hw.2.1 hci he
      rw [hC2] at this
      exact this
    · exact kk H1 locs1 v hp (y_back hw isC isR hC hR hnR hdis ht hB hk1 hS1)
theorem y_callL (S : CallFix p m c cc nL s args Ts own) (hw : y_W D cI cC cL A s H locs ws) (hl : ls.size = nL) (hM : y_ML l y w fr lo D cI cC cL (.ref b :: As) wc rl F u) (cw : CallW R s args own C index y bytes maxL ret w (y_R fr lo) 0 0 n) (q0 : Nat) (he : ws[q0]? = some (b, .inr (ci, fs))) (hc : (vwCl[ci]?).map (fun z => z.1) = some C) (isC isR : List Nat) (hC : isC.map (fun i => ws[i]?) = wc.map some) (hnC : va_nd isC = true) (hR : isR.map (fun i => ws[i]?) = wr.map some) (hnR : va_nd isR = true) (hdis : ∀ i ∈ isR, i ∉ isC) (hn : As.length = n) (hm : (rest.map fun v => v.category).sum ≤ 8) (hdg : decode cc pc = .ok (.invokevirtual index, 3)) {st : List Value} (hst : st = As.reverse ++ .ref b :: rest) (hcs : cells ≤ R.cells ∧ slots ≤ R.slots)
    (kk : ∀ (H1 : Heap) (locs1 : List Loc) (v : σ) (x : Int64), v = u → x = rl → y_W D cI cC cL A s H1 locs1 (wr ++ F v) → W p l e R s m args below meth c H1 locs1 cells slots Q (F0 m (pc + 3) ls (.long x :: rest))) : W p l e R s m args below meth c H locs cells slots Q (F0 m pc ls st) := by
  subst hst
  cases hci : vwCl[ci]? with
  | none => rw [hci] at hc; cases hc
  | some z =>
    rw [hci] at hc
    have hC2 : z.1 = C := Option.some.inj hc
    refine va_calll (va_runV (As := As) (rest := rest) S (hM H.size) cw ⟨y_blind, ?_, fun U hU hW => y_preU hw isC hC hnC hU hW⟩ rfl hn hl rfl (lv_room hm) hdg hcs) hw.2.2.2.1 (fun q _ h => va_free hw.2.2.1 hw.2.2.2.1 hw.2.2.2.2 isC hC q h) (va_free hw.2.2.1 hw.2.2.2.1 hw.2.2.2.2 isC hC) (fun x v t H1 locs1 ht hvm hp hB hz1 hk1 hS1 => ?_)
    · have := va_recv hw.1 hw.2.1 hci he
      rw [hC2] at this
      exact this
    · exact kk H1 locs1 v x hp.2 hp.1 (y_back hw isC isR hC hR hnR hdis ht hB hk1 hS1)
/-- static calls -/
theorem y_callSI (S : CallFix p m c cc nL s args Ts own) (hw : y_W D cI cC cL A s H locs ws) (hl : ls.size = nL) (hM : y_MI l y w fr lo D cI cC cL As wc r F u) (cw : CallB R s args own index y bytes maxL ret w (y_R fr lo) 0 0 n ∧ (Cond.static y).before args s = true) (isC isR : List Nat) (hC : isC.map (fun i => ws[i]?) = wc.map some) (hnC : va_nd isC = true) (hR : isR.map (fun i => ws[i]?) = wr.map some) (hnR : va_nd isR = true) (hdis : ∀ i ∈ isR, i ∉ isC) (hn : As.length = n) (hm : (rest.map fun v => v.category).sum ≤ 8) (hdg : decode cc pc = .ok (.invokestatic index, 3)) {st : List Value} (hst : st = As.reverse ++ rest) (hcs : cells ≤ R.cells ∧ slots ≤ R.slots)
    (kk : ∀ (H1 : Heap) (locs1 : List Loc) (v : σ) (x : Int32), v = u → x = r → y_W D cI cC cL A s H1 locs1 (wr ++ F v) → W p l e R s m args below meth c H1 locs1 cells slots Q (F0 m (pc + 3) ls (.int x :: rest))) : W p l e R s m args below meth c H locs cells slots Q (F0 m pc ls st) := by
  subst hst
  exact va_calli (va_runS (As := As) (rest := rest) S (hM H.size) cw ⟨y_blind, fun U hU hW => y_preU hw isC hC hnC hU hW⟩ rfl hn hl rfl (lv_room hm) hdg hcs) hw.2.2.2.1 (fun q _ h => va_free hw.2.2.1 hw.2.2.2.1 hw.2.2.2.2 isC hC q h) (va_free hw.2.2.1 hw.2.2.2.1 hw.2.2.2.2 isC hC) (fun x v t H1 locs1 ht hvm hp hB hz1 hk1 hS1 => kk H1 locs1 v x hp.2 hp.1 (y_back hw isC isR hC hR hnR hdis ht hB hk1 hS1))
theorem y_callSV (S : CallFix p m c cc nL s args Ts own) (hw : y_W D cI cC cL A s H locs ws) (hl : ls.size = nL) (hM : y_MV l y w fr lo D cI cC cL As wc F u) (cw : CallB R s args own index y bytes maxL ret w (y_R fr lo) 0 0 n ∧ (Cond.static y).before args s = true) (isC isR : List Nat) (hC : isC.map (fun i => ws[i]?) = wc.map some) (hnC : va_nd isC = true) (hR : isR.map (fun i => ws[i]?) = wr.map some) (hnR : va_nd isR = true) (hdis : ∀ i ∈ isR, i ∉ isC) (hn : As.length = n) (hm : (rest.map fun v => v.category).sum ≤ 8) (hdg : decode cc pc = .ok (.invokestatic index, 3)) {st : List Value} (hst : st = As.reverse ++ rest) (hcs : cells ≤ R.cells ∧ slots ≤ R.slots)
    (kk : ∀ (H1 : Heap) (locs1 : List Loc) (v : σ), v = u → y_W D cI cC cL A s H1 locs1 (wr ++ F v) → W p l e R s m args below meth c H1 locs1 cells slots Q (F0 m (pc + 3) ls rest)) : W p l e R s m args below meth c H locs cells slots Q (F0 m pc ls st) := by
  subst hst
  exact va_callv (va_runS (As := As) (rest := rest) S (hM H.size) cw ⟨y_blind, fun U hU hW => y_preU hw isC hC hnC hU hW⟩ rfl hn hl rfl (lv_room hm) hdg hcs) hw.2.2.2.1 (fun q _ h => va_free hw.2.2.1 hw.2.2.2.1 hw.2.2.2.2 isC hC q h) (va_free hw.2.2.1 hw.2.2.2.1 hw.2.2.2.2 isC hC) (fun v t H1 locs1 ht hvm hp hB hz1 hk1 hS1 => kk H1 locs1 v hp (y_back hw isC isR hC hR hnR hdis ht hB hk1 hS1))
theorem y_callSL (S : CallFix p m c cc nL s args Ts own) (hw : y_W D cI cC cL A s H locs ws) (hl : ls.size = nL) (hM : y_ML l y w fr lo D cI cC cL As wc rl F u) (cw : CallB R s args own index y bytes maxL ret w (y_R fr lo) 0 0 n ∧ (Cond.static y).before args s = true) (isC isR : List Nat) (hC : isC.map (fun i => ws[i]?) = wc.map some) (hnC : va_nd isC = true) (hR : isR.map (fun i => ws[i]?) = wr.map some) (hnR : va_nd isR = true) (hdis : ∀ i ∈ isR, i ∉ isC) (hn : As.length = n) (hm : (rest.map fun v => v.category).sum ≤ 8) (hdg : decode cc pc = .ok (.invokestatic index, 3)) {st : List Value} (hst : st = As.reverse ++ rest) (hcs : cells ≤ R.cells ∧ slots ≤ R.slots)
    (kk : ∀ (H1 : Heap) (locs1 : List Loc) (v : σ) (x : Int64), v = u → x = rl → y_W D cI cC cL A s H1 locs1 (wr ++ F v) → W p l e R s m args below meth c H1 locs1 cells slots Q (F0 m (pc + 3) ls (.long x :: rest))) : W p l e R s m args below meth c H locs cells slots Q (F0 m pc ls st) := by
  subst hst
  exact va_calll (va_runS (As := As) (rest := rest) S (hM H.size) cw ⟨y_blind, fun U hU hW => y_preU hw isC hC hnC hU hW⟩ rfl hn hl rfl (lv_room hm) hdg hcs) hw.2.2.2.1 (fun q _ h => va_free hw.2.2.1 hw.2.2.2.1 hw.2.2.2.2 isC hC q h) (va_free hw.2.2.1 hw.2.2.2.1 hw.2.2.2.2 isC hC) (fun x v t H1 locs1 ht hvm hp hB hz1 hk1 hS1 => kk H1 locs1 v x hp.2 hp.1 (y_back hw isC isR hC hR hnR hdis ht hB hk1 hS1))
end YR
end
section
set_option maxRecDepth 20000 in
theorem ggX0_init_X1_init : GoodIn wsX0_init wsX1_init := goodIn_r _ [9, 10, 2, 3, 11, 12, 13, 14, 15, 16, 17, 18, 19, 20, 21, 22, 23, 24, 25, 26, 27, 28, 29, 30, 31, 32, 33, 34, 35, 36, 37, 38, 39, 40, 41, 42, 55, 56, 57, 58, 59, 60, 61, 62, 46, 47, 48, 49, 50, 51, 52, 53, 54, 63, 64] (by decide +kernel) (by decide +kernel)
set_option maxRecDepth 20000 in
theorem gX0_init_X1_init_n17 : GoodIn wsX0_init (wsX1_init) := ggX0_init_X1_init
theorem dX0_init_0 : decode cX0_init 0 = .ok (.aload_n 0, 1) := by decide +kernel
theorem dX0_init_1 : decode cX0_init 1 = .ok (.invokespecial 3, 3) := by decide +kernel
theorem dX0_init_4 : decode cX0_init 4 = .ok (.aload_n 0, 1) := by decide +kernel
theorem dX0_init_5 : decode cX0_init 5 = .ok (.iconst 4, 1) := by decide +kernel
theorem dX0_init_6 : decode cX0_init 6 = .ok (.anewarray 9, 3) := by decide +kernel
theorem dX0_init_9 : decode cX0_init 9 = .ok (.putfield 11, 3) := by decide +kernel
theorem dX0_init_12 : decode cX0_init 12 = .ok (.iconst 0, 1) := by decide +kernel
theorem dX0_init_13 : decode cX0_init 13 = .ok (.istore_n 1, 1) := by decide +kernel
theorem dX0_init_14 : decode cX0_init 14 = .ok (.iload_n 1, 1) := by decide +kernel
theorem dX0_init_15 : decode cX0_init 15 = .ok (.iconst 4, 1) := by decide +kernel
theorem dX0_init_16 : decode cX0_init 16 = .ok (.if_icmp .ge 22, 3) := by decide +kernel
theorem dX0_init_19 : decode cX0_init 19 = .ok (.aload_n 0, 1) := by decide +kernel
theorem dX0_init_20 : decode cX0_init 20 = .ok (.getfield 11, 3) := by decide +kernel
theorem dX0_init_23 : decode cX0_init 23 = .ok (.iload_n 1, 1) := by decide +kernel
theorem dX0_init_24 : decode cX0_init 24 = .ok (.new 9, 3) := by decide +kernel
theorem dX0_init_27 : decode cX0_init 27 = .ok (.dup, 1) := by decide +kernel
theorem dX0_init_28 : decode cX0_init 28 = .ok (.invokespecial 17, 3) := by decide +kernel
theorem dX0_init_31 : decode cX0_init 31 = .ok (.aastore, 1) := by decide +kernel
theorem dX0_init_32 : decode cX0_init 32 = .ok (.iinc 1 1, 3) := by decide +kernel
theorem dX0_init_35 : decode cX0_init 35 = .ok (.goto (-21), 3) := by decide +kernel
theorem dX0_init_38 : decode cX0_init 38 = .ok (.return_, 1) := by decide +kernel
set_option maxRecDepth 20000 in
theorem ggX0_keep_X1_copyFrom : GoodIn wsX0_keep wsX1_copyFrom := goodIn_r _ [8, 9, 10, 11, 12, 13, 14, 15, 16, 17, 18, 19, 20, 21, 22, 23, 24, 25, 26, 27, 28, 29, 30, 31, 32, 33, 34, 35, 36, 37, 38, 39, 40, 41, 42, 43, 47, 48, 49, 50, 51, 52, 53, 54, 55, 56, 57, 58, 59, 60, 61, 62, 63, 64, 65] (by decide +kernel) (by decide +kernel)
set_option maxRecDepth 20000 in
theorem gX0_keep_X1_copyFrom : GoodIn wsX0_keep (wsV RX0 25 RX1 yX1_copyFrom wsX1_copyFrom) := goodIn_app (goodIn_of _ (by decide +kernel)) ggX0_keep_X1_copyFrom
theorem dX0_keep_0 : decode cX0_keep 0 = .ok (.aload_n 0, 1) := by decide +kernel
theorem dX0_keep_1 : decode cX0_keep 1 = .ok (.getfield 18, 3) := by decide +kernel
theorem dX0_keep_4 : decode cX0_keep 4 = .ok (.iconst 4, 1) := by decide +kernel
theorem dX0_keep_5 : decode cX0_keep 5 = .ok (.if_icmp .ne 25, 3) := by decide +kernel
theorem dX0_keep_8 : decode cX0_keep 8 = .ok (.aload_n 0, 1) := by decide +kernel
theorem dX0_keep_9 : decode cX0_keep 9 = .ok (.aload_n 0, 1) := by decide +kernel
theorem dX0_keep_10 : decode cX0_keep 10 = .ok (.getfield 22, 3) := by decide +kernel
theorem dX0_keep_13 : decode cX0_keep 13 = .ok (.iconst 1, 1) := by decide +kernel
theorem dX0_keep_14 : decode cX0_keep 14 = .ok (.iadd, 1) := by decide +kernel
theorem dX0_keep_15 : decode cX0_keep 15 = .ok (.iconst 3, 1) := by decide +kernel
theorem dX0_keep_16 : decode cX0_keep 16 = .ok (.iand, 1) := by decide +kernel
theorem dX0_keep_17 : decode cX0_keep 17 = .ok (.putfield 22, 3) := by decide +kernel
theorem dX0_keep_20 : decode cX0_keep 20 = .ok (.aload_n 0, 1) := by decide +kernel
theorem dX0_keep_21 : decode cX0_keep 21 = .ok (.dup, 1) := by decide +kernel
theorem dX0_keep_22 : decode cX0_keep 22 = .ok (.getfield 18, 3) := by decide +kernel
theorem dX0_keep_25 : decode cX0_keep 25 = .ok (.iconst 1, 1) := by decide +kernel
theorem dX0_keep_26 : decode cX0_keep 26 = .ok (.isub, 1) := by decide +kernel
theorem dX0_keep_27 : decode cX0_keep 27 = .ok (.putfield 18, 3) := by decide +kernel
theorem dX0_keep_30 : decode cX0_keep 30 = .ok (.aload_n 0, 1) := by decide +kernel
theorem dX0_keep_31 : decode cX0_keep 31 = .ok (.getfield 11, 3) := by decide +kernel
theorem dX0_keep_34 : decode cX0_keep 34 = .ok (.aload_n 0, 1) := by decide +kernel
theorem dX0_keep_35 : decode cX0_keep 35 = .ok (.getfield 22, 3) := by decide +kernel
theorem dX0_keep_38 : decode cX0_keep 38 = .ok (.aload_n 0, 1) := by decide +kernel
theorem dX0_keep_39 : decode cX0_keep 39 = .ok (.getfield 18, 3) := by decide +kernel
theorem dX0_keep_42 : decode cX0_keep 42 = .ok (.iadd, 1) := by decide +kernel
theorem dX0_keep_43 : decode cX0_keep 43 = .ok (.iconst 3, 1) := by decide +kernel
theorem dX0_keep_44 : decode cX0_keep 44 = .ok (.iand, 1) := by decide +kernel
theorem dX0_keep_45 : decode cX0_keep 45 = .ok (.aaload, 1) := by decide +kernel
theorem dX0_keep_46 : decode cX0_keep 46 = .ok (.aload_n 1, 1) := by decide +kernel
theorem dX0_keep_47 : decode cX0_keep 47 = .ok (.invokevirtual 25, 3) := by decide +kernel
theorem dX0_keep_50 : decode cX0_keep 50 = .ok (.aload_n 0, 1) := by decide +kernel
theorem dX0_keep_51 : decode cX0_keep 51 = .ok (.dup, 1) := by decide +kernel
theorem dX0_keep_52 : decode cX0_keep 52 = .ok (.getfield 18, 3) := by decide +kernel
theorem dX0_keep_55 : decode cX0_keep 55 = .ok (.iconst 1, 1) := by decide +kernel
theorem dX0_keep_56 : decode cX0_keep 56 = .ok (.iadd, 1) := by decide +kernel
theorem dX0_keep_57 : decode cX0_keep 57 = .ok (.putfield 18, 3) := by decide +kernel
theorem dX0_keep_60 : decode cX0_keep 60 = .ok (.return_, 1) := by decide +kernel
set_option maxRecDepth 20000 in
theorem ggX0_restore_X1_copyFrom : GoodIn wsX0_restore wsX1_copyFrom := goodIn_r _ [8, 9, 10, 11, 12, 13, 14, 15, 16, 17, 18, 19, 20, 21, 22, 23, 24, 25, 26, 27, 28, 29, 30, 31, 32, 33, 34, 35, 36, 37, 38, 39, 40, 41, 42, 43, 47, 48, 49, 50, 51, 52, 53, 54, 55, 56, 57, 58, 59, 60, 61, 62, 63, 64, 65] (by decide +kernel) (by decide +kernel)
set_option maxRecDepth 20000 in
theorem gX0_restore_X1_copyFrom : GoodIn wsX0_restore (wsV RX0 25 RX1 yX1_copyFrom wsX1_copyFrom) := goodIn_app (goodIn_of _ (by decide +kernel)) ggX0_restore_X1_copyFrom
theorem dX0_restore_0 : decode cX0_restore 0 = .ok (.aload_n 0, 1) := by decide +kernel
theorem dX0_restore_1 : decode cX0_restore 1 = .ok (.dup, 1) := by decide +kernel
theorem dX0_restore_2 : decode cX0_restore 2 = .ok (.getfield 18, 3) := by decide +kernel
theorem dX0_restore_5 : decode cX0_restore 5 = .ok (.iconst 1, 1) := by decide +kernel
theorem dX0_restore_6 : decode cX0_restore 6 = .ok (.isub, 1) := by decide +kernel
theorem dX0_restore_7 : decode cX0_restore 7 = .ok (.putfield 18, 3) := by decide +kernel
theorem dX0_restore_10 : decode cX0_restore 10 = .ok (.aload_n 1, 1) := by decide +kernel
theorem dX0_restore_11 : decode cX0_restore 11 = .ok (.aload_n 0, 1) := by decide +kernel
theorem dX0_restore_12 : decode cX0_restore 12 = .ok (.getfield 11, 3) := by decide +kernel
theorem dX0_restore_15 : decode cX0_restore 15 = .ok (.aload_n 0, 1) := by decide +kernel
theorem dX0_restore_16 : decode cX0_restore 16 = .ok (.getfield 22, 3) := by decide +kernel
theorem dX0_restore_19 : decode cX0_restore 19 = .ok (.aload_n 0, 1) := by decide +kernel
theorem dX0_restore_20 : decode cX0_restore 20 = .ok (.getfield 18, 3) := by decide +kernel
theorem dX0_restore_23 : decode cX0_restore 23 = .ok (.iadd, 1) := by decide +kernel
theorem dX0_restore_24 : decode cX0_restore 24 = .ok (.iconst 3, 1) := by decide +kernel
theorem dX0_restore_25 : decode cX0_restore 25 = .ok (.iand, 1) := by decide +kernel
theorem dX0_restore_26 : decode cX0_restore 26 = .ok (.aaload, 1) := by decide +kernel
theorem dX0_restore_27 : decode cX0_restore 27 = .ok (.invokevirtual 25, 3) := by decide +kernel
theorem dX0_restore_30 : decode cX0_restore 30 = .ok (.return_, 1) := by decide +kernel
set_option maxRecDepth 20000 in
theorem ggX1_init_X3_init : GoodIn wsX1_init wsX3_init := goodIn_r _ [25, 26, 2, 3, 27, 19, 28, 29, 30, 36, 37, 38, 39, 40, 41, 42, 43] (by decide +kernel) (by decide +kernel)
set_option maxRecDepth 20000 in
theorem gX1_init_X3_init_n11 : GoodIn wsX1_init (wsX3_init) := ggX1_init_X3_init
set_option maxRecDepth 20000 in
theorem ggX1_init_X2_init : GoodIn wsX1_init wsX2_init := goodIn_r _ [32, 33, 2, 3, 19, 34, 35, 53, 54] (by decide +kernel) (by decide +kernel)
set_option maxRecDepth 20000 in
theorem gX1_init_X2_init_n20 : GoodIn wsX1_init (wsX2_init) := ggX1_init_X2_init
theorem dX1_init_0 : decode cX1_init 0 = .ok (.aload_n 0, 1) := by decide +kernel
theorem dX1_init_1 : decode cX1_init 1 = .ok (.invokespecial 3, 3) := by decide +kernel
theorem dX1_init_4 : decode cX1_init 4 = .ok (.aload_n 0, 1) := by decide +kernel
theorem dX1_init_5 : decode cX1_init 5 = .ok (.new 9, 3) := by decide +kernel
theorem dX1_init_8 : decode cX1_init 8 = .ok (.dup, 1) := by decide +kernel
theorem dX1_init_9 : decode cX1_init 9 = .ok (.invokespecial 11, 3) := by decide +kernel
theorem dX1_init_12 : decode cX1_init 12 = .ok (.putfield 12, 3) := by decide +kernel
theorem dX1_init_15 : decode cX1_init 15 = .ok (.aload_n 0, 1) := by decide +kernel
theorem dX1_init_16 : decode cX1_init 16 = .ok (.new 18, 3) := by decide +kernel
theorem dX1_init_19 : decode cX1_init 19 = .ok (.dup, 1) := by decide +kernel
theorem dX1_init_20 : decode cX1_init 20 = .ok (.invokespecial 20, 3) := by decide +kernel
theorem dX1_init_23 : decode cX1_init 23 = .ok (.putfield 21, 3) := by decide +kernel
theorem dX1_init_26 : decode cX1_init 26 = .ok (.aload_n 0, 1) := by decide +kernel
theorem dX1_init_27 : decode cX1_init 27 = .ok (.getstatic 25, 3) := by decide +kernel
theorem dX1_init_30 : decode cX1_init 30 = .ok (.invokevirtual 29, 3) := by decide +kernel
theorem dX1_init_33 : decode cX1_init 33 = .ok (.checkcast 30, 3) := by decide +kernel
theorem dX1_init_36 : decode cX1_init 36 = .ok (.putfield 34, 3) := by decide +kernel
theorem dX1_init_39 : decode cX1_init 39 = .ok (.aload_n 0, 1) := by decide +kernel
theorem dX1_init_40 : decode cX1_init 40 = .ok (.bipush 32, 2) := by decide +kernel
theorem dX1_init_42 : decode cX1_init 42 = .ok (.newarray .int, 2) := by decide +kernel
theorem dX1_init_44 : decode cX1_init 44 = .ok (.putfield 37, 3) := by decide +kernel
theorem dX1_init_47 : decode cX1_init 47 = .ok (.aload_n 0, 1) := by decide +kernel
theorem dX1_init_48 : decode cX1_init 48 = .ok (.bipush 32, 2) := by decide +kernel
theorem dX1_init_50 : decode cX1_init 50 = .ok (.newarray .int, 2) := by decide +kernel
theorem dX1_init_52 : decode cX1_init 52 = .ok (.putfield 40, 3) := by decide +kernel
theorem dX1_init_55 : decode cX1_init 55 = .ok (.aload_n 0, 1) := by decide +kernel
theorem dX1_init_56 : decode cX1_init 56 = .ok (.bipush 32, 2) := by decide +kernel
theorem dX1_init_58 : decode cX1_init 58 = .ok (.newarray .int, 2) := by decide +kernel
theorem dX1_init_60 : decode cX1_init 60 = .ok (.putfield 43, 3) := by decide +kernel
theorem dX1_init_63 : decode cX1_init 63 = .ok (.aload_n 0, 1) := by decide +kernel
theorem dX1_init_64 : decode cX1_init 64 = .ok (.bipush 32, 2) := by decide +kernel
theorem dX1_init_66 : decode cX1_init 66 = .ok (.newarray .int, 2) := by decide +kernel
theorem dX1_init_68 : decode cX1_init 68 = .ok (.putfield 46, 3) := by decide +kernel
theorem dX1_init_71 : decode cX1_init 71 = .ok (.return_, 1) := by decide +kernel
set_option maxRecDepth 20000 in
theorem ggX1_copyFrom_X3_copyFrom : GoodIn wsX1_copyFrom wsX3_copyFrom := goodIn_r _ [18, 19, 20, 21, 5, 6, 7, 22, 23, 24, 25, 26, 27, 45, 46, 47, 48, 49, 50, 51, 52] (by decide +kernel) (by decide +kernel)
set_option maxRecDepth 20000 in
theorem gX1_copyFrom_X3_copyFrom : GoodIn wsX1_copyFrom (wsV RX1 49 RX3 yX3_copyFrom wsX3_copyFrom) := goodIn_app (goodIn_of _ (by decide +kernel)) ggX1_copyFrom_X3_copyFrom
set_option maxRecDepth 20000 in
theorem ggX1_copyFrom_X2_copyFrom : GoodIn wsX1_copyFrom wsX2_copyFrom := goodIn_r _ [32, 33, 34, 5, 6, 7, 35, 53, 54] (by decide +kernel) (by decide +kernel)
set_option maxRecDepth 20000 in
theorem gX1_copyFrom_X2_copyFrom : GoodIn wsX1_copyFrom (wsV RX1 53 RX2 yX2_copyFrom wsX2_copyFrom) := goodIn_app (goodIn_of _ (by decide +kernel)) ggX1_copyFrom_X2_copyFrom
theorem dX1_copyFrom_0 : decode cX1_copyFrom 0 = .ok (.aload_n 0, 1) := by decide +kernel
theorem dX1_copyFrom_1 : decode cX1_copyFrom 1 = .ok (.getfield 12, 3) := by decide +kernel
theorem dX1_copyFrom_4 : decode cX1_copyFrom 4 = .ok (.aload_n 1, 1) := by decide +kernel
theorem dX1_copyFrom_5 : decode cX1_copyFrom 5 = .ok (.getfield 12, 3) := by decide +kernel
theorem dX1_copyFrom_8 : decode cX1_copyFrom 8 = .ok (.invokevirtual 49, 3) := by decide +kernel
theorem dX1_copyFrom_11 : decode cX1_copyFrom 11 = .ok (.aload_n 0, 1) := by decide +kernel
theorem dX1_copyFrom_12 : decode cX1_copyFrom 12 = .ok (.getfield 21, 3) := by decide +kernel
theorem dX1_copyFrom_15 : decode cX1_copyFrom 15 = .ok (.aload_n 1, 1) := by decide +kernel
theorem dX1_copyFrom_16 : decode cX1_copyFrom 16 = .ok (.getfield 21, 3) := by decide +kernel
theorem dX1_copyFrom_19 : decode cX1_copyFrom 19 = .ok (.invokevirtual 53, 3) := by decide +kernel
theorem dX1_copyFrom_22 : decode cX1_copyFrom 22 = .ok (.aload_n 1, 1) := by decide +kernel
theorem dX1_copyFrom_23 : decode cX1_copyFrom 23 = .ok (.getfield 34, 3) := by decide +kernel
theorem dX1_copyFrom_26 : decode cX1_copyFrom 26 = .ok (.iconst 0, 1) := by decide +kernel
theorem dX1_copyFrom_27 : decode cX1_copyFrom 27 = .ok (.aload_n 0, 1) := by decide +kernel
theorem dX1_copyFrom_28 : decode cX1_copyFrom 28 = .ok (.getfield 34, 3) := by decide +kernel
theorem dX1_copyFrom_31 : decode cX1_copyFrom 31 = .ok (.iconst 0, 1) := by decide +kernel
theorem dX1_copyFrom_32 : decode cX1_copyFrom 32 = .ok (.iconst 5, 1) := by decide +kernel
theorem dX1_copyFrom_33 : decode cX1_copyFrom 33 = .ok (.invokestatic 56, 3) := by decide +kernel
theorem dX1_copyFrom_36 : decode cX1_copyFrom 36 = .ok (.aload_n 0, 1) := by decide +kernel
theorem dX1_copyFrom_37 : decode cX1_copyFrom 37 = .ok (.aload_n 1, 1) := by decide +kernel
theorem dX1_copyFrom_38 : decode cX1_copyFrom 38 = .ok (.getfield 62, 3) := by decide +kernel
theorem dX1_copyFrom_41 : decode cX1_copyFrom 41 = .ok (.putfield 62, 3) := by decide +kernel
theorem dX1_copyFrom_44 : decode cX1_copyFrom 44 = .ok (.aload_n 0, 1) := by decide +kernel
theorem dX1_copyFrom_45 : decode cX1_copyFrom 45 = .ok (.aload_n 1, 1) := by decide +kernel
theorem dX1_copyFrom_46 : decode cX1_copyFrom 46 = .ok (.getfield 66, 3) := by decide +kernel
theorem dX1_copyFrom_49 : decode cX1_copyFrom 49 = .ok (.putfield 66, 3) := by decide +kernel
theorem dX1_copyFrom_52 : decode cX1_copyFrom 52 = .ok (.aload_n 1, 1) := by decide +kernel
theorem dX1_copyFrom_53 : decode cX1_copyFrom 53 = .ok (.getfield 37, 3) := by decide +kernel
theorem dX1_copyFrom_56 : decode cX1_copyFrom 56 = .ok (.iconst 0, 1) := by decide +kernel
theorem dX1_copyFrom_57 : decode cX1_copyFrom 57 = .ok (.aload_n 0, 1) := by decide +kernel
theorem dX1_copyFrom_58 : decode cX1_copyFrom 58 = .ok (.getfield 37, 3) := by decide +kernel
theorem dX1_copyFrom_61 : decode cX1_copyFrom 61 = .ok (.iconst 0, 1) := by decide +kernel
theorem dX1_copyFrom_62 : decode cX1_copyFrom 62 = .ok (.bipush 32, 2) := by decide +kernel
theorem dX1_copyFrom_64 : decode cX1_copyFrom 64 = .ok (.invokestatic 56, 3) := by decide +kernel
theorem dX1_copyFrom_67 : decode cX1_copyFrom 67 = .ok (.aload_n 1, 1) := by decide +kernel
theorem dX1_copyFrom_68 : decode cX1_copyFrom 68 = .ok (.getfield 40, 3) := by decide +kernel
theorem dX1_copyFrom_71 : decode cX1_copyFrom 71 = .ok (.iconst 0, 1) := by decide +kernel
theorem dX1_copyFrom_72 : decode cX1_copyFrom 72 = .ok (.aload_n 0, 1) := by decide +kernel
theorem dX1_copyFrom_73 : decode cX1_copyFrom 73 = .ok (.getfield 40, 3) := by decide +kernel
theorem dX1_copyFrom_76 : decode cX1_copyFrom 76 = .ok (.iconst 0, 1) := by decide +kernel
theorem dX1_copyFrom_77 : decode cX1_copyFrom 77 = .ok (.bipush 32, 2) := by decide +kernel
theorem dX1_copyFrom_79 : decode cX1_copyFrom 79 = .ok (.invokestatic 56, 3) := by decide +kernel
theorem dX1_copyFrom_82 : decode cX1_copyFrom 82 = .ok (.aload_n 1, 1) := by decide +kernel
theorem dX1_copyFrom_83 : decode cX1_copyFrom 83 = .ok (.getfield 43, 3) := by decide +kernel
theorem dX1_copyFrom_86 : decode cX1_copyFrom 86 = .ok (.iconst 0, 1) := by decide +kernel
theorem dX1_copyFrom_87 : decode cX1_copyFrom 87 = .ok (.aload_n 0, 1) := by decide +kernel
theorem dX1_copyFrom_88 : decode cX1_copyFrom 88 = .ok (.getfield 43, 3) := by decide +kernel
theorem dX1_copyFrom_91 : decode cX1_copyFrom 91 = .ok (.iconst 0, 1) := by decide +kernel
theorem dX1_copyFrom_92 : decode cX1_copyFrom 92 = .ok (.bipush 32, 2) := by decide +kernel
theorem dX1_copyFrom_94 : decode cX1_copyFrom 94 = .ok (.invokestatic 56, 3) := by decide +kernel
theorem dX1_copyFrom_97 : decode cX1_copyFrom 97 = .ok (.aload_n 1, 1) := by decide +kernel
theorem dX1_copyFrom_98 : decode cX1_copyFrom 98 = .ok (.getfield 46, 3) := by decide +kernel
theorem dX1_copyFrom_101 : decode cX1_copyFrom 101 = .ok (.iconst 0, 1) := by decide +kernel
theorem dX1_copyFrom_102 : decode cX1_copyFrom 102 = .ok (.aload_n 0, 1) := by decide +kernel
theorem dX1_copyFrom_103 : decode cX1_copyFrom 103 = .ok (.getfield 46, 3) := by decide +kernel
theorem dX1_copyFrom_106 : decode cX1_copyFrom 106 = .ok (.iconst 0, 1) := by decide +kernel
theorem dX1_copyFrom_107 : decode cX1_copyFrom 107 = .ok (.bipush 32, 2) := by decide +kernel
theorem dX1_copyFrom_109 : decode cX1_copyFrom 109 = .ok (.invokestatic 56, 3) := by decide +kernel
theorem dX1_copyFrom_112 : decode cX1_copyFrom 112 = .ok (.return_, 1) := by decide +kernel
set_option maxRecDepth 20000 in
theorem ggX1_startAnew_X3_changeMany : GoodIn wsX1_startAnew wsX3_changeMany := goodIn_r _ [9, 10, 11, 12, 13, 8, 14, 15, 16, 47, 48, 49, 50, 51, 52, 53, 54] (by decide +kernel) (by decide +kernel)
set_option maxRecDepth 20000 in
theorem gX1_startAnew_X3_changeMany : GoodIn wsX1_startAnew (wsV RX1 69 RX3 yX3_changeMany wsX3_changeMany) := goodIn_app (goodIn_of _ (by decide +kernel)) ggX1_startAnew_X3_changeMany
set_option maxRecDepth 20000 in
theorem ggX1_startAnew_X3_empty : GoodIn wsX1_startAnew wsX3_empty := goodIn_r _ [20, 21, 22, 23, 24, 25, 26, 27, 28, 29, 47, 48, 49, 50, 51, 52, 53, 54] (by decide +kernel) (by decide +kernel)
set_option maxRecDepth 20000 in
theorem gX1_startAnew_X3_empty : GoodIn wsX1_startAnew (wsV RX1 73 RX3 yX3_empty wsX3_empty) := goodIn_app (goodIn_of _ (by decide +kernel)) ggX1_startAnew_X3_empty
set_option maxRecDepth 20000 in
theorem ggX1_startAnew_X2_forget : GoodIn wsX1_startAnew wsX2_forget := goodIn_r _ [34, 35, 36, 37, 27, 28, 29, 55, 56] (by decide +kernel) (by decide +kernel)
set_option maxRecDepth 20000 in
theorem gX1_startAnew_X2_forget : GoodIn wsX1_startAnew (wsV RX1 76 RX2 yX2_forget wsX2_forget) := goodIn_app (goodIn_of _ (by decide +kernel)) ggX1_startAnew_X2_forget
theorem dX1_startAnew_0 : decode cX1_startAnew 0 = .ok (.aload_n 0, 1) := by decide +kernel
theorem dX1_startAnew_1 : decode cX1_startAnew 1 = .ok (.getfield 12, 3) := by decide +kernel
theorem dX1_startAnew_4 : decode cX1_startAnew 4 = .ok (.iload_n 1, 1) := by decide +kernel
theorem dX1_startAnew_5 : decode cX1_startAnew 5 = .ok (.invokevirtual 69, 3) := by decide +kernel
theorem dX1_startAnew_8 : decode cX1_startAnew 8 = .ok (.aload_n 0, 1) := by decide +kernel
theorem dX1_startAnew_9 : decode cX1_startAnew 9 = .ok (.getfield 12, 3) := by decide +kernel
theorem dX1_startAnew_12 : decode cX1_startAnew 12 = .ok (.invokevirtual 73, 3) := by decide +kernel
theorem dX1_startAnew_15 : decode cX1_startAnew 15 = .ok (.aload_n 0, 1) := by decide +kernel
theorem dX1_startAnew_16 : decode cX1_startAnew 16 = .ok (.getfield 21, 3) := by decide +kernel
theorem dX1_startAnew_19 : decode cX1_startAnew 19 = .ok (.invokevirtual 76, 3) := by decide +kernel
theorem dX1_startAnew_22 : decode cX1_startAnew 22 = .ok (.aload_n 0, 1) := by decide +kernel
theorem dX1_startAnew_23 : decode cX1_startAnew 23 = .ok (.iconst 0, 1) := by decide +kernel
theorem dX1_startAnew_24 : decode cX1_startAnew 24 = .ok (.putfield 62, 3) := by decide +kernel
theorem dX1_startAnew_27 : decode cX1_startAnew 27 = .ok (.aload_n 0, 1) := by decide +kernel
theorem dX1_startAnew_28 : decode cX1_startAnew 28 = .ok (.iconst 0, 1) := by decide +kernel
theorem dX1_startAnew_29 : decode cX1_startAnew 29 = .ok (.putfield 66, 3) := by decide +kernel
theorem dX1_startAnew_32 : decode cX1_startAnew 32 = .ok (.return_, 1) := by decide +kernel
theorem dX1_isForReference_0 : decode cX1_isForReference 0 = .ok (.aload_n 0, 1) := by decide +kernel
theorem dX1_isForReference_1 : decode cX1_isForReference 1 = .ok (.getfield 34, 3) := by decide +kernel
theorem dX1_isForReference_4 : decode cX1_isForReference 4 = .ok (.iconst 1, 1) := by decide +kernel
theorem dX1_isForReference_5 : decode cX1_isForReference 5 = .ok (.iaload, 1) := by decide +kernel
theorem dX1_isForReference_6 : decode cX1_isForReference 6 = .ok (.istore_n 2, 1) := by decide +kernel
theorem dX1_isForReference_7 : decode cX1_isForReference 7 = .ok (.iload_n 2, 1) := by decide +kernel
theorem dX1_isForReference_8 : decode cX1_isForReference 8 = .ok (.ifCond .eq 13, 3) := by decide +kernel
theorem dX1_isForReference_11 : decode cX1_isForReference 11 = .ok (.iload_n 1, 1) := by decide +kernel
theorem dX1_isForReference_12 : decode cX1_isForReference 12 = .ok (.iload_n 2, 1) := by decide +kernel
theorem dX1_isForReference_13 : decode cX1_isForReference 13 = .ok (.irem, 1) := by decide +kernel
theorem dX1_isForReference_14 : decode cX1_isForReference 14 = .ok (.ifCond .ne 7, 3) := by decide +kernel
theorem dX1_isForReference_17 : decode cX1_isForReference 17 = .ok (.iconst 1, 1) := by decide +kernel
theorem dX1_isForReference_18 : decode cX1_isForReference 18 = .ok (.goto 4, 3) := by decide +kernel
theorem dX1_isForReference_21 : decode cX1_isForReference 21 = .ok (.iconst 0, 1) := by decide +kernel
theorem dX1_isForReference_22 : decode cX1_isForReference 22 = .ok (.ireturn, 1) := by decide +kernel
theorem dX1_nextReference_0 : decode cX1_nextReference 0 = .ok (.aload_n 0, 1) := by decide +kernel
theorem dX1_nextReference_1 : decode cX1_nextReference 1 = .ok (.getfield 66, 3) := by decide +kernel
theorem dX1_nextReference_4 : decode cX1_nextReference 4 = .ok (.iconst 3, 1) := by decide +kernel
theorem dX1_nextReference_5 : decode cX1_nextReference 5 = .ok (.irem, 1) := by decide +kernel
theorem dX1_nextReference_6 : decode cX1_nextReference 6 = .ok (.ireturn, 1) := by decide +kernel
set_option maxRecDepth 20000 in
theorem ggX1_handOversBehind_X1_isForReference : GoodIn wsX1_handOversBehind wsX1_isForReference := goodIn_r _ [6, 7, 8, 9, 10, 11, 12, 13, 14, 15, 16] (by decide +kernel) (by decide +kernel)
set_option maxRecDepth 20000 in
theorem gX1_handOversBehind_X1_isForReference : GoodIn wsX1_handOversBehind (wsV RX1 79 RX1 yX1_isForReference wsX1_isForReference) := goodIn_app (goodIn_of _ (by decide +kernel)) ggX1_handOversBehind_X1_isForReference
theorem dX1_handOversBehind_0 : decode cX1_handOversBehind 0 = .ok (.aload_n 0, 1) := by decide +kernel
theorem dX1_handOversBehind_1 : decode cX1_handOversBehind 1 = .ok (.getfield 62, 3) := by decide +kernel
theorem dX1_handOversBehind_4 : decode cX1_handOversBehind 4 = .ok (.istore_n 2, 1) := by decide +kernel
theorem dX1_handOversBehind_5 : decode cX1_handOversBehind 5 = .ok (.iconst 0, 1) := by decide +kernel
theorem dX1_handOversBehind_6 : decode cX1_handOversBehind 6 = .ok (.istore_n 3, 1) := by decide +kernel
theorem dX1_handOversBehind_7 : decode cX1_handOversBehind 7 = .ok (.iload_n 3, 1) := by decide +kernel
theorem dX1_handOversBehind_8 : decode cX1_handOversBehind 8 = .ok (.iload_n 1, 1) := by decide +kernel
theorem dX1_handOversBehind_9 : decode cX1_handOversBehind 9 = .ok (.if_icmp .ge 25, 3) := by decide +kernel
theorem dX1_handOversBehind_12 : decode cX1_handOversBehind 12 = .ok (.iload_n 2, 1) := by decide +kernel
theorem dX1_handOversBehind_13 : decode cX1_handOversBehind 13 = .ok (.aload_n 0, 1) := by decide +kernel
theorem dX1_handOversBehind_14 : decode cX1_handOversBehind 14 = .ok (.iload_n 2, 1) := by decide +kernel
theorem dX1_handOversBehind_15 : decode cX1_handOversBehind 15 = .ok (.invokevirtual 79, 3) := by decide +kernel
theorem dX1_handOversBehind_18 : decode cX1_handOversBehind 18 = .ok (.ifCond .eq 7, 3) := by decide +kernel
theorem dX1_handOversBehind_21 : decode cX1_handOversBehind 21 = .ok (.iconst 2, 1) := by decide +kernel
theorem dX1_handOversBehind_22 : decode cX1_handOversBehind 22 = .ok (.goto 4, 3) := by decide +kernel
theorem dX1_handOversBehind_25 : decode cX1_handOversBehind 25 = .ok (.iconst 1, 1) := by decide +kernel
theorem dX1_handOversBehind_26 : decode cX1_handOversBehind 26 = .ok (.iadd, 1) := by decide +kernel
theorem dX1_handOversBehind_27 : decode cX1_handOversBehind 27 = .ok (.istore_n 2, 1) := by decide +kernel
theorem dX1_handOversBehind_28 : decode cX1_handOversBehind 28 = .ok (.iinc 3 1, 3) := by decide +kernel
theorem dX1_handOversBehind_31 : decode cX1_handOversBehind 31 = .ok (.goto (-24), 3) := by decide +kernel
theorem dX1_handOversBehind_34 : decode cX1_handOversBehind 34 = .ok (.iload_n 2, 1) := by decide +kernel
theorem dX1_handOversBehind_35 : decode cX1_handOversBehind 35 = .ok (.ireturn, 1) := by decide +kernel
set_option maxRecDepth 20000 in
theorem ggX1_take_X1_isForReference : GoodIn wsX1_take wsX1_isForReference := goodIn_r _ [8, 3, 89, 90, 91, 92, 93, 94, 95, 96, 97] (by decide +kernel) (by decide +kernel)
set_option maxRecDepth 20000 in
theorem gX1_take_X1_isForReference : GoodIn wsX1_take (wsV RX1 79 RX1 yX1_isForReference wsX1_isForReference) := goodIn_app (goodIn_of _ (by decide +kernel)) ggX1_take_X1_isForReference
set_option maxRecDepth 20000 in
theorem ggX1_take_X1_nextReference : GoodIn wsX1_take wsX1_nextReference := goodIn_r _ [12, 2, 89, 90, 91, 92, 93, 94, 95, 96, 97] (by decide +kernel) (by decide +kernel)
set_option maxRecDepth 20000 in
theorem gX1_take_X1_nextReference : GoodIn wsX1_take (wsV RX1 83 RX1 yX1_nextReference wsX1_nextReference) := goodIn_app (goodIn_of _ (by decide +kernel)) ggX1_take_X1_nextReference
set_option maxRecDepth 20000 in
theorem ggX1_take_X1_handOver : GoodIn wsX1_take wsX1_handOver := goodIn_r _ [16, 17, 3, 1, 18, 19, 20, 21, 22, 23, 24, 25, 26, 27, 28, 29, 30, 31, 32, 33, 34, 35, 36, 37, 38, 39, 40, 41, 42, 43, 44, 45, 46, 47, 48, 49, 50, 51, 7, 52, 53, 54, 55, 56, 57, 58, 59, 60, 61, 62, 63, 64, 65, 66, 67, 68, 69, 70, 71, 72, 73, 74, 75, 76, 77, 78, 79, 80, 81, 82, 83, 84, 85, 86, 87, 88, 89, 90, 91, 92, 93, 94, 95, 96, 97, 98, 99, 100, 101, 102, 103, 104, 105, 106, 107] (by decide +kernel) (by decide +kernel)
set_option maxRecDepth 20000 in
theorem gX1_take_X1_handOver : GoodIn wsX1_take (wsV RX1 87 RX1 yX1_handOver wsX1_handOver) := goodIn_app (goodIn_of _ (by decide +kernel)) ggX1_take_X1_handOver
theorem dX1_take_0 : decode cX1_take 0 = .ok (.aload_n 0, 1) := by decide +kernel
theorem dX1_take_1 : decode cX1_take 1 = .ok (.aload_n 0, 1) := by decide +kernel
theorem dX1_take_2 : decode cX1_take 2 = .ok (.getfield 62, 3) := by decide +kernel
theorem dX1_take_5 : decode cX1_take 5 = .ok (.invokevirtual 79, 3) := by decide +kernel
theorem dX1_take_8 : decode cX1_take 8 = .ok (.ifCond .eq 31, 3) := by decide +kernel
theorem dX1_take_11 : decode cX1_take 11 = .ok (.aload_n 0, 1) := by decide +kernel
theorem dX1_take_12 : decode cX1_take 12 = .ok (.invokevirtual 83, 3) := by decide +kernel
theorem dX1_take_15 : decode cX1_take 15 = .ok (.istore_n 2, 1) := by decide +kernel
theorem dX1_take_16 : decode cX1_take 16 = .ok (.aload_n 0, 1) := by decide +kernel
theorem dX1_take_17 : decode cX1_take 17 = .ok (.dup, 1) := by decide +kernel
theorem dX1_take_18 : decode cX1_take 18 = .ok (.getfield 66, 3) := by decide +kernel
theorem dX1_take_21 : decode cX1_take 21 = .ok (.iconst 1, 1) := by decide +kernel
theorem dX1_take_22 : decode cX1_take 22 = .ok (.iadd, 1) := by decide +kernel
theorem dX1_take_23 : decode cX1_take 23 = .ok (.putfield 66, 3) := by decide +kernel
theorem dX1_take_26 : decode cX1_take 26 = .ok (.aload_n 0, 1) := by decide +kernel
theorem dX1_take_27 : decode cX1_take 27 = .ok (.aload_n 0, 1) := by decide +kernel
theorem dX1_take_28 : decode cX1_take 28 = .ok (.getfield 34, 3) := by decide +kernel
theorem dX1_take_31 : decode cX1_take 31 = .ok (.iconst 2, 1) := by decide +kernel
theorem dX1_take_32 : decode cX1_take 32 = .ok (.iload_n 2, 1) := by decide +kernel
theorem dX1_take_33 : decode cX1_take 33 = .ok (.iadd, 1) := by decide +kernel
theorem dX1_take_34 : decode cX1_take 34 = .ok (.iaload, 1) := by decide +kernel
theorem dX1_take_35 : decode cX1_take 35 = .ok (.iload_n 2, 1) := by decide +kernel
theorem dX1_take_36 : decode cX1_take 36 = .ok (.invokevirtual 87, 3) := by decide +kernel
theorem dX1_take_39 : decode cX1_take 39 = .ok (.aload_n 0, 1) := by decide +kernel
theorem dX1_take_40 : decode cX1_take 40 = .ok (.iload_n 1, 1) := by decide +kernel
theorem dX1_take_41 : decode cX1_take 41 = .ok (.iconst (-1), 1) := by decide +kernel
theorem dX1_take_42 : decode cX1_take 42 = .ok (.invokevirtual 87, 3) := by decide +kernel
theorem dX1_take_45 : decode cX1_take 45 = .ok (.return_, 1) := by decide +kernel
set_option maxRecDepth 20000 in
theorem ggX1_handOver_X3_handOver : GoodIn wsX1_handOver wsX3_handOver := goodIn_r _ [14, 15, 16, 17, 18, 19, 20, 21, 22, 23, 24, 25, 26, 27, 13, 28, 29, 30, 31, 32, 33, 34, 85, 86, 87, 88, 89, 90, 91, 92] (by decide +kernel) (by decide +kernel)
set_option maxRecDepth 20000 in
theorem gX1_handOver_X3_handOver : GoodIn wsX1_handOver (wsV RX1 91 RX3 yX3_handOver wsX3_handOver) := goodIn_app (goodIn_of _ (by decide +kernel)) ggX1_handOver_X3_handOver
set_option maxRecDepth 20000 in
theorem ggX1_handOver_X1_sourceSlot : GoodIn wsX1_handOver wsX1_sourceSlot := goodIn_r _ [39, 1, 7, 76, 77, 78, 79, 80, 81, 82, 83, 84, 85, 86, 87, 88, 89, 90, 91, 92] (by decide +kernel) (by decide +kernel)
set_option maxRecDepth 20000 in
theorem gX1_handOver_X1_sourceSlot : GoodIn wsX1_handOver (wsV RX1 97 RX1 yX1_sourceSlot wsX1_sourceSlot) := goodIn_app (goodIn_of _ (by decide +kernel)) ggX1_handOver_X1_sourceSlot
set_option maxRecDepth 20000 in
theorem ggX1_handOver_X1_learnFrom : GoodIn wsX1_handOver wsX1_learnFrom := goodIn_r _ [43, 5, 9, 4, 44, 45, 46, 47, 48, 49, 50, 76, 77, 78, 79, 80, 81, 82, 83, 84, 93, 94] (by decide +kernel) (by decide +kernel)
set_option maxRecDepth 20000 in
theorem gX1_handOver_X1_learnFrom : GoodIn wsX1_handOver (wsV RX1 101 RX1 yX1_learnFrom wsX1_learnFrom) := goodIn_app (goodIn_of _ (by decide +kernel)) ggX1_handOver_X1_learnFrom
set_option maxRecDepth 20000 in
theorem ggX1_handOver_X2_mend : GoodIn wsX1_handOver wsX2_mend := goodIn_r _ [54, 49, 55, 56, 57, 58, 47, 59, 50, 60, 61, 62, 63, 64, 65, 66, 19, 67, 68, 69, 70, 71, 72, 73, 74, 75, 93, 94] (by decide +kernel) (by decide +kernel)
set_option maxRecDepth 20000 in
theorem gX1_handOver_X2_mend : GoodIn wsX1_handOver (wsV RX1 104 RX2 yX2_mend wsX2_mend) := goodIn_app (goodIn_of _ (by decide +kernel)) ggX1_handOver_X2_mend
theorem dX1_handOver_0 : decode cX1_handOver 0 = .ok (.aload_n 0, 1) := by decide +kernel
theorem dX1_handOver_1 : decode cX1_handOver 1 = .ok (.getfield 12, 3) := by decide +kernel
theorem dX1_handOver_4 : decode cX1_handOver 4 = .ok (.iload_n 1, 1) := by decide +kernel
theorem dX1_handOver_5 : decode cX1_handOver 5 = .ok (.aload_n 0, 1) := by decide +kernel
theorem dX1_handOver_6 : decode cX1_handOver 6 = .ok (.getfield 34, 3) := by decide +kernel
theorem dX1_handOver_9 : decode cX1_handOver 9 = .ok (.iconst 0, 1) := by decide +kernel
theorem dX1_handOver_10 : decode cX1_handOver 10 = .ok (.iaload, 1) := by decide +kernel
theorem dX1_handOver_11 : decode cX1_handOver 11 = .ok (.invokevirtual 91, 3) := by decide +kernel
theorem dX1_handOver_14 : decode cX1_handOver 14 = .ok (.istore_n 3, 1) := by decide +kernel
theorem dX1_handOver_15 : decode cX1_handOver 15 = .ok (.aload_n 0, 1) := by decide +kernel
theorem dX1_handOver_16 : decode cX1_handOver 16 = .ok (.getfield 62, 3) := by decide +kernel
theorem dX1_handOver_19 : decode cX1_handOver 19 = .ok (.bipush 31, 2) := by decide +kernel
theorem dX1_handOver_21 : decode cX1_handOver 21 = .ok (.iand, 1) := by decide +kernel
theorem dX1_handOver_22 : decode cX1_handOver 22 = .ok (.istore 4, 2) := by decide +kernel
theorem dX1_handOver_24 : decode cX1_handOver 24 = .ok (.aload_n 0, 1) := by decide +kernel
theorem dX1_handOver_25 : decode cX1_handOver 25 = .ok (.getfield 37, 3) := by decide +kernel
theorem dX1_handOver_28 : decode cX1_handOver 28 = .ok (.iload 4, 2) := by decide +kernel
theorem dX1_handOver_30 : decode cX1_handOver 30 = .ok (.iload_n 1, 1) := by decide +kernel
theorem dX1_handOver_31 : decode cX1_handOver 31 = .ok (.iastore, 1) := by decide +kernel
theorem dX1_handOver_32 : decode cX1_handOver 32 = .ok (.aload_n 0, 1) := by decide +kernel
theorem dX1_handOver_33 : decode cX1_handOver 33 = .ok (.getfield 40, 3) := by decide +kernel
theorem dX1_handOver_36 : decode cX1_handOver 36 = .ok (.iload 4, 2) := by decide +kernel
theorem dX1_handOver_38 : decode cX1_handOver 38 = .ok (.iload_n 2, 1) := by decide +kernel
theorem dX1_handOver_39 : decode cX1_handOver 39 = .ok (.iastore, 1) := by decide +kernel
theorem dX1_handOver_40 : decode cX1_handOver 40 = .ok (.aload_n 0, 1) := by decide +kernel
theorem dX1_handOver_41 : decode cX1_handOver 41 = .ok (.getfield 43, 3) := by decide +kernel
theorem dX1_handOver_44 : decode cX1_handOver 44 = .ok (.iload 4, 2) := by decide +kernel
theorem dX1_handOver_46 : decode cX1_handOver 46 = .ok (.iload_n 3, 1) := by decide +kernel
theorem dX1_handOver_47 : decode cX1_handOver 47 = .ok (.iastore, 1) := by decide +kernel
theorem dX1_handOver_48 : decode cX1_handOver 48 = .ok (.aload_n 0, 1) := by decide +kernel
theorem dX1_handOver_49 : decode cX1_handOver 49 = .ok (.getfield 62, 3) := by decide +kernel
theorem dX1_handOver_52 : decode cX1_handOver 52 = .ok (.aload_n 0, 1) := by decide +kernel
theorem dX1_handOver_53 : decode cX1_handOver 53 = .ok (.getfield 12, 3) := by decide +kernel
theorem dX1_handOver_56 : decode cX1_handOver 56 = .ok (.getfield 94, 3) := by decide +kernel
theorem dX1_handOver_59 : decode cX1_handOver 59 = .ok (.if_icmp .lt 31, 3) := by decide +kernel
theorem dX1_handOver_62 : decode cX1_handOver 62 = .ok (.aload_n 0, 1) := by decide +kernel
theorem dX1_handOver_63 : decode cX1_handOver 63 = .ok (.iload_n 3, 1) := by decide +kernel
theorem dX1_handOver_64 : decode cX1_handOver 64 = .ok (.aload_n 0, 1) := by decide +kernel
theorem dX1_handOver_65 : decode cX1_handOver 65 = .ok (.aload_n 0, 1) := by decide +kernel
theorem dX1_handOver_66 : decode cX1_handOver 66 = .ok (.getfield 62, 3) := by decide +kernel
theorem dX1_handOver_69 : decode cX1_handOver 69 = .ok (.invokevirtual 97, 3) := by decide +kernel
theorem dX1_handOver_72 : decode cX1_handOver 72 = .ok (.invokevirtual 101, 3) := by decide +kernel
theorem dX1_handOver_75 : decode cX1_handOver 75 = .ok (.aload_n 0, 1) := by decide +kernel
theorem dX1_handOver_76 : decode cX1_handOver 76 = .ok (.getfield 46, 3) := by decide +kernel
theorem dX1_handOver_79 : decode cX1_handOver 79 = .ok (.iload 4, 2) := by decide +kernel
theorem dX1_handOver_81 : decode cX1_handOver 81 = .ok (.aload_n 0, 1) := by decide +kernel
theorem dX1_handOver_82 : decode cX1_handOver 82 = .ok (.getfield 21, 3) := by decide +kernel
theorem dX1_handOver_85 : decode cX1_handOver 85 = .ok (.iload_n 3, 1) := by decide +kernel
theorem dX1_handOver_86 : decode cX1_handOver 86 = .ok (.invokevirtual 104, 3) := by decide +kernel
theorem dX1_handOver_89 : decode cX1_handOver 89 = .ok (.iastore, 1) := by decide +kernel
theorem dX1_handOver_90 : decode cX1_handOver 90 = .ok (.aload_n 0, 1) := by decide +kernel
theorem dX1_handOver_91 : decode cX1_handOver 91 = .ok (.dup, 1) := by decide +kernel
theorem dX1_handOver_92 : decode cX1_handOver 92 = .ok (.getfield 62, 3) := by decide +kernel
theorem dX1_handOver_95 : decode cX1_handOver 95 = .ok (.iconst 1, 1) := by decide +kernel
theorem dX1_handOver_96 : decode cX1_handOver 96 = .ok (.iadd, 1) := by decide +kernel
theorem dX1_handOver_97 : decode cX1_handOver 97 = .ok (.putfield 62, 3) := by decide +kernel
theorem dX1_handOver_100 : decode cX1_handOver 100 = .ok (.return_, 1) := by decide +kernel
set_option maxRecDepth 20000 in
theorem ggX1_learnFrom_X2_learn : GoodIn wsX1_learnFrom wsX2_learn := goodIn_r _ [8, 9, 10, 20, 21] (by decide +kernel) (by decide +kernel)
set_option maxRecDepth 20000 in
theorem gX1_learnFrom_X2_learn : GoodIn wsX1_learnFrom (wsV RX1 107 RX2 yX2_learn wsX2_learn) := goodIn_app (goodIn_of _ (by decide +kernel)) ggX1_learnFrom_X2_learn
theorem dX1_learnFrom_0 : decode cX1_learnFrom 0 = .ok (.aload_n 0, 1) := by decide +kernel
theorem dX1_learnFrom_1 : decode cX1_learnFrom 1 = .ok (.getfield 40, 3) := by decide +kernel
theorem dX1_learnFrom_4 : decode cX1_learnFrom 4 = .ok (.iload_n 2, 1) := by decide +kernel
theorem dX1_learnFrom_5 : decode cX1_learnFrom 5 = .ok (.iaload, 1) := by decide +kernel
theorem dX1_learnFrom_6 : decode cX1_learnFrom 6 = .ok (.istore_n 3, 1) := by decide +kernel
theorem dX1_learnFrom_7 : decode cX1_learnFrom 7 = .ok (.iload_n 3, 1) := by decide +kernel
theorem dX1_learnFrom_8 : decode cX1_learnFrom 8 = .ok (.iconst (-1), 1) := by decide +kernel
theorem dX1_learnFrom_9 : decode cX1_learnFrom 9 = .ok (.if_icmp .eq 18, 3) := by decide +kernel
theorem dX1_learnFrom_12 : decode cX1_learnFrom 12 = .ok (.aload_n 0, 1) := by decide +kernel
theorem dX1_learnFrom_13 : decode cX1_learnFrom 13 = .ok (.getfield 21, 3) := by decide +kernel
theorem dX1_learnFrom_16 : decode cX1_learnFrom 16 = .ok (.iload_n 3, 1) := by decide +kernel
theorem dX1_learnFrom_17 : decode cX1_learnFrom 17 = .ok (.iload_n 1, 1) := by decide +kernel
theorem dX1_learnFrom_18 : decode cX1_learnFrom 18 = .ok (.aload_n 0, 1) := by decide +kernel
theorem dX1_learnFrom_19 : decode cX1_learnFrom 19 = .ok (.getfield 37, 3) := by decide +kernel
theorem dX1_learnFrom_22 : decode cX1_learnFrom 22 = .ok (.iload_n 2, 1) := by decide +kernel
theorem dX1_learnFrom_23 : decode cX1_learnFrom 23 = .ok (.iaload, 1) := by decide +kernel
theorem dX1_learnFrom_24 : decode cX1_learnFrom 24 = .ok (.invokevirtual 107, 3) := by decide +kernel
theorem dX1_learnFrom_27 : decode cX1_learnFrom 27 = .ok (.return_, 1) := by decide +kernel
theorem dX1_keptOutputs_0 : decode cX1_keptOutputs 0 = .ok (.iconst 0, 1) := by decide +kernel
theorem dX1_keptOutputs_1 : decode cX1_keptOutputs 1 = .ok (.bipush 16, 2) := by decide +kernel
theorem dX1_keptOutputs_3 : decode cX1_keptOutputs 3 = .ok (.aload_n 0, 1) := by decide +kernel
theorem dX1_keptOutputs_4 : decode cX1_keptOutputs 4 = .ok (.getfield 62, 3) := by decide +kernel
theorem dX1_keptOutputs_7 : decode cX1_keptOutputs 7 = .ok (.aload_n 0, 1) := by decide +kernel
theorem dX1_keptOutputs_8 : decode cX1_keptOutputs 8 = .ok (.getfield 12, 3) := by decide +kernel
theorem dX1_keptOutputs_11 : decode cX1_keptOutputs 11 = .ok (.getfield 94, 3) := by decide +kernel
theorem dX1_keptOutputs_14 : decode cX1_keptOutputs 14 = .ok (.isub, 1) := by decide +kernel
theorem dX1_keptOutputs_15 : decode cX1_keptOutputs 15 = .ok (.invokestatic 111, 3) := by decide +kernel
theorem dX1_keptOutputs_18 : decode cX1_keptOutputs 18 = .ok (.invokestatic 116, 3) := by decide +kernel
theorem dX1_keptOutputs_21 : decode cX1_keptOutputs 21 = .ok (.ireturn, 1) := by decide +kernel
theorem dX1_sourceSlot_0 : decode cX1_sourceSlot 0 = .ok (.iload_n 1, 1) := by decide +kernel
theorem dX1_sourceSlot_1 : decode cX1_sourceSlot 1 = .ok (.aload_n 0, 1) := by decide +kernel
theorem dX1_sourceSlot_2 : decode cX1_sourceSlot 2 = .ok (.getfield 12, 3) := by decide +kernel
theorem dX1_sourceSlot_5 : decode cX1_sourceSlot 5 = .ok (.getfield 94, 3) := by decide +kernel
theorem dX1_sourceSlot_8 : decode cX1_sourceSlot 8 = .ok (.isub, 1) := by decide +kernel
theorem dX1_sourceSlot_9 : decode cX1_sourceSlot 9 = .ok (.bipush 31, 2) := by decide +kernel
theorem dX1_sourceSlot_11 : decode cX1_sourceSlot 11 = .ok (.iand, 1) := by decide +kernel
theorem dX1_sourceSlot_12 : decode cX1_sourceSlot 12 = .ok (.ireturn, 1) := by decide +kernel
set_option maxRecDepth 20000 in
theorem ggX1_isOfReference_X1_sourceSlot : GoodIn wsX1_isOfReference wsX1_sourceSlot := goodIn_r _ [6, 7, 8, 9, 10, 11, 12, 13, 14, 15, 16, 17, 18, 19, 20, 21, 22, 23, 24, 25] (by decide +kernel) (by decide +kernel)
set_option maxRecDepth 20000 in
theorem gX1_isOfReference_X1_sourceSlot : GoodIn wsX1_isOfReference (wsV RX1 97 RX1 yX1_sourceSlot wsX1_sourceSlot) := goodIn_app (goodIn_of _ (by decide +kernel)) ggX1_isOfReference_X1_sourceSlot
theorem dX1_isOfReference_0 : decode cX1_isOfReference 0 = .ok (.aload_n 0, 1) := by decide +kernel
theorem dX1_isOfReference_1 : decode cX1_isOfReference 1 = .ok (.getfield 40, 3) := by decide +kernel
theorem dX1_isOfReference_4 : decode cX1_isOfReference 4 = .ok (.aload_n 0, 1) := by decide +kernel
theorem dX1_isOfReference_5 : decode cX1_isOfReference 5 = .ok (.iload_n 1, 1) := by decide +kernel
theorem dX1_isOfReference_6 : decode cX1_isOfReference 6 = .ok (.invokevirtual 97, 3) := by decide +kernel
theorem dX1_isOfReference_9 : decode cX1_isOfReference 9 = .ok (.iaload, 1) := by decide +kernel
theorem dX1_isOfReference_10 : decode cX1_isOfReference 10 = .ok (.iconst (-1), 1) := by decide +kernel
theorem dX1_isOfReference_11 : decode cX1_isOfReference 11 = .ok (.if_icmp .eq 7, 3) := by decide +kernel
theorem dX1_isOfReference_14 : decode cX1_isOfReference 14 = .ok (.iconst 1, 1) := by decide +kernel
theorem dX1_isOfReference_15 : decode cX1_isOfReference 15 = .ok (.goto 4, 3) := by decide +kernel
theorem dX1_isOfReference_18 : decode cX1_isOfReference 18 = .ok (.iconst 0, 1) := by decide +kernel
theorem dX1_isOfReference_19 : decode cX1_isOfReference 19 = .ok (.ireturn, 1) := by decide +kernel
set_option maxRecDepth 20000 in
theorem ggX1_errorOf_X1_sourceSlot : GoodIn wsX1_errorOf wsX1_sourceSlot := goodIn_r _ [9, 10, 11, 12, 13, 14, 15, 16, 17, 18, 19, 20, 21, 22, 23, 24, 25, 26, 27, 28] (by decide +kernel) (by decide +kernel)
set_option maxRecDepth 20000 in
theorem gX1_errorOf_X1_sourceSlot : GoodIn wsX1_errorOf (wsV RX1 97 RX1 yX1_sourceSlot wsX1_sourceSlot) := goodIn_app (goodIn_of _ (by decide +kernel)) ggX1_errorOf_X1_sourceSlot
theorem dX1_errorOf_0 : decode cX1_errorOf 0 = .ok (.iload_n 1, 1) := by decide +kernel
theorem dX1_errorOf_1 : decode cX1_errorOf 1 = .ok (.bipush 31, 2) := by decide +kernel
theorem dX1_errorOf_3 : decode cX1_errorOf 3 = .ok (.iand, 1) := by decide +kernel
theorem dX1_errorOf_4 : decode cX1_errorOf 4 = .ok (.istore_n 2, 1) := by decide +kernel
theorem dX1_errorOf_5 : decode cX1_errorOf 5 = .ok (.aload_n 0, 1) := by decide +kernel
theorem dX1_errorOf_6 : decode cX1_errorOf 6 = .ok (.getfield 46, 3) := by decide +kernel
theorem dX1_errorOf_9 : decode cX1_errorOf 9 = .ok (.iload_n 2, 1) := by decide +kernel
theorem dX1_errorOf_10 : decode cX1_errorOf 10 = .ok (.iaload, 1) := by decide +kernel
theorem dX1_errorOf_11 : decode cX1_errorOf 11 = .ok (.ldc 119, 2) := by decide +kernel
theorem dX1_errorOf_13 : decode cX1_errorOf 13 = .ok (.if_icmp .ne 12, 3) := by decide +kernel
theorem dX1_errorOf_16 : decode cX1_errorOf 16 = .ok (.aload_n 0, 1) := by decide +kernel
theorem dX1_errorOf_17 : decode cX1_errorOf 17 = .ok (.getfield 43, 3) := by decide +kernel
theorem dX1_errorOf_20 : decode cX1_errorOf 20 = .ok (.iload_n 2, 1) := by decide +kernel
theorem dX1_errorOf_21 : decode cX1_errorOf 21 = .ok (.iaload, 1) := by decide +kernel
theorem dX1_errorOf_22 : decode cX1_errorOf 22 = .ok (.goto 9, 3) := by decide +kernel
theorem dX1_errorOf_25 : decode cX1_errorOf 25 = .ok (.aload_n 0, 1) := by decide +kernel
theorem dX1_errorOf_26 : decode cX1_errorOf 26 = .ok (.getfield 46, 3) := by decide +kernel
theorem dX1_errorOf_29 : decode cX1_errorOf 29 = .ok (.iload_n 2, 1) := by decide +kernel
theorem dX1_errorOf_30 : decode cX1_errorOf 30 = .ok (.iaload, 1) := by decide +kernel
theorem dX1_errorOf_31 : decode cX1_errorOf 31 = .ok (.istore_n 3, 1) := by decide +kernel
theorem dX1_errorOf_32 : decode cX1_errorOf 32 = .ok (.iload_n 3, 1) := by decide +kernel
theorem dX1_errorOf_33 : decode cX1_errorOf 33 = .ok (.aload_n 0, 1) := by decide +kernel
theorem dX1_errorOf_34 : decode cX1_errorOf 34 = .ok (.getfield 37, 3) := by decide +kernel
theorem dX1_errorOf_37 : decode cX1_errorOf 37 = .ok (.aload_n 0, 1) := by decide +kernel
theorem dX1_errorOf_38 : decode cX1_errorOf 38 = .ok (.iload_n 1, 1) := by decide +kernel
theorem dX1_errorOf_39 : decode cX1_errorOf 39 = .ok (.invokevirtual 97, 3) := by decide +kernel
theorem dX1_errorOf_42 : decode cX1_errorOf 42 = .ok (.iaload, 1) := by decide +kernel
theorem dX1_errorOf_43 : decode cX1_errorOf 43 = .ok (.isub, 1) := by decide +kernel
theorem dX1_errorOf_44 : decode cX1_errorOf 44 = .ok (.ireturn, 1) := by decide +kernel
theorem dX2_init_0 : decode cX2_init 0 = .ok (.aload_n 0, 1) := by decide +kernel
theorem dX2_init_1 : decode cX2_init 1 = .ok (.invokespecial 3, 3) := by decide +kernel
theorem dX2_init_4 : decode cX2_init 4 = .ok (.aload_n 0, 1) := by decide +kernel
theorem dX2_init_5 : decode cX2_init 5 = .ok (.iconst 3, 1) := by decide +kernel
theorem dX2_init_6 : decode cX2_init 6 = .ok (.newarray .int, 2) := by decide +kernel
theorem dX2_init_8 : decode cX2_init 8 = .ok (.putfield 9, 3) := by decide +kernel
theorem dX2_init_11 : decode cX2_init 11 = .ok (.aload_n 0, 1) := by decide +kernel
theorem dX2_init_12 : decode cX2_init 12 = .ok (.iconst 3, 1) := by decide +kernel
theorem dX2_init_13 : decode cX2_init 13 = .ok (.newarray .int, 2) := by decide +kernel
theorem dX2_init_15 : decode cX2_init 15 = .ok (.putfield 15, 3) := by decide +kernel
theorem dX2_init_18 : decode cX2_init 18 = .ok (.return_, 1) := by decide +kernel
theorem dX2_copyFrom_0 : decode cX2_copyFrom 0 = .ok (.aload_n 1, 1) := by decide +kernel
theorem dX2_copyFrom_1 : decode cX2_copyFrom 1 = .ok (.getfield 9, 3) := by decide +kernel
theorem dX2_copyFrom_4 : decode cX2_copyFrom 4 = .ok (.iconst 0, 1) := by decide +kernel
theorem dX2_copyFrom_5 : decode cX2_copyFrom 5 = .ok (.aload_n 0, 1) := by decide +kernel
theorem dX2_copyFrom_6 : decode cX2_copyFrom 6 = .ok (.getfield 9, 3) := by decide +kernel
theorem dX2_copyFrom_9 : decode cX2_copyFrom 9 = .ok (.iconst 0, 1) := by decide +kernel
theorem dX2_copyFrom_10 : decode cX2_copyFrom 10 = .ok (.iconst 3, 1) := by decide +kernel
theorem dX2_copyFrom_11 : decode cX2_copyFrom 11 = .ok (.invokestatic 18, 3) := by decide +kernel
theorem dX2_copyFrom_14 : decode cX2_copyFrom 14 = .ok (.aload_n 1, 1) := by decide +kernel
theorem dX2_copyFrom_15 : decode cX2_copyFrom 15 = .ok (.getfield 15, 3) := by decide +kernel
theorem dX2_copyFrom_18 : decode cX2_copyFrom 18 = .ok (.iconst 0, 1) := by decide +kernel
theorem dX2_copyFrom_19 : decode cX2_copyFrom 19 = .ok (.aload_n 0, 1) := by decide +kernel
theorem dX2_copyFrom_20 : decode cX2_copyFrom 20 = .ok (.getfield 15, 3) := by decide +kernel
theorem dX2_copyFrom_23 : decode cX2_copyFrom 23 = .ok (.iconst 0, 1) := by decide +kernel
theorem dX2_copyFrom_24 : decode cX2_copyFrom 24 = .ok (.iconst 3, 1) := by decide +kernel
theorem dX2_copyFrom_25 : decode cX2_copyFrom 25 = .ok (.invokestatic 18, 3) := by decide +kernel
theorem dX2_copyFrom_28 : decode cX2_copyFrom 28 = .ok (.return_, 1) := by decide +kernel
set_option maxRecDepth 20000 in
theorem ggX2_forget_J7_fill_53178 : GoodIn wsX2_forget wsJ7_fill_53178 := goodIn_r _ [6] (by decide +kernel) (by decide +kernel)
set_option maxRecDepth 20000 in
theorem gX2_forget_J7_fill_53178 : GoodIn wsX2_forget (va_wsS RX2 24 yJ7_fill_53178 wsJ7_fill_53178) := goodIn_app (goodIn_of _ (by decide +kernel)) ggX2_forget_J7_fill_53178
theorem dX2_forget_0 : decode cX2_forget 0 = .ok (.aload_n 0, 1) := by decide +kernel
theorem dX2_forget_1 : decode cX2_forget 1 = .ok (.getfield 9, 3) := by decide +kernel
theorem dX2_forget_4 : decode cX2_forget 4 = .ok (.iconst 0, 1) := by decide +kernel
theorem dX2_forget_5 : decode cX2_forget 5 = .ok (.invokestatic 24, 3) := by decide +kernel
theorem dX2_forget_8 : decode cX2_forget 8 = .ok (.aload_n 0, 1) := by decide +kernel
theorem dX2_forget_9 : decode cX2_forget 9 = .ok (.getfield 15, 3) := by decide +kernel
theorem dX2_forget_12 : decode cX2_forget 12 = .ok (.iconst 0, 1) := by decide +kernel
theorem dX2_forget_13 : decode cX2_forget 13 = .ok (.invokestatic 24, 3) := by decide +kernel
theorem dX2_forget_16 : decode cX2_forget 16 = .ok (.return_, 1) := by decide +kernel
theorem dX2_learn_0 : decode cX2_learn 0 = .ok (.aload_n 0, 1) := by decide +kernel
theorem dX2_learn_1 : decode cX2_learn 1 = .ok (.getfield 9, 3) := by decide +kernel
theorem dX2_learn_4 : decode cX2_learn 4 = .ok (.iload_n 1, 1) := by decide +kernel
theorem dX2_learn_5 : decode cX2_learn 5 = .ok (.iload_n 2, 1) := by decide +kernel
theorem dX2_learn_6 : decode cX2_learn 6 = .ok (.iastore, 1) := by decide +kernel
theorem dX2_learn_7 : decode cX2_learn 7 = .ok (.aload_n 0, 1) := by decide +kernel
theorem dX2_learn_8 : decode cX2_learn 8 = .ok (.getfield 15, 3) := by decide +kernel
theorem dX2_learn_11 : decode cX2_learn 11 = .ok (.iload_n 1, 1) := by decide +kernel
theorem dX2_learn_12 : decode cX2_learn 12 = .ok (.iload_n 3, 1) := by decide +kernel
theorem dX2_learn_13 : decode cX2_learn 13 = .ok (.iastore, 1) := by decide +kernel
theorem dX2_learn_14 : decode cX2_learn 14 = .ok (.return_, 1) := by decide +kernel
theorem dX2_isKnown_0 : decode cX2_isKnown 0 = .ok (.aload_n 0, 1) := by decide +kernel
theorem dX2_isKnown_1 : decode cX2_isKnown 1 = .ok (.getfield 15, 3) := by decide +kernel
theorem dX2_isKnown_4 : decode cX2_isKnown 4 = .ok (.iload_n 1, 1) := by decide +kernel
theorem dX2_isKnown_5 : decode cX2_isKnown 5 = .ok (.iaload, 1) := by decide +kernel
theorem dX2_isKnown_6 : decode cX2_isKnown 6 = .ok (.ifCond .le 7, 3) := by decide +kernel
theorem dX2_isKnown_9 : decode cX2_isKnown 9 = .ok (.iconst 1, 1) := by decide +kernel
theorem dX2_isKnown_10 : decode cX2_isKnown 10 = .ok (.goto 4, 3) := by decide +kernel
theorem dX2_isKnown_13 : decode cX2_isKnown 13 = .ok (.iconst 0, 1) := by decide +kernel
theorem dX2_isKnown_14 : decode cX2_isKnown 14 = .ok (.ireturn, 1) := by decide +kernel
set_option maxRecDepth 20000 in
theorem ggX2_known_X2_isKnown : GoodIn wsX2_known wsX2_isKnown := goodIn_r _ [5, 6, 7, 8] (by decide +kernel) (by decide +kernel)
set_option maxRecDepth 20000 in
theorem gX2_known_X2_isKnown : GoodIn wsX2_known (wsV RX2 30 RX2 yX2_isKnown wsX2_isKnown) := goodIn_app (goodIn_of _ (by decide +kernel)) ggX2_known_X2_isKnown
theorem dX2_known_0 : decode cX2_known 0 = .ok (.iconst 0, 1) := by decide +kernel
theorem dX2_known_1 : decode cX2_known 1 = .ok (.istore_n 1, 1) := by decide +kernel
theorem dX2_known_2 : decode cX2_known 2 = .ok (.iconst 0, 1) := by decide +kernel
theorem dX2_known_3 : decode cX2_known 3 = .ok (.istore_n 2, 1) := by decide +kernel
theorem dX2_known_4 : decode cX2_known 4 = .ok (.iload_n 2, 1) := by decide +kernel
theorem dX2_known_5 : decode cX2_known 5 = .ok (.iconst 3, 1) := by decide +kernel
theorem dX2_known_6 : decode cX2_known 6 = .ok (.if_icmp .ge 25, 3) := by decide +kernel
theorem dX2_known_9 : decode cX2_known 9 = .ok (.iload_n 1, 1) := by decide +kernel
theorem dX2_known_10 : decode cX2_known 10 = .ok (.aload_n 0, 1) := by decide +kernel
theorem dX2_known_11 : decode cX2_known 11 = .ok (.iload_n 2, 1) := by decide +kernel
theorem dX2_known_12 : decode cX2_known 12 = .ok (.invokevirtual 30, 3) := by decide +kernel
theorem dX2_known_15 : decode cX2_known 15 = .ok (.ifCond .eq 7, 3) := by decide +kernel
theorem dX2_known_18 : decode cX2_known 18 = .ok (.iconst 1, 1) := by decide +kernel
theorem dX2_known_19 : decode cX2_known 19 = .ok (.goto 4, 3) := by decide +kernel
theorem dX2_known_22 : decode cX2_known 22 = .ok (.iconst 0, 1) := by decide +kernel
theorem dX2_known_23 : decode cX2_known 23 = .ok (.iadd, 1) := by decide +kernel
theorem dX2_known_24 : decode cX2_known 24 = .ok (.istore_n 1, 1) := by decide +kernel
theorem dX2_known_25 : decode cX2_known 25 = .ok (.iinc 2 1, 3) := by decide +kernel
theorem dX2_known_28 : decode cX2_known 28 = .ok (.goto (-24), 3) := by decide +kernel
theorem dX2_known_31 : decode cX2_known 31 = .ok (.iload_n 1, 1) := by decide +kernel
theorem dX2_known_32 : decode cX2_known 32 = .ok (.ireturn, 1) := by decide +kernel
set_option maxRecDepth 20000 in
theorem ggX2_mend_X2_isKnown : GoodIn wsX2_mend wsX2_isKnown := goodIn_r _ [7, 8, 26, 27] (by decide +kernel) (by decide +kernel)
set_option maxRecDepth 20000 in
theorem gX2_mend_X2_isKnown : GoodIn wsX2_mend (wsV RX2 30 RX2 yX2_isKnown wsX2_isKnown) := goodIn_app (goodIn_of _ (by decide +kernel)) ggX2_mend_X2_isKnown
set_option maxRecDepth 20000 in
theorem ggX2_mend_X2_mendBy : GoodIn wsX2_mend wsX2_mendBy := goodIn_r _ [12, 1, 2, 8, 13, 14, 15, 16, 17, 26, 27] (by decide +kernel) (by decide +kernel)
set_option maxRecDepth 20000 in
theorem gX2_mend_X2_mendBy : GoodIn wsX2_mend (wsV RX2 35 RX2 yX2_mendBy wsX2_mendBy) := goodIn_app (goodIn_of _ (by decide +kernel)) ggX2_mend_X2_mendBy
set_option maxRecDepth 20000 in
theorem ggX2_mend_X2_mendBetween : GoodIn wsX2_mend wsX2_mendBetween := goodIn_r _ [21, 1, 8, 22, 23, 24, 25, 26, 27] (by decide +kernel) (by decide +kernel)
set_option maxRecDepth 20000 in
theorem gX2_mend_X2_mendBetween : GoodIn wsX2_mend (wsV RX2 39 RX2 yX2_mendBetween wsX2_mendBetween) := goodIn_app (goodIn_of _ (by decide +kernel)) ggX2_mend_X2_mendBetween
theorem dX2_mend_0 : decode cX2_mend 0 = .ok (.iconst (-1), 1) := by decide +kernel
theorem dX2_mend_1 : decode cX2_mend 1 = .ok (.istore_n 2, 1) := by decide +kernel
theorem dX2_mend_2 : decode cX2_mend 2 = .ok (.iconst (-1), 1) := by decide +kernel
theorem dX2_mend_3 : decode cX2_mend 3 = .ok (.istore_n 3, 1) := by decide +kernel
theorem dX2_mend_4 : decode cX2_mend 4 = .ok (.iconst 0, 1) := by decide +kernel
theorem dX2_mend_5 : decode cX2_mend 5 = .ok (.istore 4, 2) := by decide +kernel
theorem dX2_mend_7 : decode cX2_mend 7 = .ok (.iload 4, 2) := by decide +kernel
theorem dX2_mend_9 : decode cX2_mend 9 = .ok (.iconst 3, 1) := by decide +kernel
theorem dX2_mend_10 : decode cX2_mend 10 = .ok (.if_icmp .ge 82, 3) := by decide +kernel
theorem dX2_mend_13 : decode cX2_mend 13 = .ok (.aload_n 0, 1) := by decide +kernel
theorem dX2_mend_14 : decode cX2_mend 14 = .ok (.getfield 9, 3) := by decide +kernel
theorem dX2_mend_17 : decode cX2_mend 17 = .ok (.iload 4, 2) := by decide +kernel
theorem dX2_mend_19 : decode cX2_mend 19 = .ok (.iaload, 1) := by decide +kernel
theorem dX2_mend_20 : decode cX2_mend 20 = .ok (.istore 5, 2) := by decide +kernel
theorem dX2_mend_22 : decode cX2_mend 22 = .ok (.aload_n 0, 1) := by decide +kernel
theorem dX2_mend_23 : decode cX2_mend 23 = .ok (.iload 4, 2) := by decide +kernel
theorem dX2_mend_25 : decode cX2_mend 25 = .ok (.invokevirtual 30, 3) := by decide +kernel
theorem dX2_mend_28 : decode cX2_mend 28 = .ok (.ifCond .eq 58, 3) := by decide +kernel
theorem dX2_mend_31 : decode cX2_mend 31 = .ok (.iload 5, 2) := by decide +kernel
theorem dX2_mend_33 : decode cX2_mend 33 = .ok (.ifCond .le 53, 3) := by decide +kernel
theorem dX2_mend_36 : decode cX2_mend 36 = .ok (.iload 5, 2) := by decide +kernel
theorem dX2_mend_38 : decode cX2_mend 38 = .ok (.iload_n 1, 1) := by decide +kernel
theorem dX2_mend_39 : decode cX2_mend 39 = .ok (.if_icmp .gt 22, 3) := by decide +kernel
theorem dX2_mend_42 : decode cX2_mend 42 = .ok (.iload_n 2, 1) := by decide +kernel
theorem dX2_mend_43 : decode cX2_mend 43 = .ok (.iconst (-1), 1) := by decide +kernel
theorem dX2_mend_44 : decode cX2_mend 44 = .ok (.if_icmp .eq 14, 3) := by decide +kernel
theorem dX2_mend_47 : decode cX2_mend 47 = .ok (.iload 5, 2) := by decide +kernel
theorem dX2_mend_49 : decode cX2_mend 49 = .ok (.aload_n 0, 1) := by decide +kernel
theorem dX2_mend_50 : decode cX2_mend 50 = .ok (.getfield 9, 3) := by decide +kernel
theorem dX2_mend_53 : decode cX2_mend 53 = .ok (.iload_n 2, 1) := by decide +kernel
theorem dX2_mend_54 : decode cX2_mend 54 = .ok (.iaload, 1) := by decide +kernel
theorem dX2_mend_55 : decode cX2_mend 55 = .ok (.if_icmp .le 6, 3) := by decide +kernel
theorem dX2_mend_58 : decode cX2_mend 58 = .ok (.iload 4, 2) := by decide +kernel
theorem dX2_mend_60 : decode cX2_mend 60 = .ok (.istore_n 2, 1) := by decide +kernel
theorem dX2_mend_61 : decode cX2_mend 61 = .ok (.iload 5, 2) := by decide +kernel
theorem dX2_mend_63 : decode cX2_mend 63 = .ok (.iload_n 1, 1) := by decide +kernel
theorem dX2_mend_64 : decode cX2_mend 64 = .ok (.if_icmp .lt 22, 3) := by decide +kernel
theorem dX2_mend_67 : decode cX2_mend 67 = .ok (.iload_n 3, 1) := by decide +kernel
theorem dX2_mend_68 : decode cX2_mend 68 = .ok (.iconst (-1), 1) := by decide +kernel
theorem dX2_mend_69 : decode cX2_mend 69 = .ok (.if_icmp .eq 14, 3) := by decide +kernel
theorem dX2_mend_72 : decode cX2_mend 72 = .ok (.iload 5, 2) := by decide +kernel
theorem dX2_mend_74 : decode cX2_mend 74 = .ok (.aload_n 0, 1) := by decide +kernel
theorem dX2_mend_75 : decode cX2_mend 75 = .ok (.getfield 9, 3) := by decide +kernel
theorem dX2_mend_78 : decode cX2_mend 78 = .ok (.iload_n 3, 1) := by decide +kernel
theorem dX2_mend_79 : decode cX2_mend 79 = .ok (.iaload, 1) := by decide +kernel
theorem dX2_mend_80 : decode cX2_mend 80 = .ok (.if_icmp .ge 6, 3) := by decide +kernel
theorem dX2_mend_83 : decode cX2_mend 83 = .ok (.iload 4, 2) := by decide +kernel
theorem dX2_mend_85 : decode cX2_mend 85 = .ok (.istore_n 3, 1) := by decide +kernel
theorem dX2_mend_86 : decode cX2_mend 86 = .ok (.iinc 4 1, 3) := by decide +kernel
theorem dX2_mend_89 : decode cX2_mend 89 = .ok (.goto (-82), 3) := by decide +kernel
theorem dX2_mend_92 : decode cX2_mend 92 = .ok (.iload_n 2, 1) := by decide +kernel
theorem dX2_mend_93 : decode cX2_mend 93 = .ok (.iconst (-1), 1) := by decide +kernel
theorem dX2_mend_94 : decode cX2_mend 94 = .ok (.if_icmp .ne 11, 3) := by decide +kernel
theorem dX2_mend_97 : decode cX2_mend 97 = .ok (.iload_n 3, 1) := by decide +kernel
theorem dX2_mend_98 : decode cX2_mend 98 = .ok (.iconst (-1), 1) := by decide +kernel
theorem dX2_mend_99 : decode cX2_mend 99 = .ok (.if_icmp .ne 6, 3) := by decide +kernel
theorem dX2_mend_102 : decode cX2_mend 102 = .ok (.ldc 34, 2) := by decide +kernel
theorem dX2_mend_104 : decode cX2_mend 104 = .ok (.ireturn, 1) := by decide +kernel
theorem dX2_mend_105 : decode cX2_mend 105 = .ok (.iload_n 2, 1) := by decide +kernel
theorem dX2_mend_106 : decode cX2_mend 106 = .ok (.iconst (-1), 1) := by decide +kernel
theorem dX2_mend_107 : decode cX2_mend 107 = .ok (.if_icmp .ne 10, 3) := by decide +kernel
theorem dX2_mend_110 : decode cX2_mend 110 = .ok (.aload_n 0, 1) := by decide +kernel
theorem dX2_mend_111 : decode cX2_mend 111 = .ok (.iload_n 3, 1) := by decide +kernel
theorem dX2_mend_112 : decode cX2_mend 112 = .ok (.iload_n 1, 1) := by decide +kernel
theorem dX2_mend_113 : decode cX2_mend 113 = .ok (.invokevirtual 35, 3) := by decide +kernel
theorem dX2_mend_116 : decode cX2_mend 116 = .ok (.ireturn, 1) := by decide +kernel
theorem dX2_mend_117 : decode cX2_mend 117 = .ok (.iload_n 3, 1) := by decide +kernel
theorem dX2_mend_118 : decode cX2_mend 118 = .ok (.iconst (-1), 1) := by decide +kernel
theorem dX2_mend_119 : decode cX2_mend 119 = .ok (.if_icmp .ne 12, 3) := by decide +kernel
theorem dX2_mend_122 : decode cX2_mend 122 = .ok (.aload_n 0, 1) := by decide +kernel
theorem dX2_mend_123 : decode cX2_mend 123 = .ok (.iload_n 2, 1) := by decide +kernel
theorem dX2_mend_124 : decode cX2_mend 124 = .ok (.iload_n 1, 1) := by decide +kernel
theorem dX2_mend_125 : decode cX2_mend 125 = .ok (.invokevirtual 35, 3) := by decide +kernel
theorem dX2_mend_128 : decode cX2_mend 128 = .ok (.goto 10, 3) := by decide +kernel
theorem dX2_mend_131 : decode cX2_mend 131 = .ok (.aload_n 0, 1) := by decide +kernel
theorem dX2_mend_132 : decode cX2_mend 132 = .ok (.iload_n 2, 1) := by decide +kernel
theorem dX2_mend_133 : decode cX2_mend 133 = .ok (.iload_n 3, 1) := by decide +kernel
theorem dX2_mend_134 : decode cX2_mend 134 = .ok (.iload_n 1, 1) := by decide +kernel
theorem dX2_mend_135 : decode cX2_mend 135 = .ok (.invokevirtual 39, 3) := by decide +kernel
theorem dX2_mend_138 : decode cX2_mend 138 = .ok (.ireturn, 1) := by decide +kernel
set_option maxRecDepth 20000 in
theorem ggX2_mendBetween_J9_floorDiv_7cf53 : GoodIn wsX2_mendBetween wsJ9_floorDiv_7cf53 := goodIn_r _ [6] (by decide +kernel) (by decide +kernel)
set_option maxRecDepth 20000 in
theorem gX2_mendBetween_J9_floorDiv_7cf53 : GoodIn wsX2_mendBetween (va_wsS RX2 43 yJ9_floorDiv_7cf53 wsJ9_floorDiv_7cf53) := goodIn_app (goodIn_of _ (by decide +kernel)) ggX2_mendBetween_J9_floorDiv_7cf53
theorem dX2_mendBetween_0 : decode cX2_mendBetween 0 = .ok (.aload_n 0, 1) := by decide +kernel
theorem dX2_mendBetween_1 : decode cX2_mendBetween 1 = .ok (.getfield 9, 3) := by decide +kernel
theorem dX2_mendBetween_4 : decode cX2_mendBetween 4 = .ok (.iload_n 2, 1) := by decide +kernel
theorem dX2_mendBetween_5 : decode cX2_mendBetween 5 = .ok (.iaload, 1) := by decide +kernel
theorem dX2_mendBetween_6 : decode cX2_mendBetween 6 = .ok (.aload_n 0, 1) := by decide +kernel
theorem dX2_mendBetween_7 : decode cX2_mendBetween 7 = .ok (.getfield 9, 3) := by decide +kernel
theorem dX2_mendBetween_10 : decode cX2_mendBetween 10 = .ok (.iload_n 1, 1) := by decide +kernel
theorem dX2_mendBetween_11 : decode cX2_mendBetween 11 = .ok (.iaload, 1) := by decide +kernel
theorem dX2_mendBetween_12 : decode cX2_mendBetween 12 = .ok (.isub, 1) := by decide +kernel
theorem dX2_mendBetween_13 : decode cX2_mendBetween 13 = .ok (.istore 4, 2) := by decide +kernel
theorem dX2_mendBetween_15 : decode cX2_mendBetween 15 = .ok (.iload 4, 2) := by decide +kernel
theorem dX2_mendBetween_17 : decode cX2_mendBetween 17 = .ok (.ifCond .ne 10, 3) := by decide +kernel
theorem dX2_mendBetween_20 : decode cX2_mendBetween 20 = .ok (.aload_n 0, 1) := by decide +kernel
theorem dX2_mendBetween_21 : decode cX2_mendBetween 21 = .ok (.getfield 15, 3) := by decide +kernel
theorem dX2_mendBetween_24 : decode cX2_mendBetween 24 = .ok (.iload_n 1, 1) := by decide +kernel
theorem dX2_mendBetween_25 : decode cX2_mendBetween 25 = .ok (.iaload, 1) := by decide +kernel
theorem dX2_mendBetween_26 : decode cX2_mendBetween 26 = .ok (.ireturn, 1) := by decide +kernel
theorem dX2_mendBetween_27 : decode cX2_mendBetween 27 = .ok (.iload_n 3, 1) := by decide +kernel
theorem dX2_mendBetween_28 : decode cX2_mendBetween 28 = .ok (.aload_n 0, 1) := by decide +kernel
theorem dX2_mendBetween_29 : decode cX2_mendBetween 29 = .ok (.getfield 9, 3) := by decide +kernel
theorem dX2_mendBetween_32 : decode cX2_mendBetween 32 = .ok (.iload_n 1, 1) := by decide +kernel
theorem dX2_mendBetween_33 : decode cX2_mendBetween 33 = .ok (.iaload, 1) := by decide +kernel
theorem dX2_mendBetween_34 : decode cX2_mendBetween 34 = .ok (.isub, 1) := by decide +kernel
theorem dX2_mendBetween_35 : decode cX2_mendBetween 35 = .ok (.aload_n 0, 1) := by decide +kernel
theorem dX2_mendBetween_36 : decode cX2_mendBetween 36 = .ok (.getfield 15, 3) := by decide +kernel
theorem dX2_mendBetween_39 : decode cX2_mendBetween 39 = .ok (.iload_n 2, 1) := by decide +kernel
theorem dX2_mendBetween_40 : decode cX2_mendBetween 40 = .ok (.iaload, 1) := by decide +kernel
theorem dX2_mendBetween_41 : decode cX2_mendBetween 41 = .ok (.aload_n 0, 1) := by decide +kernel
theorem dX2_mendBetween_42 : decode cX2_mendBetween 42 = .ok (.getfield 15, 3) := by decide +kernel
theorem dX2_mendBetween_45 : decode cX2_mendBetween 45 = .ok (.iload_n 1, 1) := by decide +kernel
theorem dX2_mendBetween_46 : decode cX2_mendBetween 46 = .ok (.iaload, 1) := by decide +kernel
theorem dX2_mendBetween_47 : decode cX2_mendBetween 47 = .ok (.isub, 1) := by decide +kernel
theorem dX2_mendBetween_48 : decode cX2_mendBetween 48 = .ok (.imul, 1) := by decide +kernel
theorem dX2_mendBetween_49 : decode cX2_mendBetween 49 = .ok (.istore 5, 2) := by decide +kernel
theorem dX2_mendBetween_51 : decode cX2_mendBetween 51 = .ok (.aload_n 0, 1) := by decide +kernel
theorem dX2_mendBetween_52 : decode cX2_mendBetween 52 = .ok (.getfield 15, 3) := by decide +kernel
theorem dX2_mendBetween_55 : decode cX2_mendBetween 55 = .ok (.iload_n 1, 1) := by decide +kernel
theorem dX2_mendBetween_56 : decode cX2_mendBetween 56 = .ok (.iaload, 1) := by decide +kernel
theorem dX2_mendBetween_57 : decode cX2_mendBetween 57 = .ok (.iload 5, 2) := by decide +kernel
theorem dX2_mendBetween_59 : decode cX2_mendBetween 59 = .ok (.iload 4, 2) := by decide +kernel
theorem dX2_mendBetween_61 : decode cX2_mendBetween 61 = .ok (.invokestatic 43, 3) := by decide +kernel
theorem dX2_mendBetween_64 : decode cX2_mendBetween 64 = .ok (.iadd, 1) := by decide +kernel
theorem dX2_mendBetween_65 : decode cX2_mendBetween 65 = .ok (.ireturn, 1) := by decide +kernel
theorem dX2_mendBy_0 : decode cX2_mendBy 0 = .ok (.aload_n 0, 1) := by decide +kernel
theorem dX2_mendBy_1 : decode cX2_mendBy 1 = .ok (.getfield 9, 3) := by decide +kernel
theorem dX2_mendBy_4 : decode cX2_mendBy 4 = .ok (.iload_n 1, 1) := by decide +kernel
theorem dX2_mendBy_5 : decode cX2_mendBy 5 = .ok (.iaload, 1) := by decide +kernel
theorem dX2_mendBy_6 : decode cX2_mendBy 6 = .ok (.istore_n 3, 1) := by decide +kernel
theorem dX2_mendBy_7 : decode cX2_mendBy 7 = .ok (.iload_n 3, 1) := by decide +kernel
theorem dX2_mendBy_8 : decode cX2_mendBy 8 = .ok (.ifCond .ne 6, 3) := by decide +kernel
theorem dX2_mendBy_11 : decode cX2_mendBy 11 = .ok (.ldc 34, 2) := by decide +kernel
theorem dX2_mendBy_13 : decode cX2_mendBy 13 = .ok (.ireturn, 1) := by decide +kernel
theorem dX2_mendBy_14 : decode cX2_mendBy 14 = .ok (.iload_n 2, 1) := by decide +kernel
theorem dX2_mendBy_15 : decode cX2_mendBy 15 = .ok (.i2l, 1) := by decide +kernel
theorem dX2_mendBy_16 : decode cX2_mendBy 16 = .ok (.aload_n 0, 1) := by decide +kernel
theorem dX2_mendBy_17 : decode cX2_mendBy 17 = .ok (.getfield 15, 3) := by decide +kernel
theorem dX2_mendBy_20 : decode cX2_mendBy 20 = .ok (.iload_n 1, 1) := by decide +kernel
theorem dX2_mendBy_21 : decode cX2_mendBy 21 = .ok (.iaload, 1) := by decide +kernel
theorem dX2_mendBy_22 : decode cX2_mendBy 22 = .ok (.i2l, 1) := by decide +kernel
theorem dX2_mendBy_23 : decode cX2_mendBy 23 = .ok (.lmul, 1) := by decide +kernel
theorem dX2_mendBy_24 : decode cX2_mendBy 24 = .ok (.iload_n 3, 1) := by decide +kernel
theorem dX2_mendBy_25 : decode cX2_mendBy 25 = .ok (.i2l, 1) := by decide +kernel
theorem dX2_mendBy_26 : decode cX2_mendBy 26 = .ok (.ldiv, 1) := by decide +kernel
theorem dX2_mendBy_27 : decode cX2_mendBy 27 = .ok (.lstore 4, 2) := by decide +kernel
theorem dX2_mendBy_29 : decode cX2_mendBy 29 = .ok (.lload 4, 2) := by decide +kernel
theorem dX2_mendBy_31 : decode cX2_mendBy 31 = .ok (.ldc2_w 48, 3) := by decide +kernel
theorem dX2_mendBy_34 : decode cX2_mendBy 34 = .ok (.invokestatic 50, 3) := by decide +kernel
theorem dX2_mendBy_37 : decode cX2_mendBy 37 = .ok (.l2i, 1) := by decide +kernel
theorem dX2_mendBy_38 : decode cX2_mendBy 38 = .ok (.ireturn, 1) := by decide +kernel
theorem dX3_init_0 : decode cX3_init 0 = .ok (.aload_n 0, 1) := by decide +kernel
theorem dX3_init_1 : decode cX3_init 1 = .ok (.invokespecial 3, 3) := by decide +kernel
theorem dX3_init_4 : decode cX3_init 4 = .ok (.aload_n 0, 1) := by decide +kernel
theorem dX3_init_5 : decode cX3_init 5 = .ok (.iconst 4, 1) := by decide +kernel
theorem dX3_init_6 : decode cX3_init 6 = .ok (.putfield 9, 3) := by decide +kernel
theorem dX3_init_9 : decode cX3_init 9 = .ok (.aload_n 0, 1) := by decide +kernel
theorem dX3_init_10 : decode cX3_init 10 = .ok (.bipush 10, 2) := by decide +kernel
theorem dX3_init_12 : decode cX3_init 12 = .ok (.newarray .int, 2) := by decide +kernel
theorem dX3_init_14 : decode cX3_init 14 = .ok (.putfield 15, 3) := by decide +kernel
theorem dX3_init_17 : decode cX3_init 17 = .ok (.aload_n 0, 1) := by decide +kernel
theorem dX3_init_18 : decode cX3_init 18 = .ok (.bipush 10, 2) := by decide +kernel
theorem dX3_init_20 : decode cX3_init 20 = .ok (.newarray .int, 2) := by decide +kernel
theorem dX3_init_22 : decode cX3_init 22 = .ok (.putfield 19, 3) := by decide +kernel
theorem dX3_init_25 : decode cX3_init 25 = .ok (.aload_n 0, 1) := by decide +kernel
theorem dX3_init_26 : decode cX3_init 26 = .ok (.bipush 10, 2) := by decide +kernel
theorem dX3_init_28 : decode cX3_init 28 = .ok (.newarray .int, 2) := by decide +kernel
theorem dX3_init_30 : decode cX3_init 30 = .ok (.putfield 22, 3) := by decide +kernel
theorem dX3_init_33 : decode cX3_init 33 = .ok (.return_, 1) := by decide +kernel
theorem dX3_copyFrom_0 : decode cX3_copyFrom 0 = .ok (.aload_n 0, 1) := by decide +kernel
theorem dX3_copyFrom_1 : decode cX3_copyFrom 1 = .ok (.aload_n 1, 1) := by decide +kernel
theorem dX3_copyFrom_2 : decode cX3_copyFrom 2 = .ok (.getfield 9, 3) := by decide +kernel
theorem dX3_copyFrom_5 : decode cX3_copyFrom 5 = .ok (.putfield 9, 3) := by decide +kernel
theorem dX3_copyFrom_8 : decode cX3_copyFrom 8 = .ok (.aload_n 1, 1) := by decide +kernel
theorem dX3_copyFrom_9 : decode cX3_copyFrom 9 = .ok (.getfield 15, 3) := by decide +kernel
theorem dX3_copyFrom_12 : decode cX3_copyFrom 12 = .ok (.iconst 0, 1) := by decide +kernel
theorem dX3_copyFrom_13 : decode cX3_copyFrom 13 = .ok (.aload_n 0, 1) := by decide +kernel
theorem dX3_copyFrom_14 : decode cX3_copyFrom 14 = .ok (.getfield 15, 3) := by decide +kernel
theorem dX3_copyFrom_17 : decode cX3_copyFrom 17 = .ok (.iconst 0, 1) := by decide +kernel
theorem dX3_copyFrom_18 : decode cX3_copyFrom 18 = .ok (.bipush 10, 2) := by decide +kernel
theorem dX3_copyFrom_20 : decode cX3_copyFrom 20 = .ok (.invokestatic 25, 3) := by decide +kernel
theorem dX3_copyFrom_23 : decode cX3_copyFrom 23 = .ok (.aload_n 1, 1) := by decide +kernel
theorem dX3_copyFrom_24 : decode cX3_copyFrom 24 = .ok (.getfield 19, 3) := by decide +kernel
theorem dX3_copyFrom_27 : decode cX3_copyFrom 27 = .ok (.iconst 0, 1) := by decide +kernel
theorem dX3_copyFrom_28 : decode cX3_copyFrom 28 = .ok (.aload_n 0, 1) := by decide +kernel
theorem dX3_copyFrom_29 : decode cX3_copyFrom 29 = .ok (.getfield 19, 3) := by decide +kernel
theorem dX3_copyFrom_32 : decode cX3_copyFrom 32 = .ok (.iconst 0, 1) := by decide +kernel
theorem dX3_copyFrom_33 : decode cX3_copyFrom 33 = .ok (.bipush 10, 2) := by decide +kernel
theorem dX3_copyFrom_35 : decode cX3_copyFrom 35 = .ok (.invokestatic 25, 3) := by decide +kernel
theorem dX3_copyFrom_38 : decode cX3_copyFrom 38 = .ok (.aload_n 1, 1) := by decide +kernel
theorem dX3_copyFrom_39 : decode cX3_copyFrom 39 = .ok (.getfield 22, 3) := by decide +kernel
theorem dX3_copyFrom_42 : decode cX3_copyFrom 42 = .ok (.iconst 0, 1) := by decide +kernel
theorem dX3_copyFrom_43 : decode cX3_copyFrom 43 = .ok (.aload_n 0, 1) := by decide +kernel
theorem dX3_copyFrom_44 : decode cX3_copyFrom 44 = .ok (.getfield 22, 3) := by decide +kernel
theorem dX3_copyFrom_47 : decode cX3_copyFrom 47 = .ok (.iconst 0, 1) := by decide +kernel
theorem dX3_copyFrom_48 : decode cX3_copyFrom 48 = .ok (.bipush 10, 2) := by decide +kernel
theorem dX3_copyFrom_50 : decode cX3_copyFrom 50 = .ok (.invokestatic 25, 3) := by decide +kernel
theorem dX3_copyFrom_53 : decode cX3_copyFrom 53 = .ok (.aload_n 0, 1) := by decide +kernel
theorem dX3_copyFrom_54 : decode cX3_copyFrom 54 = .ok (.aload_n 1, 1) := by decide +kernel
theorem dX3_copyFrom_55 : decode cX3_copyFrom 55 = .ok (.getfield 31, 3) := by decide +kernel
theorem dX3_copyFrom_58 : decode cX3_copyFrom 58 = .ok (.putfield 31, 3) := by decide +kernel
theorem dX3_copyFrom_61 : decode cX3_copyFrom 61 = .ok (.aload_n 0, 1) := by decide +kernel
theorem dX3_copyFrom_62 : decode cX3_copyFrom 62 = .ok (.aload_n 1, 1) := by decide +kernel
theorem dX3_copyFrom_63 : decode cX3_copyFrom 63 = .ok (.getfield 34, 3) := by decide +kernel
theorem dX3_copyFrom_66 : decode cX3_copyFrom 66 = .ok (.putfield 34, 3) := by decide +kernel
theorem dX3_copyFrom_69 : decode cX3_copyFrom 69 = .ok (.aload_n 0, 1) := by decide +kernel
theorem dX3_copyFrom_70 : decode cX3_copyFrom 70 = .ok (.aload_n 1, 1) := by decide +kernel
theorem dX3_copyFrom_71 : decode cX3_copyFrom 71 = .ok (.getfield 37, 3) := by decide +kernel
theorem dX3_copyFrom_74 : decode cX3_copyFrom 74 = .ok (.putfield 37, 3) := by decide +kernel
theorem dX3_copyFrom_77 : decode cX3_copyFrom 77 = .ok (.aload_n 0, 1) := by decide +kernel
theorem dX3_copyFrom_78 : decode cX3_copyFrom 78 = .ok (.aload_n 1, 1) := by decide +kernel
theorem dX3_copyFrom_79 : decode cX3_copyFrom 79 = .ok (.getfield 40, 3) := by decide +kernel
theorem dX3_copyFrom_82 : decode cX3_copyFrom 82 = .ok (.putfield 40, 3) := by decide +kernel
theorem dX3_copyFrom_85 : decode cX3_copyFrom 85 = .ok (.return_, 1) := by decide +kernel
theorem dX3_has_0 : decode cX3_has 0 = .ok (.iload_n 1, 1) := by decide +kernel
theorem dX3_has_1 : decode cX3_has 1 = .ok (.ifCond .lt 15, 3) := by decide +kernel
theorem dX3_has_4 : decode cX3_has 4 = .ok (.iload_n 1, 1) := by decide +kernel
theorem dX3_has_5 : decode cX3_has 5 = .ok (.aload_n 0, 1) := by decide +kernel
theorem dX3_has_6 : decode cX3_has 6 = .ok (.getfield 9, 3) := by decide +kernel
theorem dX3_has_9 : decode cX3_has 9 = .ok (.if_icmp .ge 7, 3) := by decide +kernel
theorem dX3_has_12 : decode cX3_has 12 = .ok (.iconst 1, 1) := by decide +kernel
theorem dX3_has_13 : decode cX3_has 13 = .ok (.goto 4, 3) := by decide +kernel
theorem dX3_has_16 : decode cX3_has 16 = .ok (.iconst 0, 1) := by decide +kernel
theorem dX3_has_17 : decode cX3_has 17 = .ok (.ireturn, 1) := by decide +kernel
theorem dX3_changeShares_0 : decode cX3_changeShares 0 = .ok (.aload_n 0, 1) := by decide +kernel
theorem dX3_changeShares_1 : decode cX3_changeShares 1 = .ok (.getfield 19, 3) := by decide +kernel
theorem dX3_changeShares_4 : decode cX3_changeShares 4 = .ok (.iload_n 1, 1) := by decide +kernel
theorem dX3_changeShares_5 : decode cX3_changeShares 5 = .ok (.iload_n 2, 1) := by decide +kernel
theorem dX3_changeShares_6 : decode cX3_changeShares 6 = .ok (.iastore, 1) := by decide +kernel
theorem dX3_changeShares_7 : decode cX3_changeShares 7 = .ok (.aload_n 0, 1) := by decide +kernel
theorem dX3_changeShares_8 : decode cX3_changeShares 8 = .ok (.getfield 22, 3) := by decide +kernel
theorem dX3_changeShares_11 : decode cX3_changeShares 11 = .ok (.iload_n 1, 1) := by decide +kernel
theorem dX3_changeShares_12 : decode cX3_changeShares 12 = .ok (.iload_n 3, 1) := by decide +kernel
theorem dX3_changeShares_13 : decode cX3_changeShares 13 = .ok (.iastore, 1) := by decide +kernel
theorem dX3_changeShares_14 : decode cX3_changeShares 14 = .ok (.return_, 1) := by decide +kernel
set_option maxRecDepth 20000 in
theorem ggX3_changeMany_X3_changeShares : GoodIn wsX3_changeMany wsX3_changeShares := goodIn_r _ [6, 7, 8, 9, 10, 11, 12, 13, 14, 15, 16] (by decide +kernel) (by decide +kernel)
set_option maxRecDepth 20000 in
theorem gX3_changeMany_X3_changeShares : GoodIn wsX3_changeMany (wsV RX3 43 RX3 yX3_changeShares wsX3_changeShares) := goodIn_app (goodIn_of _ (by decide +kernel)) ggX3_changeMany_X3_changeShares
theorem dX3_changeMany_0 : decode cX3_changeMany 0 = .ok (.iload_n 1, 1) := by decide +kernel
theorem dX3_changeMany_1 : decode cX3_changeMany 1 = .ok (.istore_n 2, 1) := by decide +kernel
theorem dX3_changeMany_2 : decode cX3_changeMany 2 = .ok (.iload_n 2, 1) := by decide +kernel
theorem dX3_changeMany_3 : decode cX3_changeMany 3 = .ok (.bipush 10, 2) := by decide +kernel
theorem dX3_changeMany_5 : decode cX3_changeMany 5 = .ok (.if_icmp .ge 16, 3) := by decide +kernel
theorem dX3_changeMany_8 : decode cX3_changeMany 8 = .ok (.aload_n 0, 1) := by decide +kernel
theorem dX3_changeMany_9 : decode cX3_changeMany 9 = .ok (.iload_n 2, 1) := by decide +kernel
theorem dX3_changeMany_10 : decode cX3_changeMany 10 = .ok (.iconst 0, 1) := by decide +kernel
theorem dX3_changeMany_11 : decode cX3_changeMany 11 = .ok (.iconst 0, 1) := by decide +kernel
theorem dX3_changeMany_12 : decode cX3_changeMany 12 = .ok (.invokevirtual 43, 3) := by decide +kernel
theorem dX3_changeMany_15 : decode cX3_changeMany 15 = .ok (.iinc 2 1, 3) := by decide +kernel
theorem dX3_changeMany_18 : decode cX3_changeMany 18 = .ok (.goto (-16), 3) := by decide +kernel
theorem dX3_changeMany_21 : decode cX3_changeMany 21 = .ok (.aload_n 0, 1) := by decide +kernel
theorem dX3_changeMany_22 : decode cX3_changeMany 22 = .ok (.iload_n 1, 1) := by decide +kernel
theorem dX3_changeMany_23 : decode cX3_changeMany 23 = .ok (.putfield 9, 3) := by decide +kernel
theorem dX3_changeMany_26 : decode cX3_changeMany 26 = .ok (.return_, 1) := by decide +kernel
set_option maxRecDepth 20000 in
theorem ggX3_empty_J7_fill_53178 : GoodIn wsX3_empty wsJ7_fill_53178 := goodIn_r _ [9] (by decide +kernel) (by decide +kernel)
set_option maxRecDepth 20000 in
theorem gX3_empty_J7_fill_53178 : GoodIn wsX3_empty (va_wsS RX3 47 yJ7_fill_53178 wsJ7_fill_53178) := goodIn_app (goodIn_of _ (by decide +kernel)) ggX3_empty_J7_fill_53178
theorem dX3_empty_0 : decode cX3_empty 0 = .ok (.aload_n 0, 1) := by decide +kernel
theorem dX3_empty_1 : decode cX3_empty 1 = .ok (.getfield 15, 3) := by decide +kernel
theorem dX3_empty_4 : decode cX3_empty 4 = .ok (.iconst 0, 1) := by decide +kernel
theorem dX3_empty_5 : decode cX3_empty 5 = .ok (.invokestatic 47, 3) := by decide +kernel
theorem dX3_empty_8 : decode cX3_empty 8 = .ok (.aload_n 0, 1) := by decide +kernel
theorem dX3_empty_9 : decode cX3_empty 9 = .ok (.iconst 0, 1) := by decide +kernel
theorem dX3_empty_10 : decode cX3_empty 10 = .ok (.putfield 31, 3) := by decide +kernel
theorem dX3_empty_13 : decode cX3_empty 13 = .ok (.aload_n 0, 1) := by decide +kernel
theorem dX3_empty_14 : decode cX3_empty 14 = .ok (.iconst 0, 1) := by decide +kernel
theorem dX3_empty_15 : decode cX3_empty 15 = .ok (.putfield 34, 3) := by decide +kernel
theorem dX3_empty_18 : decode cX3_empty 18 = .ok (.aload_n 0, 1) := by decide +kernel
theorem dX3_empty_19 : decode cX3_empty 19 = .ok (.iconst 0, 1) := by decide +kernel
theorem dX3_empty_20 : decode cX3_empty 20 = .ok (.putfield 37, 3) := by decide +kernel
theorem dX3_empty_23 : decode cX3_empty 23 = .ok (.aload_n 0, 1) := by decide +kernel
theorem dX3_empty_24 : decode cX3_empty 24 = .ok (.iconst 0, 1) := by decide +kernel
theorem dX3_empty_25 : decode cX3_empty 25 = .ok (.putfield 40, 3) := by decide +kernel
theorem dX3_empty_28 : decode cX3_empty 28 = .ok (.return_, 1) := by decide +kernel
theorem dX3_inStages_0 : decode cX3_inStages 0 = .ok (.iconst 0, 1) := by decide +kernel
theorem dX3_inStages_1 : decode cX3_inStages 1 = .ok (.istore_n 1, 1) := by decide +kernel
theorem dX3_inStages_2 : decode cX3_inStages 2 = .ok (.iconst 0, 1) := by decide +kernel
theorem dX3_inStages_3 : decode cX3_inStages 3 = .ok (.istore_n 2, 1) := by decide +kernel
theorem dX3_inStages_4 : decode cX3_inStages 4 = .ok (.iload_n 2, 1) := by decide +kernel
theorem dX3_inStages_5 : decode cX3_inStages 5 = .ok (.aload_n 0, 1) := by decide +kernel
theorem dX3_inStages_6 : decode cX3_inStages 6 = .ok (.getfield 9, 3) := by decide +kernel
theorem dX3_inStages_9 : decode cX3_inStages 9 = .ok (.if_icmp .ge 18, 3) := by decide +kernel
theorem dX3_inStages_12 : decode cX3_inStages 12 = .ok (.iload_n 1, 1) := by decide +kernel
theorem dX3_inStages_13 : decode cX3_inStages 13 = .ok (.aload_n 0, 1) := by decide +kernel
theorem dX3_inStages_14 : decode cX3_inStages 14 = .ok (.getfield 15, 3) := by decide +kernel
theorem dX3_inStages_17 : decode cX3_inStages 17 = .ok (.iload_n 2, 1) := by decide +kernel
theorem dX3_inStages_18 : decode cX3_inStages 18 = .ok (.iaload, 1) := by decide +kernel
theorem dX3_inStages_19 : decode cX3_inStages 19 = .ok (.iadd, 1) := by decide +kernel
theorem dX3_inStages_20 : decode cX3_inStages 20 = .ok (.istore_n 1, 1) := by decide +kernel
theorem dX3_inStages_21 : decode cX3_inStages 21 = .ok (.iinc 2 1, 3) := by decide +kernel
theorem dX3_inStages_24 : decode cX3_inStages 24 = .ok (.goto (-20), 3) := by decide +kernel
theorem dX3_inStages_27 : decode cX3_inStages 27 = .ok (.iload_n 1, 1) := by decide +kernel
theorem dX3_inStages_28 : decode cX3_inStages 28 = .ok (.ireturn, 1) := by decide +kernel
theorem dX3_staying_0 : decode cX3_staying 0 = .ok (.aload_n 0, 1) := by decide +kernel
theorem dX3_staying_1 : decode cX3_staying 1 = .ok (.getfield 15, 3) := by decide +kernel
theorem dX3_staying_4 : decode cX3_staying 4 = .ok (.iload_n 1, 1) := by decide +kernel
theorem dX3_staying_5 : decode cX3_staying 5 = .ok (.iaload, 1) := by decide +kernel
theorem dX3_staying_6 : decode cX3_staying 6 = .ok (.aload_n 0, 1) := by decide +kernel
theorem dX3_staying_7 : decode cX3_staying 7 = .ok (.getfield 19, 3) := by decide +kernel
theorem dX3_staying_10 : decode cX3_staying 10 = .ok (.iload_n 1, 1) := by decide +kernel
theorem dX3_staying_11 : decode cX3_staying 11 = .ok (.iaload, 1) := by decide +kernel
theorem dX3_staying_12 : decode cX3_staying 12 = .ok (.imul, 1) := by decide +kernel
theorem dX3_staying_13 : decode cX3_staying 13 = .ok (.sipush 1000, 3) := by decide +kernel
theorem dX3_staying_16 : decode cX3_staying 16 = .ok (.idiv, 1) := by decide +kernel
theorem dX3_staying_17 : decode cX3_staying 17 = .ok (.ireturn, 1) := by decide +kernel
set_option maxRecDepth 20000 in
theorem ggX3_leaking_X3_staying : GoodIn wsX3_leaking wsX3_staying := goodIn_r _ [7, 1, 8, 9, 10, 11, 12, 13, 14, 15, 16] (by decide +kernel) (by decide +kernel)
set_option maxRecDepth 20000 in
theorem gX3_leaking_X3_staying : GoodIn wsX3_leaking (wsV RX3 53 RX3 yX3_staying wsX3_staying) := goodIn_app (goodIn_of _ (by decide +kernel)) ggX3_leaking_X3_staying
theorem dX3_leaking_0 : decode cX3_leaking 0 = .ok (.aload_n 0, 1) := by decide +kernel
theorem dX3_leaking_1 : decode cX3_leaking 1 = .ok (.getfield 15, 3) := by decide +kernel
theorem dX3_leaking_4 : decode cX3_leaking 4 = .ok (.iload_n 1, 1) := by decide +kernel
theorem dX3_leaking_5 : decode cX3_leaking 5 = .ok (.iaload, 1) := by decide +kernel
theorem dX3_leaking_6 : decode cX3_leaking 6 = .ok (.aload_n 0, 1) := by decide +kernel
theorem dX3_leaking_7 : decode cX3_leaking 7 = .ok (.iload_n 1, 1) := by decide +kernel
theorem dX3_leaking_8 : decode cX3_leaking 8 = .ok (.invokevirtual 53, 3) := by decide +kernel
theorem dX3_leaking_11 : decode cX3_leaking 11 = .ok (.isub, 1) := by decide +kernel
theorem dX3_leaking_12 : decode cX3_leaking 12 = .ok (.aload_n 0, 1) := by decide +kernel
theorem dX3_leaking_13 : decode cX3_leaking 13 = .ok (.getfield 22, 3) := by decide +kernel
theorem dX3_leaking_16 : decode cX3_leaking 16 = .ok (.iload_n 1, 1) := by decide +kernel
theorem dX3_leaking_17 : decode cX3_leaking 17 = .ok (.iaload, 1) := by decide +kernel
theorem dX3_leaking_18 : decode cX3_leaking 18 = .ok (.imul, 1) := by decide +kernel
theorem dX3_leaking_19 : decode cX3_leaking 19 = .ok (.sipush 1000, 3) := by decide +kernel
theorem dX3_leaking_22 : decode cX3_leaking 22 = .ok (.idiv, 1) := by decide +kernel
theorem dX3_leaking_23 : decode cX3_leaking 23 = .ok (.ireturn, 1) := by decide +kernel
set_option maxRecDepth 20000 in
theorem ggX3_leaving_X3_staying : GoodIn wsX3_leaving wsX3_staying := goodIn_r _ [6, 1, 7, 13, 14, 15, 16, 17, 18, 19, 20] (by decide +kernel) (by decide +kernel)
set_option maxRecDepth 20000 in
theorem gX3_leaving_X3_staying : GoodIn wsX3_leaving (wsV RX3 53 RX3 yX3_staying wsX3_staying) := goodIn_app (goodIn_of _ (by decide +kernel)) ggX3_leaving_X3_staying
set_option maxRecDepth 20000 in
theorem ggX3_leaving_X3_leaking : GoodIn wsX3_leaving wsX3_leaking := goodIn_r _ [11, 1, 12, 2, 3, 4, 5, 6, 7, 13, 14, 15, 16, 17, 18, 19, 20] (by decide +kernel) (by decide +kernel)
set_option maxRecDepth 20000 in
theorem gX3_leaving_X3_leaking : GoodIn wsX3_leaving (wsV RX3 57 RX3 yX3_leaking wsX3_leaking) := goodIn_app (goodIn_of _ (by decide +kernel)) ggX3_leaving_X3_leaking
theorem dX3_leaving_0 : decode cX3_leaving 0 = .ok (.aload_n 0, 1) := by decide +kernel
theorem dX3_leaving_1 : decode cX3_leaving 1 = .ok (.getfield 15, 3) := by decide +kernel
theorem dX3_leaving_4 : decode cX3_leaving 4 = .ok (.iload_n 1, 1) := by decide +kernel
theorem dX3_leaving_5 : decode cX3_leaving 5 = .ok (.iaload, 1) := by decide +kernel
theorem dX3_leaving_6 : decode cX3_leaving 6 = .ok (.aload_n 0, 1) := by decide +kernel
theorem dX3_leaving_7 : decode cX3_leaving 7 = .ok (.iload_n 1, 1) := by decide +kernel
theorem dX3_leaving_8 : decode cX3_leaving 8 = .ok (.invokevirtual 53, 3) := by decide +kernel
theorem dX3_leaving_11 : decode cX3_leaving 11 = .ok (.isub, 1) := by decide +kernel
theorem dX3_leaving_12 : decode cX3_leaving 12 = .ok (.aload_n 0, 1) := by decide +kernel
theorem dX3_leaving_13 : decode cX3_leaving 13 = .ok (.iload_n 1, 1) := by decide +kernel
theorem dX3_leaving_14 : decode cX3_leaving 14 = .ok (.invokevirtual 57, 3) := by decide +kernel
theorem dX3_leaving_17 : decode cX3_leaving 17 = .ok (.isub, 1) := by decide +kernel
theorem dX3_leaving_18 : decode cX3_leaving 18 = .ok (.ireturn, 1) := by decide +kernel
set_option maxRecDepth 20000 in
theorem ggX3_handOver_X3_staying : GoodIn wsX3_handOver wsX3_staying := goodIn_r _ [15, 2, 16, 22, 23, 24, 25, 26, 27, 28, 29] (by decide +kernel) (by decide +kernel)
set_option maxRecDepth 20000 in
theorem gX3_handOver_X3_staying : GoodIn wsX3_handOver (wsV RX3 53 RX3 yX3_staying wsX3_staying) := goodIn_app (goodIn_of _ (by decide +kernel)) ggX3_handOver_X3_staying
set_option maxRecDepth 20000 in
theorem ggX3_handOver_X3_leaking : GoodIn wsX3_handOver wsX3_leaking := goodIn_r _ [20, 2, 21, 11, 12, 13, 14, 15, 16, 22, 23, 24, 25, 26, 27, 28, 29] (by decide +kernel) (by decide +kernel)
set_option maxRecDepth 20000 in
theorem gX3_handOver_X3_leaking : GoodIn wsX3_handOver (wsV RX3 57 RX3 yX3_leaking wsX3_leaking) := goodIn_app (goodIn_of _ (by decide +kernel)) ggX3_handOver_X3_leaking
theorem dX3_handOver_0 : decode cX3_handOver 0 = .ok (.iload_n 1, 1) := by decide +kernel
theorem dX3_handOver_1 : decode cX3_handOver 1 = .ok (.istore_n 3, 1) := by decide +kernel
theorem dX3_handOver_2 : decode cX3_handOver 2 = .ok (.iconst 0, 1) := by decide +kernel
theorem dX3_handOver_3 : decode cX3_handOver 3 = .ok (.istore 4, 2) := by decide +kernel
theorem dX3_handOver_5 : decode cX3_handOver 5 = .ok (.iload 4, 2) := by decide +kernel
theorem dX3_handOver_7 : decode cX3_handOver 7 = .ok (.aload_n 0, 1) := by decide +kernel
theorem dX3_handOver_8 : decode cX3_handOver 8 = .ok (.getfield 9, 3) := by decide +kernel
theorem dX3_handOver_11 : decode cX3_handOver 11 = .ok (.if_icmp .ge 92, 3) := by decide +kernel
theorem dX3_handOver_14 : decode cX3_handOver 14 = .ok (.aload_n 0, 1) := by decide +kernel
theorem dX3_handOver_15 : decode cX3_handOver 15 = .ok (.iload 4, 2) := by decide +kernel
theorem dX3_handOver_17 : decode cX3_handOver 17 = .ok (.invokevirtual 53, 3) := by decide +kernel
theorem dX3_handOver_20 : decode cX3_handOver 20 = .ok (.istore 5, 2) := by decide +kernel
theorem dX3_handOver_22 : decode cX3_handOver 22 = .ok (.aload_n 0, 1) := by decide +kernel
theorem dX3_handOver_23 : decode cX3_handOver 23 = .ok (.iload 4, 2) := by decide +kernel
theorem dX3_handOver_25 : decode cX3_handOver 25 = .ok (.invokevirtual 57, 3) := by decide +kernel
theorem dX3_handOver_28 : decode cX3_handOver 28 = .ok (.istore 6, 2) := by decide +kernel
theorem dX3_handOver_30 : decode cX3_handOver 30 = .ok (.aload_n 0, 1) := by decide +kernel
theorem dX3_handOver_31 : decode cX3_handOver 31 = .ok (.getfield 15, 3) := by decide +kernel
theorem dX3_handOver_34 : decode cX3_handOver 34 = .ok (.iload 4, 2) := by decide +kernel
theorem dX3_handOver_36 : decode cX3_handOver 36 = .ok (.iaload, 1) := by decide +kernel
theorem dX3_handOver_37 : decode cX3_handOver 37 = .ok (.iload 5, 2) := by decide +kernel
theorem dX3_handOver_39 : decode cX3_handOver 39 = .ok (.isub, 1) := by decide +kernel
theorem dX3_handOver_40 : decode cX3_handOver 40 = .ok (.iload 6, 2) := by decide +kernel
theorem dX3_handOver_42 : decode cX3_handOver 42 = .ok (.isub, 1) := by decide +kernel
theorem dX3_handOver_43 : decode cX3_handOver 43 = .ok (.istore 7, 2) := by decide +kernel
theorem dX3_handOver_45 : decode cX3_handOver 45 = .ok (.iload 5, 2) := by decide +kernel
theorem dX3_handOver_47 : decode cX3_handOver 47 = .ok (.iload_n 3, 1) := by decide +kernel
theorem dX3_handOver_48 : decode cX3_handOver 48 = .ok (.iadd, 1) := by decide +kernel
theorem dX3_handOver_49 : decode cX3_handOver 49 = .ok (.istore 8, 2) := by decide +kernel
theorem dX3_handOver_51 : decode cX3_handOver 51 = .ok (.aload_n 0, 1) := by decide +kernel
theorem dX3_handOver_52 : decode cX3_handOver 52 = .ok (.getfield 15, 3) := by decide +kernel
theorem dX3_handOver_55 : decode cX3_handOver 55 = .ok (.iload 4, 2) := by decide +kernel
theorem dX3_handOver_57 : decode cX3_handOver 57 = .ok (.iload 8, 2) := by decide +kernel
theorem dX3_handOver_59 : decode cX3_handOver 59 = .ok (.iload_n 2, 1) := by decide +kernel
theorem dX3_handOver_60 : decode cX3_handOver 60 = .ok (.invokestatic 60, 3) := by decide +kernel
theorem dX3_handOver_63 : decode cX3_handOver 63 = .ok (.iastore, 1) := by decide +kernel
theorem dX3_handOver_64 : decode cX3_handOver 64 = .ok (.aload_n 0, 1) := by decide +kernel
theorem dX3_handOver_65 : decode cX3_handOver 65 = .ok (.dup, 1) := by decide +kernel
theorem dX3_handOver_66 : decode cX3_handOver 66 = .ok (.getfield 40, 3) := by decide +kernel
theorem dX3_handOver_69 : decode cX3_handOver 69 = .ok (.iload 8, 2) := by decide +kernel
theorem dX3_handOver_71 : decode cX3_handOver 71 = .ok (.aload_n 0, 1) := by decide +kernel
theorem dX3_handOver_72 : decode cX3_handOver 72 = .ok (.getfield 15, 3) := by decide +kernel
theorem dX3_handOver_75 : decode cX3_handOver 75 = .ok (.iload 4, 2) := by decide +kernel
theorem dX3_handOver_77 : decode cX3_handOver 77 = .ok (.iaload, 1) := by decide +kernel
theorem dX3_handOver_78 : decode cX3_handOver 78 = .ok (.isub, 1) := by decide +kernel
theorem dX3_handOver_79 : decode cX3_handOver 79 = .ok (.iadd, 1) := by decide +kernel
theorem dX3_handOver_80 : decode cX3_handOver 80 = .ok (.putfield 40, 3) := by decide +kernel
theorem dX3_handOver_83 : decode cX3_handOver 83 = .ok (.aload_n 0, 1) := by decide +kernel
theorem dX3_handOver_84 : decode cX3_handOver 84 = .ok (.dup, 1) := by decide +kernel
theorem dX3_handOver_85 : decode cX3_handOver 85 = .ok (.getfield 37, 3) := by decide +kernel
theorem dX3_handOver_88 : decode cX3_handOver 88 = .ok (.iload 6, 2) := by decide +kernel
theorem dX3_handOver_90 : decode cX3_handOver 90 = .ok (.iadd, 1) := by decide +kernel
theorem dX3_handOver_91 : decode cX3_handOver 91 = .ok (.putfield 37, 3) := by decide +kernel
theorem dX3_handOver_94 : decode cX3_handOver 94 = .ok (.iload 7, 2) := by decide +kernel
theorem dX3_handOver_96 : decode cX3_handOver 96 = .ok (.istore_n 3, 1) := by decide +kernel
theorem dX3_handOver_97 : decode cX3_handOver 97 = .ok (.iinc 4 1, 3) := by decide +kernel
theorem dX3_handOver_100 : decode cX3_handOver 100 = .ok (.goto (-95), 3) := by decide +kernel
theorem dX3_handOver_103 : decode cX3_handOver 103 = .ok (.aload_n 0, 1) := by decide +kernel
theorem dX3_handOver_104 : decode cX3_handOver 104 = .ok (.dup, 1) := by decide +kernel
theorem dX3_handOver_105 : decode cX3_handOver 105 = .ok (.getfield 31, 3) := by decide +kernel
theorem dX3_handOver_108 : decode cX3_handOver 108 = .ok (.iload_n 1, 1) := by decide +kernel
theorem dX3_handOver_109 : decode cX3_handOver 109 = .ok (.iadd, 1) := by decide +kernel
theorem dX3_handOver_110 : decode cX3_handOver 110 = .ok (.putfield 31, 3) := by decide +kernel
theorem dX3_handOver_113 : decode cX3_handOver 113 = .ok (.aload_n 0, 1) := by decide +kernel
theorem dX3_handOver_114 : decode cX3_handOver 114 = .ok (.dup, 1) := by decide +kernel
theorem dX3_handOver_115 : decode cX3_handOver 115 = .ok (.getfield 34, 3) := by decide +kernel
theorem dX3_handOver_118 : decode cX3_handOver 118 = .ok (.iload_n 3, 1) := by decide +kernel
theorem dX3_handOver_119 : decode cX3_handOver 119 = .ok (.iadd, 1) := by decide +kernel
theorem dX3_handOver_120 : decode cX3_handOver 120 = .ok (.putfield 34, 3) := by decide +kernel
theorem dX3_handOver_123 : decode cX3_handOver 123 = .ok (.iload_n 3, 1) := by decide +kernel
theorem dX3_handOver_124 : decode cX3_handOver 124 = .ok (.ireturn, 1) := by decide +kernel
set_option maxRecDepth 20000 in
theorem ggX3_outputOfLone_X3_empty : GoodIn wsX3_outputOfLone wsX3_empty := goodIn_r _ [5, 6, 7, 8, 9, 10, 11, 12, 13, 14, 34, 35, 36, 37, 38, 39, 40, 41] (by decide +kernel) (by decide +kernel)
set_option maxRecDepth 20000 in
theorem gX3_outputOfLone_X3_empty : GoodIn wsX3_outputOfLone (wsV RX3 66 RX3 yX3_empty wsX3_empty) := goodIn_app (goodIn_of _ (by decide +kernel)) ggX3_outputOfLone_X3_empty
set_option maxRecDepth 20000 in
theorem ggX3_outputOfLone_X3_handOver : GoodIn wsX3_outputOfLone wsX3_handOver := goodIn_r _ [18, 19, 6, 20, 21, 22, 23, 10, 9, 7, 8, 24, 25, 26, 4, 27, 28, 29, 30, 31, 32, 33, 34, 35, 36, 37, 38, 39, 40, 41] (by decide +kernel) (by decide +kernel)
set_option maxRecDepth 20000 in
theorem gX3_outputOfLone_X3_handOver : GoodIn wsX3_outputOfLone (wsV RX3 69 RX3 yX3_handOver wsX3_handOver) := goodIn_app (goodIn_of _ (by decide +kernel)) ggX3_outputOfLone_X3_handOver
theorem dX3_outputOfLone_0 : decode cX3_outputOfLone 0 = .ok (.aload_n 0, 1) := by decide +kernel
theorem dX3_outputOfLone_1 : decode cX3_outputOfLone 1 = .ok (.invokevirtual 66, 3) := by decide +kernel
theorem dX3_outputOfLone_4 : decode cX3_outputOfLone 4 = .ok (.aload_n 0, 1) := by decide +kernel
theorem dX3_outputOfLone_5 : decode cX3_outputOfLone 5 = .ok (.iload_n 1, 1) := by decide +kernel
theorem dX3_outputOfLone_6 : decode cX3_outputOfLone 6 = .ok (.iload_n 3, 1) := by decide +kernel
theorem dX3_outputOfLone_7 : decode cX3_outputOfLone 7 = .ok (.invokevirtual 69, 3) := by decide +kernel
theorem dX3_outputOfLone_10 : decode cX3_outputOfLone 10 = .ok (.istore 4, 2) := by decide +kernel
theorem dX3_outputOfLone_12 : decode cX3_outputOfLone 12 = .ok (.iconst 0, 1) := by decide +kernel
theorem dX3_outputOfLone_13 : decode cX3_outputOfLone 13 = .ok (.istore 5, 2) := by decide +kernel
theorem dX3_outputOfLone_15 : decode cX3_outputOfLone 15 = .ok (.iload 5, 2) := by decide +kernel
theorem dX3_outputOfLone_17 : decode cX3_outputOfLone 17 = .ok (.iload_n 2, 1) := by decide +kernel
theorem dX3_outputOfLone_18 : decode cX3_outputOfLone 18 = .ok (.if_icmp .ge 17, 3) := by decide +kernel
theorem dX3_outputOfLone_21 : decode cX3_outputOfLone 21 = .ok (.aload_n 0, 1) := by decide +kernel
theorem dX3_outputOfLone_22 : decode cX3_outputOfLone 22 = .ok (.iconst 0, 1) := by decide +kernel
theorem dX3_outputOfLone_23 : decode cX3_outputOfLone 23 = .ok (.iload_n 3, 1) := by decide +kernel
theorem dX3_outputOfLone_24 : decode cX3_outputOfLone 24 = .ok (.invokevirtual 69, 3) := by decide +kernel
theorem dX3_outputOfLone_27 : decode cX3_outputOfLone 27 = .ok (.istore 4, 2) := by decide +kernel
theorem dX3_outputOfLone_29 : decode cX3_outputOfLone 29 = .ok (.iinc 5 1, 3) := by decide +kernel
theorem dX3_outputOfLone_32 : decode cX3_outputOfLone 32 = .ok (.goto (-17), 3) := by decide +kernel
theorem dX3_outputOfLone_35 : decode cX3_outputOfLone 35 = .ok (.iload 4, 2) := by decide +kernel
theorem dX3_outputOfLone_37 : decode cX3_outputOfLone 37 = .ok (.ireturn, 1) := by decide +kernel
set_option maxRecDepth 20000 in
theorem ggX3_holds_X3_empty : GoodIn wsX3_holds wsX3_empty := goodIn_r _ [6, 7, 8, 9, 10, 1, 11, 12, 13, 14, 34, 35, 36, 37, 38, 39, 40, 41] (by decide +kernel) (by decide +kernel)
set_option maxRecDepth 20000 in
theorem gX3_holds_X3_empty : GoodIn wsX3_holds (wsV RX3 66 RX3 yX3_empty wsX3_empty) := goodIn_app (goodIn_of _ (by decide +kernel)) ggX3_holds_X3_empty
set_option maxRecDepth 20000 in
theorem ggX3_holds_X3_handOver : GoodIn wsX3_holds wsX3_handOver := goodIn_r _ [18, 19, 7, 20, 21, 22, 23, 1, 10, 8, 9, 24, 25, 26, 5, 27, 28, 29, 30, 31, 32, 33, 34, 35, 36, 37, 38, 39, 40, 41] (by decide +kernel) (by decide +kernel)
set_option maxRecDepth 20000 in
theorem gX3_holds_X3_handOver : GoodIn wsX3_holds (wsV RX3 69 RX3 yX3_handOver wsX3_handOver) := goodIn_app (goodIn_of _ (by decide +kernel)) ggX3_holds_X3_handOver
theorem dX3_holds_0 : decode cX3_holds 0 = .ok (.aload_n 0, 1) := by decide +kernel
theorem dX3_holds_1 : decode cX3_holds 1 = .ok (.invokevirtual 66, 3) := by decide +kernel
theorem dX3_holds_4 : decode cX3_holds 4 = .ok (.iconst 0, 1) := by decide +kernel
theorem dX3_holds_5 : decode cX3_holds 5 = .ok (.istore 4, 2) := by decide +kernel
theorem dX3_holds_7 : decode cX3_holds 7 = .ok (.iload 4, 2) := by decide +kernel
theorem dX3_holds_9 : decode cX3_holds 9 = .ok (.iload_n 2, 1) := by decide +kernel
theorem dX3_holds_10 : decode cX3_holds 10 = .ok (.if_icmp .ge 23, 3) := by decide +kernel
theorem dX3_holds_13 : decode cX3_holds 13 = .ok (.aload_n 0, 1) := by decide +kernel
theorem dX3_holds_14 : decode cX3_holds 14 = .ok (.getfield 40, 3) := by decide +kernel
theorem dX3_holds_17 : decode cX3_holds 17 = .ok (.ifCond .ne 16, 3) := by decide +kernel
theorem dX3_holds_20 : decode cX3_holds 20 = .ok (.aload_n 0, 1) := by decide +kernel
theorem dX3_holds_21 : decode cX3_holds 21 = .ok (.iload_n 1, 1) := by decide +kernel
theorem dX3_holds_22 : decode cX3_holds 22 = .ok (.iload_n 3, 1) := by decide +kernel
theorem dX3_holds_23 : decode cX3_holds 23 = .ok (.invokevirtual 69, 3) := by decide +kernel
theorem dX3_holds_26 : decode cX3_holds 26 = .ok (.pop, 1) := by decide +kernel
theorem dX3_holds_27 : decode cX3_holds 27 = .ok (.iinc 4 1, 3) := by decide +kernel
theorem dX3_holds_30 : decode cX3_holds 30 = .ok (.goto (-23), 3) := by decide +kernel
theorem dX3_holds_33 : decode cX3_holds 33 = .ok (.aload_n 0, 1) := by decide +kernel
theorem dX3_holds_34 : decode cX3_holds 34 = .ok (.getfield 40, 3) := by decide +kernel
theorem dX3_holds_37 : decode cX3_holds 37 = .ok (.ifCond .ne 7, 3) := by decide +kernel
theorem dX3_holds_40 : decode cX3_holds 40 = .ok (.iconst 1, 1) := by decide +kernel
theorem dX3_holds_41 : decode cX3_holds 41 = .ok (.goto 4, 3) := by decide +kernel
theorem dX3_holds_44 : decode cX3_holds 44 = .ok (.iconst 0, 1) := by decide +kernel
theorem dX3_holds_45 : decode cX3_holds 45 = .ok (.ireturn, 1) := by decide +kernel
theorem dX4_init_0 : decode cX4_init 0 = .ok (.aload_n 0, 1) := by decide +kernel
theorem dX4_init_1 : decode cX4_init 1 = .ok (.invokespecial 3, 3) := by decide +kernel
theorem dX4_init_4 : decode cX4_init 4 = .ok (.aload_n 0, 1) := by decide +kernel
theorem dX4_init_5 : decode cX4_init 5 = .ok (.bipush 60, 2) := by decide +kernel
theorem dX4_init_7 : decode cX4_init 7 = .ok (.newarray .char, 2) := by decide +kernel
theorem dX4_init_9 : decode cX4_init 9 = .ok (.putfield 9, 3) := by decide +kernel
theorem dX4_init_12 : decode cX4_init 12 = .ok (.aload_n 0, 1) := by decide +kernel
theorem dX4_init_13 : decode cX4_init 13 = .ok (.iconst 3, 1) := by decide +kernel
theorem dX4_init_14 : decode cX4_init 14 = .ok (.newarray .int, 2) := by decide +kernel
theorem dX4_init_16 : decode cX4_init 16 = .ok (.putfield 15, 3) := by decide +kernel
theorem dX4_init_19 : decode cX4_init 19 = .ok (.return_, 1) := by decide +kernel
theorem dX4_append_0 : decode cX4_append 0 = .ok (.aload_n 0, 1) := by decide +kernel
theorem dX4_append_1 : decode cX4_append 1 = .ok (.getfield 19, 3) := by decide +kernel
theorem dX4_append_4 : decode cX4_append 4 = .ok (.bipush 60, 2) := by decide +kernel
theorem dX4_append_6 : decode cX4_append 6 = .ok (.if_icmp .ge 23, 3) := by decide +kernel
theorem dX4_append_9 : decode cX4_append 9 = .ok (.aload_n 0, 1) := by decide +kernel
theorem dX4_append_10 : decode cX4_append 10 = .ok (.getfield 9, 3) := by decide +kernel
theorem dX4_append_13 : decode cX4_append 13 = .ok (.aload_n 0, 1) := by decide +kernel
theorem dX4_append_14 : decode cX4_append 14 = .ok (.getfield 19, 3) := by decide +kernel
theorem dX4_append_17 : decode cX4_append 17 = .ok (.iload_n 1, 1) := by decide +kernel
theorem dX4_append_18 : decode cX4_append 18 = .ok (.castore, 1) := by decide +kernel
theorem dX4_append_19 : decode cX4_append 19 = .ok (.aload_n 0, 1) := by decide +kernel
theorem dX4_append_20 : decode cX4_append 20 = .ok (.dup, 1) := by decide +kernel
theorem dX4_append_21 : decode cX4_append 21 = .ok (.getfield 19, 3) := by decide +kernel
theorem dX4_append_24 : decode cX4_append 24 = .ok (.iconst 1, 1) := by decide +kernel
theorem dX4_append_25 : decode cX4_append 25 = .ok (.iadd, 1) := by decide +kernel
theorem dX4_append_26 : decode cX4_append 26 = .ok (.putfield 19, 3) := by decide +kernel
theorem dX4_append_29 : decode cX4_append 29 = .ok (.return_, 1) := by decide +kernel
theorem dX4_clear_0 : decode cX4_clear 0 = .ok (.aload_n 0, 1) := by decide +kernel
theorem dX4_clear_1 : decode cX4_clear 1 = .ok (.iconst 0, 1) := by decide +kernel
theorem dX4_clear_2 : decode cX4_clear 2 = .ok (.putfield 19, 3) := by decide +kernel
theorem dX4_clear_5 : decode cX4_clear 5 = .ok (.return_, 1) := by decide +kernel
set_option maxRecDepth 20000 in
theorem ggX4_faultPosition_X4_readPart : GoodIn wsX4_faultPosition wsX4_readPart := goodIn_r _ [12, 6, 4, 7, 13, 5, 14, 15, 16, 17, 11, 18, 19, 20, 21, 22, 3, 23, 24, 25, 26, 27, 28, 29, 30, 31, 32, 33, 34, 35, 36, 37, 38, 39, 40, 41, 42, 43, 44] (by decide +kernel) (by decide +kernel)
set_option maxRecDepth 20000 in
theorem gX4_faultPosition_X4_readPart : GoodIn wsX4_faultPosition (wsV RX4 29 RX4 yX4_readPart wsX4_readPart) := goodIn_app (goodIn_of _ (by decide +kernel)) ggX4_faultPosition_X4_readPart
theorem dX4_faultPosition_0 : decode cX4_faultPosition 0 = .ok (.aload_n 0, 1) := by decide +kernel
theorem dX4_faultPosition_1 : decode cX4_faultPosition 1 = .ok (.iconst 0, 1) := by decide +kernel
theorem dX4_faultPosition_2 : decode cX4_faultPosition 2 = .ok (.putfield 23, 3) := by decide +kernel
theorem dX4_faultPosition_5 : decode cX4_faultPosition 5 = .ok (.aload_n 0, 1) := by decide +kernel
theorem dX4_faultPosition_6 : decode cX4_faultPosition 6 = .ok (.iconst 0, 1) := by decide +kernel
theorem dX4_faultPosition_7 : decode cX4_faultPosition 7 = .ok (.putfield 26, 3) := by decide +kernel
theorem dX4_faultPosition_10 : decode cX4_faultPosition 10 = .ok (.iconst 0, 1) := by decide +kernel
theorem dX4_faultPosition_11 : decode cX4_faultPosition 11 = .ok (.istore_n 2, 1) := by decide +kernel
theorem dX4_faultPosition_12 : decode cX4_faultPosition 12 = .ok (.aload_n 0, 1) := by decide +kernel
theorem dX4_faultPosition_13 : decode cX4_faultPosition 13 = .ok (.getfield 23, 3) := by decide +kernel
theorem dX4_faultPosition_16 : decode cX4_faultPosition 16 = .ok (.bipush 60, 2) := by decide +kernel
theorem dX4_faultPosition_18 : decode cX4_faultPosition 18 = .ok (.if_icmp .ge 67, 3) := by decide +kernel
theorem dX4_faultPosition_21 : decode cX4_faultPosition 21 = .ok (.iload_n 2, 1) := by decide +kernel
theorem dX4_faultPosition_22 : decode cX4_faultPosition 22 = .ok (.aload_n 0, 1) := by decide +kernel
theorem dX4_faultPosition_23 : decode cX4_faultPosition 23 = .ok (.getfield 19, 3) := by decide +kernel
theorem dX4_faultPosition_26 : decode cX4_faultPosition 26 = .ok (.if_icmp .ge 59, 3) := by decide +kernel
theorem dX4_faultPosition_29 : decode cX4_faultPosition 29 = .ok (.aload_n 0, 1) := by decide +kernel
theorem dX4_faultPosition_30 : decode cX4_faultPosition 30 = .ok (.iload_n 2, 1) := by decide +kernel
theorem dX4_faultPosition_31 : decode cX4_faultPosition 31 = .ok (.iload_n 1, 1) := by decide +kernel
theorem dX4_faultPosition_32 : decode cX4_faultPosition 32 = .ok (.invokevirtual 29, 3) := by decide +kernel
theorem dX4_faultPosition_35 : decode cX4_faultPosition 35 = .ok (.aload_n 0, 1) := by decide +kernel
theorem dX4_faultPosition_36 : decode cX4_faultPosition 36 = .ok (.getfield 33, 3) := by decide +kernel
theorem dX4_faultPosition_39 : decode cX4_faultPosition 39 = .ok (.ifCond .eq 5, 3) := by decide +kernel
theorem dX4_faultPosition_42 : decode cX4_faultPosition 42 = .ok (.iload_n 2, 1) := by decide +kernel
theorem dX4_faultPosition_43 : decode cX4_faultPosition 43 = .ok (.ireturn, 1) := by decide +kernel
theorem dX4_faultPosition_44 : decode cX4_faultPosition 44 = .ok (.aload_n 0, 1) := by decide +kernel
theorem dX4_faultPosition_45 : decode cX4_faultPosition 45 = .ok (.dup, 1) := by decide +kernel
theorem dX4_faultPosition_46 : decode cX4_faultPosition 46 = .ok (.getfield 23, 3) := by decide +kernel
theorem dX4_faultPosition_49 : decode cX4_faultPosition 49 = .ok (.iconst 1, 1) := by decide +kernel
theorem dX4_faultPosition_50 : decode cX4_faultPosition 50 = .ok (.iadd, 1) := by decide +kernel
theorem dX4_faultPosition_51 : decode cX4_faultPosition 51 = .ok (.putfield 23, 3) := by decide +kernel
theorem dX4_faultPosition_54 : decode cX4_faultPosition 54 = .ok (.aload_n 0, 1) := by decide +kernel
theorem dX4_faultPosition_55 : decode cX4_faultPosition 55 = .ok (.dup, 1) := by decide +kernel
theorem dX4_faultPosition_56 : decode cX4_faultPosition 56 = .ok (.getfield 26, 3) := by decide +kernel
theorem dX4_faultPosition_59 : decode cX4_faultPosition 59 = .ok (.aload_n 0, 1) := by decide +kernel
theorem dX4_faultPosition_60 : decode cX4_faultPosition 60 = .ok (.getfield 36, 3) := by decide +kernel
theorem dX4_faultPosition_63 : decode cX4_faultPosition 63 = .ok (.bipush 115, 2) := by decide +kernel
theorem dX4_faultPosition_65 : decode cX4_faultPosition 65 = .ok (.if_icmp .ne 7, 3) := by decide +kernel
theorem dX4_faultPosition_68 : decode cX4_faultPosition 68 = .ok (.iconst 1, 1) := by decide +kernel
theorem dX4_faultPosition_69 : decode cX4_faultPosition 69 = .ok (.goto 4, 3) := by decide +kernel
theorem dX4_faultPosition_72 : decode cX4_faultPosition 72 = .ok (.iconst 0, 1) := by decide +kernel
theorem dX4_faultPosition_73 : decode cX4_faultPosition 73 = .ok (.iadd, 1) := by decide +kernel
theorem dX4_faultPosition_74 : decode cX4_faultPosition 74 = .ok (.putfield 26, 3) := by decide +kernel
theorem dX4_faultPosition_77 : decode cX4_faultPosition 77 = .ok (.aload_n 0, 1) := by decide +kernel
theorem dX4_faultPosition_78 : decode cX4_faultPosition 78 = .ok (.getfield 40, 3) := by decide +kernel
theorem dX4_faultPosition_81 : decode cX4_faultPosition 81 = .ok (.istore_n 2, 1) := by decide +kernel
theorem dX4_faultPosition_82 : decode cX4_faultPosition 82 = .ok (.goto (-70), 3) := by decide +kernel
theorem dX4_faultPosition_85 : decode cX4_faultPosition 85 = .ok (.ldc 43, 2) := by decide +kernel
theorem dX4_faultPosition_87 : decode cX4_faultPosition 87 = .ok (.ireturn, 1) := by decide +kernel
set_option maxRecDepth 20000 in
theorem ggX4_readPart_X4_readForm : GoodIn wsX4_readPart wsX4_readForm := goodIn_r _ [11, 5, 12, 13, 14, 10, 15, 1, 16, 17, 18, 19, 20, 21, 6, 22, 23, 24, 25, 30, 31, 32, 33, 34, 35, 36, 37, 38] (by decide +kernel) (by decide +kernel)
set_option maxRecDepth 20000 in
theorem gX4_readPart_X4_readForm : GoodIn wsX4_readPart (wsV RX4 47 RX4 yX4_readForm wsX4_readForm) := goodIn_app (goodIn_of _ (by decide +kernel)) ggX4_readPart_X4_readForm
set_option maxRecDepth 20000 in
theorem ggX4_readPart_X4_findOutOfRange : GoodIn wsX4_readPart wsX4_findOutOfRange := goodIn_r _ [29, 5, 2, 6, 4, 30, 31, 32, 33, 34, 35, 36, 37, 38] (by decide +kernel) (by decide +kernel)
set_option maxRecDepth 20000 in
theorem gX4_readPart_X4_findOutOfRange : GoodIn wsX4_readPart (wsV RX4 51 RX4 yX4_findOutOfRange wsX4_findOutOfRange) := goodIn_app (goodIn_of _ (by decide +kernel)) ggX4_readPart_X4_findOutOfRange
theorem dX4_readPart_0 : decode cX4_readPart 0 = .ok (.aload_n 0, 1) := by decide +kernel
theorem dX4_readPart_1 : decode cX4_readPart 1 = .ok (.iload_n 1, 1) := by decide +kernel
theorem dX4_readPart_2 : decode cX4_readPart 2 = .ok (.putfield 40, 3) := by decide +kernel
theorem dX4_readPart_5 : decode cX4_readPart 5 = .ok (.aload_n 0, 1) := by decide +kernel
theorem dX4_readPart_6 : decode cX4_readPart 6 = .ok (.iconst 0, 1) := by decide +kernel
theorem dX4_readPart_7 : decode cX4_readPart 7 = .ok (.putfield 33, 3) := by decide +kernel
theorem dX4_readPart_10 : decode cX4_readPart 10 = .ok (.aload_n 0, 1) := by decide +kernel
theorem dX4_readPart_11 : decode cX4_readPart 11 = .ok (.ldc 43, 2) := by decide +kernel
theorem dX4_readPart_13 : decode cX4_readPart 13 = .ok (.putfield 44, 3) := by decide +kernel
theorem dX4_readPart_16 : decode cX4_readPart 16 = .ok (.aload_n 0, 1) := by decide +kernel
theorem dX4_readPart_17 : decode cX4_readPart 17 = .ok (.invokevirtual 47, 3) := by decide +kernel
theorem dX4_readPart_20 : decode cX4_readPart 20 = .ok (.ifCond .ne 21, 3) := by decide +kernel
theorem dX4_readPart_23 : decode cX4_readPart 23 = .ok (.aload_n 0, 1) := by decide +kernel
theorem dX4_readPart_24 : decode cX4_readPart 24 = .ok (.iconst 1, 1) := by decide +kernel
theorem dX4_readPart_25 : decode cX4_readPart 25 = .ok (.putfield 33, 3) := by decide +kernel
theorem dX4_readPart_28 : decode cX4_readPart 28 = .ok (.aload_n 0, 1) := by decide +kernel
theorem dX4_readPart_29 : decode cX4_readPart 29 = .ok (.aload_n 0, 1) := by decide +kernel
theorem dX4_readPart_30 : decode cX4_readPart 30 = .ok (.getfield 40, 3) := by decide +kernel
theorem dX4_readPart_33 : decode cX4_readPart 33 = .ok (.iload_n 1, 1) := by decide +kernel
theorem dX4_readPart_34 : decode cX4_readPart 34 = .ok (.isub, 1) := by decide +kernel
theorem dX4_readPart_35 : decode cX4_readPart 35 = .ok (.putfield 44, 3) := by decide +kernel
theorem dX4_readPart_38 : decode cX4_readPart 38 = .ok (.goto 34, 3) := by decide +kernel
theorem dX4_readPart_41 : decode cX4_readPart 41 = .ok (.aload_n 0, 1) := by decide +kernel
theorem dX4_readPart_42 : decode cX4_readPart 42 = .ok (.getfield 36, 3) := by decide +kernel
theorem dX4_readPart_45 : decode cX4_readPart 45 = .ok (.bipush 108, 2) := by decide +kernel
theorem dX4_readPart_47 : decode cX4_readPart 47 = .ok (.if_icmp .ne 21, 3) := by decide +kernel
theorem dX4_readPart_50 : decode cX4_readPart 50 = .ok (.aload_n 0, 1) := by decide +kernel
theorem dX4_readPart_51 : decode cX4_readPart 51 = .ok (.getfield 15, 3) := by decide +kernel
theorem dX4_readPart_54 : decode cX4_readPart 54 = .ok (.iconst 0, 1) := by decide +kernel
theorem dX4_readPart_55 : decode cX4_readPart 55 = .ok (.iaload, 1) := by decide +kernel
theorem dX4_readPart_56 : decode cX4_readPart 56 = .ok (.iload_n 2, 1) := by decide +kernel
theorem dX4_readPart_57 : decode cX4_readPart 57 = .ok (.if_icmp .lt 11, 3) := by decide +kernel
theorem dX4_readPart_60 : decode cX4_readPart 60 = .ok (.aload_n 0, 1) := by decide +kernel
theorem dX4_readPart_61 : decode cX4_readPart 61 = .ok (.iconst 2, 1) := by decide +kernel
theorem dX4_readPart_62 : decode cX4_readPart 62 = .ok (.putfield 33, 3) := by decide +kernel
theorem dX4_readPart_65 : decode cX4_readPart 65 = .ok (.goto 7, 3) := by decide +kernel
theorem dX4_readPart_68 : decode cX4_readPart 68 = .ok (.aload_n 0, 1) := by decide +kernel
theorem dX4_readPart_69 : decode cX4_readPart 69 = .ok (.invokevirtual 51, 3) := by decide +kernel
theorem dX4_readPart_72 : decode cX4_readPart 72 = .ok (.return_, 1) := by decide +kernel
theorem dX4_findOutOfRange_0 : decode cX4_findOutOfRange 0 = .ok (.aload_n 0, 1) := by decide +kernel
theorem dX4_findOutOfRange_1 : decode cX4_findOutOfRange 1 = .ok (.getfield 36, 3) := by decide +kernel
theorem dX4_findOutOfRange_4 : decode cX4_findOutOfRange 4 = .ok (.bipush 115, 2) := by decide +kernel
theorem dX4_findOutOfRange_6 : decode cX4_findOutOfRange 6 = .ok (.if_icmp .ne 9, 3) := by decide +kernel
theorem dX4_findOutOfRange_9 : decode cX4_findOutOfRange 9 = .ok (.sipush 10000, 3) := by decide +kernel
theorem dX4_findOutOfRange_12 : decode cX4_findOutOfRange 12 = .ok (.goto 6, 3) := by decide +kernel
theorem dX4_findOutOfRange_15 : decode cX4_findOutOfRange 15 = .ok (.sipush 300, 3) := by decide +kernel
theorem dX4_findOutOfRange_18 : decode cX4_findOutOfRange 18 = .ok (.istore_n 1, 1) := by decide +kernel
theorem dX4_findOutOfRange_19 : decode cX4_findOutOfRange 19 = .ok (.aload_n 0, 1) := by decide +kernel
theorem dX4_findOutOfRange_20 : decode cX4_findOutOfRange 20 = .ok (.getfield 36, 3) := by decide +kernel
theorem dX4_findOutOfRange_23 : decode cX4_findOutOfRange 23 = .ok (.bipush 115, 2) := by decide +kernel
theorem dX4_findOutOfRange_25 : decode cX4_findOutOfRange 25 = .ok (.if_icmp .ne 7, 3) := by decide +kernel
theorem dX4_findOutOfRange_28 : decode cX4_findOutOfRange 28 = .ok (.iconst 1, 1) := by decide +kernel
theorem dX4_findOutOfRange_29 : decode cX4_findOutOfRange 29 = .ok (.goto 4, 3) := by decide +kernel
theorem dX4_findOutOfRange_32 : decode cX4_findOutOfRange 32 = .ok (.iconst 3, 1) := by decide +kernel
theorem dX4_findOutOfRange_33 : decode cX4_findOutOfRange 33 = .ok (.istore_n 2, 1) := by decide +kernel
theorem dX4_findOutOfRange_34 : decode cX4_findOutOfRange 34 = .ok (.iconst 0, 1) := by decide +kernel
theorem dX4_findOutOfRange_35 : decode cX4_findOutOfRange 35 = .ok (.istore_n 3, 1) := by decide +kernel
theorem dX4_findOutOfRange_36 : decode cX4_findOutOfRange 36 = .ok (.iload_n 3, 1) := by decide +kernel
theorem dX4_findOutOfRange_37 : decode cX4_findOutOfRange 37 = .ok (.iload_n 2, 1) := by decide +kernel
theorem dX4_findOutOfRange_38 : decode cX4_findOutOfRange 38 = .ok (.if_icmp .ge 36, 3) := by decide +kernel
theorem dX4_findOutOfRange_41 : decode cX4_findOutOfRange 41 = .ok (.aload_n 0, 1) := by decide +kernel
theorem dX4_findOutOfRange_42 : decode cX4_findOutOfRange 42 = .ok (.getfield 33, 3) := by decide +kernel
theorem dX4_findOutOfRange_45 : decode cX4_findOutOfRange 45 = .ok (.ifCond .ne 29, 3) := by decide +kernel
theorem dX4_findOutOfRange_48 : decode cX4_findOutOfRange 48 = .ok (.aload_n 0, 1) := by decide +kernel
theorem dX4_findOutOfRange_49 : decode cX4_findOutOfRange 49 = .ok (.getfield 15, 3) := by decide +kernel
theorem dX4_findOutOfRange_52 : decode cX4_findOutOfRange 52 = .ok (.iload_n 3, 1) := by decide +kernel
theorem dX4_findOutOfRange_53 : decode cX4_findOutOfRange 53 = .ok (.iaload, 1) := by decide +kernel
theorem dX4_findOutOfRange_54 : decode cX4_findOutOfRange 54 = .ok (.iload_n 1, 1) := by decide +kernel
theorem dX4_findOutOfRange_55 : decode cX4_findOutOfRange 55 = .ok (.if_icmp .le 13, 3) := by decide +kernel
theorem dX4_findOutOfRange_58 : decode cX4_findOutOfRange 58 = .ok (.aload_n 0, 1) := by decide +kernel
theorem dX4_findOutOfRange_59 : decode cX4_findOutOfRange 59 = .ok (.iconst 3, 1) := by decide +kernel
theorem dX4_findOutOfRange_60 : decode cX4_findOutOfRange 60 = .ok (.putfield 33, 3) := by decide +kernel
theorem dX4_findOutOfRange_63 : decode cX4_findOutOfRange 63 = .ok (.aload_n 0, 1) := by decide +kernel
theorem dX4_findOutOfRange_64 : decode cX4_findOutOfRange 64 = .ok (.iload_n 3, 1) := by decide +kernel
theorem dX4_findOutOfRange_65 : decode cX4_findOutOfRange 65 = .ok (.putfield 44, 3) := by decide +kernel
theorem dX4_findOutOfRange_68 : decode cX4_findOutOfRange 68 = .ok (.iinc 3 1, 3) := by decide +kernel
theorem dX4_findOutOfRange_71 : decode cX4_findOutOfRange 71 = .ok (.goto (-35), 3) := by decide +kernel
theorem dX4_findOutOfRange_74 : decode cX4_findOutOfRange 74 = .ok (.return_, 1) := by decide +kernel
set_option maxRecDepth 20000 in
theorem ggX4_readForm_X4_reads : GoodIn wsX4_readForm wsX4_reads := goodIn_r _ [6, 7, 8, 9, 19, 20, 21, 22, 23, 24, 25, 26, 27] (by decide +kernel) (by decide +kernel)
set_option maxRecDepth 20000 in
theorem gX4_readForm_X4_reads : GoodIn wsX4_readForm (wsV RX4 54 RX4 yX4_reads wsX4_reads) := goodIn_app (goodIn_of _ (by decide +kernel)) ggX4_readForm_X4_reads
set_option maxRecDepth 20000 in
theorem ggX4_readForm_X4_readsNumber : GoodIn wsX4_readForm wsX4_readsNumber := goodIn_r _ [13, 9, 7, 14, 15, 16, 17, 5, 18, 8, 19, 20, 21, 22, 23, 24, 25, 26, 27] (by decide +kernel) (by decide +kernel)
set_option maxRecDepth 20000 in
theorem gX4_readForm_X4_readsNumber : GoodIn wsX4_readForm (wsV RX4 58 RX4 yX4_readsNumber wsX4_readsNumber) := goodIn_app (goodIn_of _ (by decide +kernel)) ggX4_readForm_X4_readsNumber
theorem dX4_readForm_0 : decode cX4_readForm 0 = .ok (.aload_n 0, 1) := by decide +kernel
theorem dX4_readForm_1 : decode cX4_readForm 1 = .ok (.bipush 115, 2) := by decide +kernel
theorem dX4_readForm_3 : decode cX4_readForm 3 = .ok (.invokevirtual 54, 3) := by decide +kernel
theorem dX4_readForm_6 : decode cX4_readForm 6 = .ok (.ifCond .eq 33, 3) := by decide +kernel
theorem dX4_readForm_9 : decode cX4_readForm 9 = .ok (.aload_n 0, 1) := by decide +kernel
theorem dX4_readForm_10 : decode cX4_readForm 10 = .ok (.bipush 115, 2) := by decide +kernel
theorem dX4_readForm_12 : decode cX4_readForm 12 = .ok (.putfield 36, 3) := by decide +kernel
theorem dX4_readForm_15 : decode cX4_readForm 15 = .ok (.aload_n 0, 1) := by decide +kernel
theorem dX4_readForm_16 : decode cX4_readForm 16 = .ok (.iconst 0, 1) := by decide +kernel
theorem dX4_readForm_17 : decode cX4_readForm 17 = .ok (.iconst 5, 1) := by decide +kernel
theorem dX4_readForm_18 : decode cX4_readForm 18 = .ok (.invokevirtual 58, 3) := by decide +kernel
theorem dX4_readForm_21 : decode cX4_readForm 21 = .ok (.ifCond .eq 16, 3) := by decide +kernel
theorem dX4_readForm_24 : decode cX4_readForm 24 = .ok (.aload_n 0, 1) := by decide +kernel
theorem dX4_readForm_25 : decode cX4_readForm 25 = .ok (.bipush 59, 2) := by decide +kernel
theorem dX4_readForm_27 : decode cX4_readForm 27 = .ok (.invokevirtual 54, 3) := by decide +kernel
theorem dX4_readForm_30 : decode cX4_readForm 30 = .ok (.ifCond .eq 7, 3) := by decide +kernel
theorem dX4_readForm_33 : decode cX4_readForm 33 = .ok (.iconst 1, 1) := by decide +kernel
theorem dX4_readForm_34 : decode cX4_readForm 34 = .ok (.goto 4, 3) := by decide +kernel
theorem dX4_readForm_37 : decode cX4_readForm 37 = .ok (.iconst 0, 1) := by decide +kernel
theorem dX4_readForm_38 : decode cX4_readForm 38 = .ok (.ireturn, 1) := by decide +kernel
theorem dX4_readForm_39 : decode cX4_readForm 39 = .ok (.aload_n 0, 1) := by decide +kernel
theorem dX4_readForm_40 : decode cX4_readForm 40 = .ok (.bipush 108, 2) := by decide +kernel
theorem dX4_readForm_42 : decode cX4_readForm 42 = .ok (.invokevirtual 54, 3) := by decide +kernel
theorem dX4_readForm_45 : decode cX4_readForm 45 = .ok (.ifCond .eq 69, 3) := by decide +kernel
theorem dX4_readForm_48 : decode cX4_readForm 48 = .ok (.aload_n 0, 1) := by decide +kernel
theorem dX4_readForm_49 : decode cX4_readForm 49 = .ok (.bipush 108, 2) := by decide +kernel
theorem dX4_readForm_51 : decode cX4_readForm 51 = .ok (.putfield 36, 3) := by decide +kernel
theorem dX4_readForm_54 : decode cX4_readForm 54 = .ok (.aload_n 0, 1) := by decide +kernel
theorem dX4_readForm_55 : decode cX4_readForm 55 = .ok (.iconst 0, 1) := by decide +kernel
theorem dX4_readForm_56 : decode cX4_readForm 56 = .ok (.iconst 1, 1) := by decide +kernel
theorem dX4_readForm_57 : decode cX4_readForm 57 = .ok (.invokevirtual 58, 3) := by decide +kernel
theorem dX4_readForm_60 : decode cX4_readForm 60 = .ok (.ifCond .eq 52, 3) := by decide +kernel
theorem dX4_readForm_63 : decode cX4_readForm 63 = .ok (.aload_n 0, 1) := by decide +kernel
theorem dX4_readForm_64 : decode cX4_readForm 64 = .ok (.bipush 44, 2) := by decide +kernel
theorem dX4_readForm_66 : decode cX4_readForm 66 = .ok (.invokevirtual 54, 3) := by decide +kernel
theorem dX4_readForm_69 : decode cX4_readForm 69 = .ok (.ifCond .eq 43, 3) := by decide +kernel
theorem dX4_readForm_72 : decode cX4_readForm 72 = .ok (.aload_n 0, 1) := by decide +kernel
theorem dX4_readForm_73 : decode cX4_readForm 73 = .ok (.iconst 1, 1) := by decide +kernel
theorem dX4_readForm_74 : decode cX4_readForm 74 = .ok (.iconst 5, 1) := by decide +kernel
theorem dX4_readForm_75 : decode cX4_readForm 75 = .ok (.invokevirtual 58, 3) := by decide +kernel
theorem dX4_readForm_78 : decode cX4_readForm 78 = .ok (.ifCond .eq 34, 3) := by decide +kernel
theorem dX4_readForm_81 : decode cX4_readForm 81 = .ok (.aload_n 0, 1) := by decide +kernel
theorem dX4_readForm_82 : decode cX4_readForm 82 = .ok (.bipush 44, 2) := by decide +kernel
theorem dX4_readForm_84 : decode cX4_readForm 84 = .ok (.invokevirtual 54, 3) := by decide +kernel
theorem dX4_readForm_87 : decode cX4_readForm 87 = .ok (.ifCond .eq 25, 3) := by decide +kernel
theorem dX4_readForm_90 : decode cX4_readForm 90 = .ok (.aload_n 0, 1) := by decide +kernel
theorem dX4_readForm_91 : decode cX4_readForm 91 = .ok (.iconst 2, 1) := by decide +kernel
theorem dX4_readForm_92 : decode cX4_readForm 92 = .ok (.iconst 5, 1) := by decide +kernel
theorem dX4_readForm_93 : decode cX4_readForm 93 = .ok (.invokevirtual 58, 3) := by decide +kernel
theorem dX4_readForm_96 : decode cX4_readForm 96 = .ok (.ifCond .eq 16, 3) := by decide +kernel
theorem dX4_readForm_99 : decode cX4_readForm 99 = .ok (.aload_n 0, 1) := by decide +kernel
theorem dX4_readForm_100 : decode cX4_readForm 100 = .ok (.bipush 59, 2) := by decide +kernel
theorem dX4_readForm_102 : decode cX4_readForm 102 = .ok (.invokevirtual 54, 3) := by decide +kernel
theorem dX4_readForm_105 : decode cX4_readForm 105 = .ok (.ifCond .eq 7, 3) := by decide +kernel
theorem dX4_readForm_108 : decode cX4_readForm 108 = .ok (.iconst 1, 1) := by decide +kernel
theorem dX4_readForm_109 : decode cX4_readForm 109 = .ok (.goto 4, 3) := by decide +kernel
theorem dX4_readForm_112 : decode cX4_readForm 112 = .ok (.iconst 0, 1) := by decide +kernel
theorem dX4_readForm_113 : decode cX4_readForm 113 = .ok (.ireturn, 1) := by decide +kernel
theorem dX4_readForm_114 : decode cX4_readForm 114 = .ok (.iconst 0, 1) := by decide +kernel
theorem dX4_readForm_115 : decode cX4_readForm 115 = .ok (.ireturn, 1) := by decide +kernel
theorem dX4_reads_0 : decode cX4_reads 0 = .ok (.aload_n 0, 1) := by decide +kernel
theorem dX4_reads_1 : decode cX4_reads 1 = .ok (.getfield 40, 3) := by decide +kernel
theorem dX4_reads_4 : decode cX4_reads 4 = .ok (.aload_n 0, 1) := by decide +kernel
theorem dX4_reads_5 : decode cX4_reads 5 = .ok (.getfield 19, 3) := by decide +kernel
theorem dX4_reads_8 : decode cX4_reads 8 = .ok (.if_icmp .ge 25, 3) := by decide +kernel
theorem dX4_reads_11 : decode cX4_reads 11 = .ok (.aload_n 0, 1) := by decide +kernel
theorem dX4_reads_12 : decode cX4_reads 12 = .ok (.getfield 40, 3) := by decide +kernel
theorem dX4_reads_15 : decode cX4_reads 15 = .ok (.bipush 60, 2) := by decide +kernel
theorem dX4_reads_17 : decode cX4_reads 17 = .ok (.if_icmp .ge 16, 3) := by decide +kernel
theorem dX4_reads_20 : decode cX4_reads 20 = .ok (.aload_n 0, 1) := by decide +kernel
theorem dX4_reads_21 : decode cX4_reads 21 = .ok (.getfield 9, 3) := by decide +kernel
theorem dX4_reads_24 : decode cX4_reads 24 = .ok (.aload_n 0, 1) := by decide +kernel
theorem dX4_reads_25 : decode cX4_reads 25 = .ok (.getfield 40, 3) := by decide +kernel
theorem dX4_reads_28 : decode cX4_reads 28 = .ok (.caload, 1) := by decide +kernel
theorem dX4_reads_29 : decode cX4_reads 29 = .ok (.iload_n 1, 1) := by decide +kernel
theorem dX4_reads_30 : decode cX4_reads 30 = .ok (.if_icmp .eq 5, 3) := by decide +kernel
theorem dX4_reads_33 : decode cX4_reads 33 = .ok (.iconst 0, 1) := by decide +kernel
theorem dX4_reads_34 : decode cX4_reads 34 = .ok (.ireturn, 1) := by decide +kernel
theorem dX4_reads_35 : decode cX4_reads 35 = .ok (.aload_n 0, 1) := by decide +kernel
theorem dX4_reads_36 : decode cX4_reads 36 = .ok (.dup, 1) := by decide +kernel
theorem dX4_reads_37 : decode cX4_reads 37 = .ok (.getfield 40, 3) := by decide +kernel
theorem dX4_reads_40 : decode cX4_reads 40 = .ok (.iconst 1, 1) := by decide +kernel
theorem dX4_reads_41 : decode cX4_reads 41 = .ok (.iadd, 1) := by decide +kernel
theorem dX4_reads_42 : decode cX4_reads 42 = .ok (.putfield 40, 3) := by decide +kernel
theorem dX4_reads_45 : decode cX4_reads 45 = .ok (.iconst 1, 1) := by decide +kernel
theorem dX4_reads_46 : decode cX4_reads 46 = .ok (.ireturn, 1) := by decide +kernel
set_option maxRecDepth 20000 in
theorem ggX4_readsNumber_X4_atDigit : GoodIn wsX4_readsNumber wsX4_atDigit := goodIn_r _ [8, 2, 9, 1, 10, 11, 12, 13, 14, 15, 16, 17, 18] (by decide +kernel) (by decide +kernel)
set_option maxRecDepth 20000 in
theorem gX4_readsNumber_X4_atDigit : GoodIn wsX4_readsNumber (wsV RX4 62 RX4 yX4_atDigit wsX4_atDigit) := goodIn_app (goodIn_of _ (by decide +kernel)) ggX4_readsNumber_X4_atDigit
theorem dX4_readsNumber_0 : decode cX4_readsNumber 0 = .ok (.iconst 0, 1) := by decide +kernel
theorem dX4_readsNumber_1 : decode cX4_readsNumber 1 = .ok (.istore_n 3, 1) := by decide +kernel
theorem dX4_readsNumber_2 : decode cX4_readsNumber 2 = .ok (.iconst 0, 1) := by decide +kernel
theorem dX4_readsNumber_3 : decode cX4_readsNumber 3 = .ok (.istore 4, 2) := by decide +kernel
theorem dX4_readsNumber_5 : decode cX4_readsNumber 5 = .ok (.iload 4, 2) := by decide +kernel
theorem dX4_readsNumber_7 : decode cX4_readsNumber 7 = .ok (.iload_n 2, 1) := by decide +kernel
theorem dX4_readsNumber_8 : decode cX4_readsNumber 8 = .ok (.if_icmp .ge 44, 3) := by decide +kernel
theorem dX4_readsNumber_11 : decode cX4_readsNumber 11 = .ok (.aload_n 0, 1) := by decide +kernel
theorem dX4_readsNumber_12 : decode cX4_readsNumber 12 = .ok (.invokevirtual 62, 3) := by decide +kernel
theorem dX4_readsNumber_15 : decode cX4_readsNumber 15 = .ok (.ifCond .eq 37, 3) := by decide +kernel
theorem dX4_readsNumber_18 : decode cX4_readsNumber 18 = .ok (.bipush 10, 2) := by decide +kernel
theorem dX4_readsNumber_20 : decode cX4_readsNumber 20 = .ok (.iload_n 3, 1) := by decide +kernel
theorem dX4_readsNumber_21 : decode cX4_readsNumber 21 = .ok (.imul, 1) := by decide +kernel
theorem dX4_readsNumber_22 : decode cX4_readsNumber 22 = .ok (.aload_n 0, 1) := by decide +kernel
theorem dX4_readsNumber_23 : decode cX4_readsNumber 23 = .ok (.getfield 9, 3) := by decide +kernel
theorem dX4_readsNumber_26 : decode cX4_readsNumber 26 = .ok (.aload_n 0, 1) := by decide +kernel
theorem dX4_readsNumber_27 : decode cX4_readsNumber 27 = .ok (.getfield 40, 3) := by decide +kernel
theorem dX4_readsNumber_30 : decode cX4_readsNumber 30 = .ok (.caload, 1) := by decide +kernel
theorem dX4_readsNumber_31 : decode cX4_readsNumber 31 = .ok (.bipush 48, 2) := by decide +kernel
theorem dX4_readsNumber_33 : decode cX4_readsNumber 33 = .ok (.isub, 1) := by decide +kernel
theorem dX4_readsNumber_34 : decode cX4_readsNumber 34 = .ok (.iadd, 1) := by decide +kernel
theorem dX4_readsNumber_35 : decode cX4_readsNumber 35 = .ok (.istore_n 3, 1) := by decide +kernel
theorem dX4_readsNumber_36 : decode cX4_readsNumber 36 = .ok (.aload_n 0, 1) := by decide +kernel
theorem dX4_readsNumber_37 : decode cX4_readsNumber 37 = .ok (.dup, 1) := by decide +kernel
theorem dX4_readsNumber_38 : decode cX4_readsNumber 38 = .ok (.getfield 40, 3) := by decide +kernel
theorem dX4_readsNumber_41 : decode cX4_readsNumber 41 = .ok (.iconst 1, 1) := by decide +kernel
theorem dX4_readsNumber_42 : decode cX4_readsNumber 42 = .ok (.iadd, 1) := by decide +kernel
theorem dX4_readsNumber_43 : decode cX4_readsNumber 43 = .ok (.putfield 40, 3) := by decide +kernel
theorem dX4_readsNumber_46 : decode cX4_readsNumber 46 = .ok (.iinc 4 1, 3) := by decide +kernel
theorem dX4_readsNumber_49 : decode cX4_readsNumber 49 = .ok (.goto (-44), 3) := by decide +kernel
theorem dX4_readsNumber_52 : decode cX4_readsNumber 52 = .ok (.aload_n 0, 1) := by decide +kernel
theorem dX4_readsNumber_53 : decode cX4_readsNumber 53 = .ok (.getfield 15, 3) := by decide +kernel
theorem dX4_readsNumber_56 : decode cX4_readsNumber 56 = .ok (.iload_n 1, 1) := by decide +kernel
theorem dX4_readsNumber_57 : decode cX4_readsNumber 57 = .ok (.iload_n 3, 1) := by decide +kernel
theorem dX4_readsNumber_58 : decode cX4_readsNumber 58 = .ok (.iastore, 1) := by decide +kernel
theorem dX4_readsNumber_59 : decode cX4_readsNumber 59 = .ok (.iload 4, 2) := by decide +kernel
theorem dX4_readsNumber_61 : decode cX4_readsNumber 61 = .ok (.ifCond .le 7, 3) := by decide +kernel
theorem dX4_readsNumber_64 : decode cX4_readsNumber 64 = .ok (.iconst 1, 1) := by decide +kernel
theorem dX4_readsNumber_65 : decode cX4_readsNumber 65 = .ok (.goto 4, 3) := by decide +kernel
theorem dX4_readsNumber_68 : decode cX4_readsNumber 68 = .ok (.iconst 0, 1) := by decide +kernel
theorem dX4_readsNumber_69 : decode cX4_readsNumber 69 = .ok (.ireturn, 1) := by decide +kernel
theorem dX4_atDigit_0 : decode cX4_atDigit 0 = .ok (.aload_n 0, 1) := by decide +kernel
theorem dX4_atDigit_1 : decode cX4_atDigit 1 = .ok (.getfield 40, 3) := by decide +kernel
theorem dX4_atDigit_4 : decode cX4_atDigit 4 = .ok (.aload_n 0, 1) := by decide +kernel
theorem dX4_atDigit_5 : decode cX4_atDigit 5 = .ok (.getfield 19, 3) := by decide +kernel
theorem dX4_atDigit_8 : decode cX4_atDigit 8 = .ok (.if_icmp .ge 44, 3) := by decide +kernel
theorem dX4_atDigit_11 : decode cX4_atDigit 11 = .ok (.aload_n 0, 1) := by decide +kernel
theorem dX4_atDigit_12 : decode cX4_atDigit 12 = .ok (.getfield 40, 3) := by decide +kernel
theorem dX4_atDigit_15 : decode cX4_atDigit 15 = .ok (.bipush 60, 2) := by decide +kernel
theorem dX4_atDigit_17 : decode cX4_atDigit 17 = .ok (.if_icmp .ge 35, 3) := by decide +kernel
theorem dX4_atDigit_20 : decode cX4_atDigit 20 = .ok (.aload_n 0, 1) := by decide +kernel
theorem dX4_atDigit_21 : decode cX4_atDigit 21 = .ok (.getfield 9, 3) := by decide +kernel
theorem dX4_atDigit_24 : decode cX4_atDigit 24 = .ok (.aload_n 0, 1) := by decide +kernel
theorem dX4_atDigit_25 : decode cX4_atDigit 25 = .ok (.getfield 40, 3) := by decide +kernel
theorem dX4_atDigit_28 : decode cX4_atDigit 28 = .ok (.caload, 1) := by decide +kernel
theorem dX4_atDigit_29 : decode cX4_atDigit 29 = .ok (.bipush 48, 2) := by decide +kernel
theorem dX4_atDigit_31 : decode cX4_atDigit 31 = .ok (.if_icmp .lt 21, 3) := by decide +kernel
theorem dX4_atDigit_34 : decode cX4_atDigit 34 = .ok (.aload_n 0, 1) := by decide +kernel
theorem dX4_atDigit_35 : decode cX4_atDigit 35 = .ok (.getfield 9, 3) := by decide +kernel
theorem dX4_atDigit_38 : decode cX4_atDigit 38 = .ok (.aload_n 0, 1) := by decide +kernel
theorem dX4_atDigit_39 : decode cX4_atDigit 39 = .ok (.getfield 40, 3) := by decide +kernel
theorem dX4_atDigit_42 : decode cX4_atDigit 42 = .ok (.caload, 1) := by decide +kernel
theorem dX4_atDigit_43 : decode cX4_atDigit 43 = .ok (.bipush 57, 2) := by decide +kernel
theorem dX4_atDigit_45 : decode cX4_atDigit 45 = .ok (.if_icmp .gt 7, 3) := by decide +kernel
theorem dX4_atDigit_48 : decode cX4_atDigit 48 = .ok (.iconst 1, 1) := by decide +kernel
theorem dX4_atDigit_49 : decode cX4_atDigit 49 = .ok (.goto 4, 3) := by decide +kernel
theorem dX4_atDigit_52 : decode cX4_atDigit 52 = .ok (.iconst 0, 1) := by decide +kernel
theorem dX4_atDigit_53 : decode cX4_atDigit 53 = .ok (.ireturn, 1) := by decide +kernel
end
section
set_option maxRecDepth 20000 in
theorem ggX5_init_X1_init : GoodIn wsX5_init wsX1_init := goodIn_r _ [21, 22, 2, 3, 23, 17, 18, 24, 25, 26, 27, 28, 29, 30, 31, 32, 33, 34, 35, 36, 37, 38, 39, 40, 41, 42, 43, 44, 45, 46, 47, 48, 49, 50, 51, 52, 90, 91, 92, 93, 94, 95, 96, 97, 65, 66, 67, 68, 69, 70, 71, 72, 73, 98, 99] (by decide +kernel) (by decide +kernel)
set_option maxRecDepth 20000 in
theorem gX5_init_X1_init_n11 : GoodIn wsX5_init (wsX1_init) := ggX5_init_X1_init
set_option maxRecDepth 20000 in
theorem ggX5_init_X0_init : GoodIn wsX5_init wsX0_init := goodIn_r _ [55, 56, 2, 3, 57, 58, 5, 6, 20, 21, 22, 23, 17, 18, 24, 25, 26, 27, 28, 29, 30, 31, 32, 33, 34, 35, 36, 37, 38, 39, 40, 41, 42, 43, 44, 45, 46, 47, 48, 49, 50, 51, 52, 78, 79, 80, 65, 66, 67, 68, 69, 70, 71, 72, 73, 90, 91, 92, 93, 94, 95, 96, 97, 98, 99] (by decide +kernel) (by decide +kernel)
set_option maxRecDepth 20000 in
theorem gX5_init_X0_init : GoodIn wsX5_init (wsX0_init) := ggX5_init_X0_init
set_option maxRecDepth 20000 in
theorem ggX5_init_X4_init : GoodIn wsX5_init wsX4_init := goodIn_r _ [60, 61, 2, 3, 62, 63, 36, 64, 81, 82, 83, 84, 85, 86, 87, 88, 89] (by decide +kernel) (by decide +kernel)
set_option maxRecDepth 20000 in
theorem gX5_init_X4_init_n25 : GoodIn wsX5_init (wsX4_init) := ggX5_init_X4_init
set_option maxRecDepth 20000 in
theorem ggX5_init_X3_init : GoodIn wsX5_init wsX3_init := goodIn_r _ [42, 43, 2, 3, 44, 36, 45, 46, 47, 90, 91, 92, 93, 94, 95, 96, 97] (by decide +kernel) (by decide +kernel)
set_option maxRecDepth 20000 in
theorem gX5_init_X3_init_n32 : GoodIn wsX5_init (wsX3_init) := ggX5_init_X3_init
theorem dX5_init_0 : decode cX5_init 0 = .ok (.aload_n 0, 1) := by decide +kernel
theorem dX5_init_1 : decode cX5_init 1 = .ok (.invokespecial 3, 3) := by decide +kernel
theorem dX5_init_4 : decode cX5_init 4 = .ok (.aload_n 0, 1) := by decide +kernel
theorem dX5_init_5 : decode cX5_init 5 = .ok (.new 9, 3) := by decide +kernel
theorem dX5_init_8 : decode cX5_init 8 = .ok (.dup, 1) := by decide +kernel
theorem dX5_init_9 : decode cX5_init 9 = .ok (.invokespecial 11, 3) := by decide +kernel
theorem dX5_init_12 : decode cX5_init 12 = .ok (.putfield 12, 3) := by decide +kernel
theorem dX5_init_15 : decode cX5_init 15 = .ok (.aload_n 0, 1) := by decide +kernel
theorem dX5_init_16 : decode cX5_init 16 = .ok (.new 16, 3) := by decide +kernel
theorem dX5_init_19 : decode cX5_init 19 = .ok (.dup, 1) := by decide +kernel
theorem dX5_init_20 : decode cX5_init 20 = .ok (.invokespecial 18, 3) := by decide +kernel
theorem dX5_init_23 : decode cX5_init 23 = .ok (.putfield 19, 3) := by decide +kernel
theorem dX5_init_26 : decode cX5_init 26 = .ok (.aload_n 0, 1) := by decide +kernel
theorem dX5_init_27 : decode cX5_init 27 = .ok (.new 23, 3) := by decide +kernel
theorem dX5_init_30 : decode cX5_init 30 = .ok (.dup, 1) := by decide +kernel
theorem dX5_init_31 : decode cX5_init 31 = .ok (.invokespecial 25, 3) := by decide +kernel
theorem dX5_init_34 : decode cX5_init 34 = .ok (.putfield 26, 3) := by decide +kernel
theorem dX5_init_37 : decode cX5_init 37 = .ok (.aload_n 0, 1) := by decide +kernel
theorem dX5_init_38 : decode cX5_init 38 = .ok (.new 30, 3) := by decide +kernel
theorem dX5_init_41 : decode cX5_init 41 = .ok (.dup, 1) := by decide +kernel
theorem dX5_init_42 : decode cX5_init 42 = .ok (.invokespecial 32, 3) := by decide +kernel
theorem dX5_init_45 : decode cX5_init 45 = .ok (.putfield 33, 3) := by decide +kernel
theorem dX5_init_48 : decode cX5_init 48 = .ok (.return_, 1) := by decide +kernel
set_option maxRecDepth 20000 in
theorem ggX5_begin_X5_outside : GoodIn wsX5_begin wsX5_outside := goodIn_r _ [8] (by decide +kernel) (by decide +kernel)
set_option maxRecDepth 20000 in
theorem gX5_begin_X5_outside : GoodIn wsX5_begin (va_wsS RX5 37 yX5_outside wsX5_outside) := goodIn_app (goodIn_of _ (by decide +kernel)) ggX5_begin_X5_outside
set_option maxRecDepth 20000 in
theorem ggX5_begin_X0_keep : GoodIn wsX5_begin wsX0_keep := goodIn_r _ [13, 14, 15, 16, 17, 18, 19, 20, 21, 22, 23, 24, 25, 26, 27, 28, 29, 30, 31, 32, 33, 34, 35, 36, 37, 38, 39, 40, 41, 42, 43, 44, 45, 46, 47, 48, 49, 50, 51, 52, 53, 54, 55, 56, 95, 96, 97, 86, 87, 88, 89, 90, 91, 92, 93, 94, 98, 99, 100, 101, 102, 103, 104, 105, 106, 107] (by decide +kernel) (by decide +kernel)
set_option maxRecDepth 20000 in
theorem gX5_begin_X0_keep : GoodIn wsX5_begin (wsV RX5 46 RX0 yX0_keep wsX0_keep) := goodIn_app (goodIn_of _ (by decide +kernel)) ggX5_begin_X0_keep
set_option maxRecDepth 20000 in
theorem ggX5_begin_X1_startAnew : GoodIn wsX5_begin wsX1_startAnew := goodIn_r _ [60, 22, 23, 29, 30, 61, 62, 63, 38, 64, 40, 65, 66, 67, 68, 43, 44, 69, 70, 71, 72, 41, 45, 46, 47, 48, 73, 74, 75, 76, 77, 78, 79, 52, 80, 54, 56, 81, 86, 87, 88, 89, 90, 91, 92, 93, 94, 98, 99, 100, 101, 102, 103, 104, 105, 106, 107] (by decide +kernel) (by decide +kernel)
set_option maxRecDepth 20000 in
theorem gX5_begin_X1_startAnew : GoodIn wsX5_begin (wsV RX5 50 RX1 yX1_startAnew wsX1_startAnew) := goodIn_app (goodIn_of _ (by decide +kernel)) ggX5_begin_X1_startAnew
theorem dX5_begin_0 : decode cX5_begin 0 = .ok (.iload_n 1, 1) := by decide +kernel
theorem dX5_begin_1 : decode cX5_begin 1 = .ok (.iconst 2, 1) := by decide +kernel
theorem dX5_begin_2 : decode cX5_begin 2 = .ok (.bipush 10, 2) := by decide +kernel
theorem dX5_begin_4 : decode cX5_begin 4 = .ok (.invokestatic 37, 3) := by decide +kernel
theorem dX5_begin_7 : decode cX5_begin 7 = .ok (.ifCond .eq 6, 3) := by decide +kernel
theorem dX5_begin_10 : decode cX5_begin 10 = .ok (.ldc 41, 2) := by decide +kernel
theorem dX5_begin_12 : decode cX5_begin 12 = .ok (.ireturn, 1) := by decide +kernel
theorem dX5_begin_13 : decode cX5_begin 13 = .ok (.aload_n 0, 1) := by decide +kernel
theorem dX5_begin_14 : decode cX5_begin 14 = .ok (.getfield 12, 3) := by decide +kernel
theorem dX5_begin_17 : decode cX5_begin 17 = .ok (.getfield 42, 3) := by decide +kernel
theorem dX5_begin_20 : decode cX5_begin 20 = .ok (.istore_n 2, 1) := by decide +kernel
theorem dX5_begin_21 : decode cX5_begin 21 = .ok (.aload_n 0, 1) := by decide +kernel
theorem dX5_begin_22 : decode cX5_begin 22 = .ok (.getfield 19, 3) := by decide +kernel
theorem dX5_begin_25 : decode cX5_begin 25 = .ok (.aload_n 0, 1) := by decide +kernel
theorem dX5_begin_26 : decode cX5_begin 26 = .ok (.getfield 12, 3) := by decide +kernel
theorem dX5_begin_29 : decode cX5_begin 29 = .ok (.invokevirtual 46, 3) := by decide +kernel
theorem dX5_begin_32 : decode cX5_begin 32 = .ok (.aload_n 0, 1) := by decide +kernel
theorem dX5_begin_33 : decode cX5_begin 33 = .ok (.getfield 12, 3) := by decide +kernel
theorem dX5_begin_36 : decode cX5_begin 36 = .ok (.iload_n 1, 1) := by decide +kernel
theorem dX5_begin_37 : decode cX5_begin 37 = .ok (.invokevirtual 50, 3) := by decide +kernel
theorem dX5_begin_40 : decode cX5_begin 40 = .ok (.iload_n 2, 1) := by decide +kernel
theorem dX5_begin_41 : decode cX5_begin 41 = .ok (.ireturn, 1) := by decide +kernel
set_option maxRecDepth 20000 in
theorem ggX5_stage_X3_has : GoodIn wsX5_stage wsX3_has := goodIn_r _ [11, 12, 80, 81, 82, 83, 84, 85, 86, 87] (by decide +kernel) (by decide +kernel)
set_option maxRecDepth 20000 in
theorem gX5_stage_X3_has : GoodIn wsX5_stage (wsV RX5 57 RX3 yX3_has wsX3_has) := goodIn_app (goodIn_of _ (by decide +kernel)) ggX5_stage_X3_has
set_option maxRecDepth 20000 in
theorem ggX5_stage_X5_outside : GoodIn wsX5_stage wsX5_outside := goodIn_r _ [16] (by decide +kernel) (by decide +kernel)
set_option maxRecDepth 20000 in
theorem gX5_stage_X5_outside : GoodIn wsX5_stage (va_wsS RX5 37 yX5_outside wsX5_outside) := goodIn_app (goodIn_of _ (by decide +kernel)) ggX5_stage_X5_outside
set_option maxRecDepth 20000 in
theorem ggX5_stage_X0_keep : GoodIn wsX5_stage wsX0_keep := goodIn_r _ [21, 22, 23, 24, 25, 26, 27, 28, 29, 30, 31, 32, 33, 34, 35, 36, 37, 38, 39, 40, 41, 42, 43, 44, 45, 10, 46, 12, 47, 48, 49, 50, 51, 52, 53, 54, 55, 56, 57, 58, 59, 60, 61, 62, 88, 89, 90, 71, 72, 73, 74, 75, 76, 77, 78, 79, 80, 81, 82, 83, 84, 85, 86, 87, 91, 92] (by decide +kernel) (by decide +kernel)
set_option maxRecDepth 20000 in
theorem gX5_stage_X0_keep : GoodIn wsX5_stage (wsV RX5 46 RX0 yX0_keep wsX0_keep) := goodIn_app (goodIn_of _ (by decide +kernel)) ggX5_stage_X0_keep
set_option maxRecDepth 20000 in
theorem ggX5_stage_X3_changeShares : GoodIn wsX5_stage wsX3_changeShares := goodIn_r _ [66, 49, 50, 80, 81, 82, 83, 84, 85, 86, 87] (by decide +kernel) (by decide +kernel)
set_option maxRecDepth 20000 in
theorem gX5_stage_X3_changeShares : GoodIn wsX5_stage (wsV RX5 68 RX3 yX3_changeShares wsX3_changeShares) := goodIn_app (goodIn_of _ (by decide +kernel)) ggX5_stage_X3_changeShares
theorem dX5_stage_0 : decode cX5_stage 0 = .ok (.aload_n 0, 1) := by decide +kernel
theorem dX5_stage_1 : decode cX5_stage 1 = .ok (.getfield 12, 3) := by decide +kernel
theorem dX5_stage_4 : decode cX5_stage 4 = .ok (.getfield 54, 3) := by decide +kernel
theorem dX5_stage_7 : decode cX5_stage 7 = .ok (.iload_n 1, 1) := by decide +kernel
theorem dX5_stage_8 : decode cX5_stage 8 = .ok (.invokevirtual 57, 3) := by decide +kernel
theorem dX5_stage_11 : decode cX5_stage 11 = .ok (.ifCond .eq 25, 3) := by decide +kernel
theorem dX5_stage_14 : decode cX5_stage 14 = .ok (.iload_n 2, 1) := by decide +kernel
theorem dX5_stage_15 : decode cX5_stage 15 = .ok (.iconst 0, 1) := by decide +kernel
theorem dX5_stage_16 : decode cX5_stage 16 = .ok (.sipush 300, 3) := by decide +kernel
theorem dX5_stage_19 : decode cX5_stage 19 = .ok (.invokestatic 37, 3) := by decide +kernel
theorem dX5_stage_22 : decode cX5_stage 22 = .ok (.ifCond .ne 14, 3) := by decide +kernel
theorem dX5_stage_25 : decode cX5_stage 25 = .ok (.iload_n 3, 1) := by decide +kernel
theorem dX5_stage_26 : decode cX5_stage 26 = .ok (.iconst 0, 1) := by decide +kernel
theorem dX5_stage_27 : decode cX5_stage 27 = .ok (.sipush 300, 3) := by decide +kernel
theorem dX5_stage_30 : decode cX5_stage 30 = .ok (.invokestatic 37, 3) := by decide +kernel
theorem dX5_stage_33 : decode cX5_stage 33 = .ok (.ifCond .eq 6, 3) := by decide +kernel
theorem dX5_stage_36 : decode cX5_stage 36 = .ok (.ldc 41, 2) := by decide +kernel
theorem dX5_stage_38 : decode cX5_stage 38 = .ok (.ireturn, 1) := by decide +kernel
theorem dX5_stage_39 : decode cX5_stage 39 = .ok (.sipush 1000, 3) := by decide +kernel
theorem dX5_stage_42 : decode cX5_stage 42 = .ok (.aload_n 0, 1) := by decide +kernel
theorem dX5_stage_43 : decode cX5_stage 43 = .ok (.getfield 12, 3) := by decide +kernel
theorem dX5_stage_46 : decode cX5_stage 46 = .ok (.getfield 54, 3) := by decide +kernel
theorem dX5_stage_49 : decode cX5_stage 49 = .ok (.getfield 61, 3) := by decide +kernel
theorem dX5_stage_52 : decode cX5_stage 52 = .ok (.iload_n 1, 1) := by decide +kernel
theorem dX5_stage_53 : decode cX5_stage 53 = .ok (.iaload, 1) := by decide +kernel
theorem dX5_stage_54 : decode cX5_stage 54 = .ok (.imul, 1) := by decide +kernel
theorem dX5_stage_55 : decode cX5_stage 55 = .ok (.aload_n 0, 1) := by decide +kernel
theorem dX5_stage_56 : decode cX5_stage 56 = .ok (.getfield 12, 3) := by decide +kernel
theorem dX5_stage_59 : decode cX5_stage 59 = .ok (.getfield 54, 3) := by decide +kernel
theorem dX5_stage_62 : decode cX5_stage 62 = .ok (.getfield 65, 3) := by decide +kernel
theorem dX5_stage_65 : decode cX5_stage 65 = .ok (.iload_n 1, 1) := by decide +kernel
theorem dX5_stage_66 : decode cX5_stage 66 = .ok (.iaload, 1) := by decide +kernel
theorem dX5_stage_67 : decode cX5_stage 67 = .ok (.iadd, 1) := by decide +kernel
theorem dX5_stage_68 : decode cX5_stage 68 = .ok (.istore 4, 2) := by decide +kernel
theorem dX5_stage_70 : decode cX5_stage 70 = .ok (.aload_n 0, 1) := by decide +kernel
theorem dX5_stage_71 : decode cX5_stage 71 = .ok (.getfield 19, 3) := by decide +kernel
theorem dX5_stage_74 : decode cX5_stage 74 = .ok (.aload_n 0, 1) := by decide +kernel
theorem dX5_stage_75 : decode cX5_stage 75 = .ok (.getfield 12, 3) := by decide +kernel
theorem dX5_stage_78 : decode cX5_stage 78 = .ok (.invokevirtual 46, 3) := by decide +kernel
theorem dX5_stage_81 : decode cX5_stage 81 = .ok (.aload_n 0, 1) := by decide +kernel
theorem dX5_stage_82 : decode cX5_stage 82 = .ok (.getfield 12, 3) := by decide +kernel
theorem dX5_stage_85 : decode cX5_stage 85 = .ok (.getfield 54, 3) := by decide +kernel
theorem dX5_stage_88 : decode cX5_stage 88 = .ok (.iload_n 1, 1) := by decide +kernel
theorem dX5_stage_89 : decode cX5_stage 89 = .ok (.iload_n 2, 1) := by decide +kernel
theorem dX5_stage_90 : decode cX5_stage 90 = .ok (.iload_n 3, 1) := by decide +kernel
theorem dX5_stage_91 : decode cX5_stage 91 = .ok (.invokevirtual 68, 3) := by decide +kernel
theorem dX5_stage_94 : decode cX5_stage 94 = .ok (.iload 4, 2) := by decide +kernel
theorem dX5_stage_96 : decode cX5_stage 96 = .ok (.ireturn, 1) := by decide +kernel
set_option maxRecDepth 20000 in
theorem ggX5_set_X5_outside : GoodIn wsX5_set wsX5_outside := goodIn_r _ [10] (by decide +kernel) (by decide +kernel)
set_option maxRecDepth 20000 in
theorem gX5_set_X5_outside : GoodIn wsX5_set (va_wsS RX5 37 yX5_outside wsX5_outside) := goodIn_app (goodIn_of _ (by decide +kernel)) ggX5_set_X5_outside
set_option maxRecDepth 20000 in
theorem ggX5_set_X0_keep : GoodIn wsX5_set wsX0_keep := goodIn_r _ [15, 16, 17, 18, 19, 20, 21, 22, 23, 24, 25, 26, 27, 28, 29, 30, 31, 32, 33, 34, 35, 36, 37, 38, 39, 40, 41, 42, 43, 44, 45, 46, 47, 48, 49, 50, 51, 52, 53, 54, 55, 56, 57, 58, 72, 73, 74, 63, 64, 65, 66, 67, 68, 69, 70, 71, 75, 76, 77, 78, 79, 80, 81, 82, 83, 84] (by decide +kernel) (by decide +kernel)
set_option maxRecDepth 20000 in
theorem gX5_set_X0_keep : GoodIn wsX5_set (wsV RX5 46 RX0 yX0_keep wsX0_keep) := goodIn_app (goodIn_of _ (by decide +kernel)) ggX5_set_X0_keep
theorem dX5_set_0 : decode cX5_set 0 = .ok (.iload_n 1, 1) := by decide +kernel
theorem dX5_set_1 : decode cX5_set 1 = .ok (.iconst 0, 1) := by decide +kernel
theorem dX5_set_2 : decode cX5_set 2 = .ok (.iconst 4, 1) := by decide +kernel
theorem dX5_set_3 : decode cX5_set 3 = .ok (.invokestatic 37, 3) := by decide +kernel
theorem dX5_set_6 : decode cX5_set 6 = .ok (.ifCond .ne 20, 3) := by decide +kernel
theorem dX5_set_9 : decode cX5_set 9 = .ok (.iload_n 2, 1) := by decide +kernel
theorem dX5_set_10 : decode cX5_set 10 = .ok (.getstatic 72, 3) := by decide +kernel
theorem dX5_set_13 : decode cX5_set 13 = .ok (.iload_n 1, 1) := by decide +kernel
theorem dX5_set_14 : decode cX5_set 14 = .ok (.iaload, 1) := by decide +kernel
theorem dX5_set_15 : decode cX5_set 15 = .ok (.getstatic 75, 3) := by decide +kernel
theorem dX5_set_18 : decode cX5_set 18 = .ok (.iload_n 1, 1) := by decide +kernel
theorem dX5_set_19 : decode cX5_set 19 = .ok (.iaload, 1) := by decide +kernel
theorem dX5_set_20 : decode cX5_set 20 = .ok (.invokestatic 37, 3) := by decide +kernel
theorem dX5_set_23 : decode cX5_set 23 = .ok (.ifCond .eq 6, 3) := by decide +kernel
theorem dX5_set_26 : decode cX5_set 26 = .ok (.ldc 41, 2) := by decide +kernel
theorem dX5_set_28 : decode cX5_set 28 = .ok (.ireturn, 1) := by decide +kernel
theorem dX5_set_29 : decode cX5_set 29 = .ok (.aload_n 0, 1) := by decide +kernel
theorem dX5_set_30 : decode cX5_set 30 = .ok (.getfield 12, 3) := by decide +kernel
theorem dX5_set_33 : decode cX5_set 33 = .ok (.getfield 78, 3) := by decide +kernel
theorem dX5_set_36 : decode cX5_set 36 = .ok (.iload_n 1, 1) := by decide +kernel
theorem dX5_set_37 : decode cX5_set 37 = .ok (.iaload, 1) := by decide +kernel
theorem dX5_set_38 : decode cX5_set 38 = .ok (.istore_n 3, 1) := by decide +kernel
theorem dX5_set_39 : decode cX5_set 39 = .ok (.aload_n 0, 1) := by decide +kernel
theorem dX5_set_40 : decode cX5_set 40 = .ok (.getfield 19, 3) := by decide +kernel
theorem dX5_set_43 : decode cX5_set 43 = .ok (.aload_n 0, 1) := by decide +kernel
theorem dX5_set_44 : decode cX5_set 44 = .ok (.getfield 12, 3) := by decide +kernel
theorem dX5_set_47 : decode cX5_set 47 = .ok (.invokevirtual 46, 3) := by decide +kernel
theorem dX5_set_50 : decode cX5_set 50 = .ok (.aload_n 0, 1) := by decide +kernel
theorem dX5_set_51 : decode cX5_set 51 = .ok (.getfield 12, 3) := by decide +kernel
theorem dX5_set_54 : decode cX5_set 54 = .ok (.getfield 78, 3) := by decide +kernel
theorem dX5_set_57 : decode cX5_set 57 = .ok (.iload_n 1, 1) := by decide +kernel
theorem dX5_set_58 : decode cX5_set 58 = .ok (.iload_n 2, 1) := by decide +kernel
theorem dX5_set_59 : decode cX5_set 59 = .ok (.iastore, 1) := by decide +kernel
theorem dX5_set_60 : decode cX5_set 60 = .ok (.iload_n 3, 1) := by decide +kernel
theorem dX5_set_61 : decode cX5_set 61 = .ok (.ireturn, 1) := by decide +kernel
set_option maxRecDepth 20000 in
theorem ggX5_give_X5_outside : GoodIn wsX5_give wsX5_outside := goodIn_r _ [5] (by decide +kernel) (by decide +kernel)
set_option maxRecDepth 20000 in
theorem gX5_give_X5_outside : GoodIn wsX5_give (va_wsS RX5 37 yX5_outside wsX5_outside) := goodIn_app (goodIn_of _ (by decide +kernel)) ggX5_give_X5_outside
set_option maxRecDepth 20000 in
theorem ggX5_give_X5_takeTimes : GoodIn wsX5_give wsX5_takeTimes := goodIn_r _ [9, 10, 11, 12, 13, 14, 15, 16, 17, 18, 19, 20, 21, 22, 23, 24, 25, 26, 27, 28, 29, 30, 31, 32, 33, 34, 35, 36, 37, 38, 39, 40, 41, 42, 43, 44, 45, 46, 47, 48, 49, 50, 51, 52, 53, 54, 55, 56, 57, 58, 59, 60, 61, 62, 63, 64, 65, 66, 67, 68, 69, 70, 71, 72, 73, 74, 75, 76, 77, 78, 79, 80, 81, 82, 83, 84, 85, 86, 87, 88, 89, 90, 91, 92, 93, 94, 95, 96, 97, 98, 99, 100, 101, 102, 103, 104, 105, 106, 107, 108, 109, 110, 111, 112, 113, 114, 115, 116, 117, 118, 119, 120, 121, 122, 123, 124, 125, 126, 127, 128, 129, 130, 131, 132, 133, 134, 135, 136, 137, 138, 139, 140, 141, 142, 143, 144, 145, 146, 147, 148, 149, 150, 151, 152, 153, 154, 155, 156, 157, 158, 159, 160, 161] (by decide +kernel) (by decide +kernel)
set_option maxRecDepth 20000 in
theorem gX5_give_X5_takeTimes : GoodIn wsX5_give (wsV RX5 81 RX5 yX5_takeTimes wsX5_takeTimes) := goodIn_app (goodIn_of _ (by decide +kernel)) ggX5_give_X5_takeTimes
theorem dX5_give_0 : decode cX5_give 0 = .ok (.iload_n 1, 1) := by decide +kernel
theorem dX5_give_1 : decode cX5_give 1 = .ok (.iconst 0, 1) := by decide +kernel
theorem dX5_give_2 : decode cX5_give 2 = .ok (.sipush 10000, 3) := by decide +kernel
theorem dX5_give_5 : decode cX5_give 5 = .ok (.invokestatic 37, 3) := by decide +kernel
theorem dX5_give_8 : decode cX5_give 8 = .ok (.ifCond .eq 6, 3) := by decide +kernel
theorem dX5_give_11 : decode cX5_give 11 = .ok (.ldc 41, 2) := by decide +kernel
theorem dX5_give_13 : decode cX5_give 13 = .ok (.ireturn, 1) := by decide +kernel
theorem dX5_give_14 : decode cX5_give 14 = .ok (.aload_n 0, 1) := by decide +kernel
theorem dX5_give_15 : decode cX5_give 15 = .ok (.iload_n 1, 1) := by decide +kernel
theorem dX5_give_16 : decode cX5_give 16 = .ok (.iconst 1, 1) := by decide +kernel
theorem dX5_give_17 : decode cX5_give 17 = .ok (.invokevirtual 81, 3) := by decide +kernel
theorem dX5_give_20 : decode cX5_give 20 = .ok (.ireturn, 1) := by decide +kernel
set_option maxRecDepth 20000 in
theorem ggX5_idle_X5_outside : GoodIn wsX5_idle wsX5_outside := goodIn_r _ [5] (by decide +kernel) (by decide +kernel)
set_option maxRecDepth 20000 in
theorem gX5_idle_X5_outside : GoodIn wsX5_idle (va_wsS RX5 37 yX5_outside wsX5_outside) := goodIn_app (goodIn_of _ (by decide +kernel)) ggX5_idle_X5_outside
set_option maxRecDepth 20000 in
theorem ggX5_idle_X5_takeTimes : GoodIn wsX5_idle wsX5_takeTimes := goodIn_r _ [9, 10, 11, 12, 13, 14, 15, 16, 17, 18, 19, 20, 21, 22, 23, 24, 25, 26, 27, 28, 29, 30, 31, 32, 33, 34, 35, 36, 37, 38, 39, 40, 41, 42, 43, 44, 45, 46, 47, 48, 49, 50, 51, 52, 53, 54, 55, 56, 57, 58, 59, 60, 61, 62, 63, 64, 65, 66, 67, 68, 69, 70, 71, 72, 73, 74, 75, 76, 77, 78, 79, 80, 81, 82, 83, 84, 85, 86, 87, 88, 89, 90, 91, 92, 93, 94, 95, 96, 97, 98, 99, 100, 101, 102, 103, 104, 105, 106, 107, 108, 109, 110, 111, 112, 113, 114, 115, 116, 117, 118, 119, 120, 121, 122, 123, 124, 125, 126, 127, 128, 129, 130, 131, 132, 133, 134, 135, 136, 137, 138, 139, 140, 141, 142, 143, 144, 145, 146, 147, 148, 149, 150, 151, 152, 153, 154, 155, 156, 157, 158, 159, 160, 161] (by decide +kernel) (by decide +kernel)
set_option maxRecDepth 20000 in
theorem gX5_idle_X5_takeTimes : GoodIn wsX5_idle (wsV RX5 81 RX5 yX5_takeTimes wsX5_takeTimes) := goodIn_app (goodIn_of _ (by decide +kernel)) ggX5_idle_X5_takeTimes
theorem dX5_idle_0 : decode cX5_idle 0 = .ok (.iload_n 1, 1) := by decide +kernel
theorem dX5_idle_1 : decode cX5_idle 1 = .ok (.iconst 1, 1) := by decide +kernel
theorem dX5_idle_2 : decode cX5_idle 2 = .ok (.bipush 40, 2) := by decide +kernel
theorem dX5_idle_4 : decode cX5_idle 4 = .ok (.invokestatic 37, 3) := by decide +kernel
theorem dX5_idle_7 : decode cX5_idle 7 = .ok (.ifCond .eq 6, 3) := by decide +kernel
theorem dX5_idle_10 : decode cX5_idle 10 = .ok (.ldc 41, 2) := by decide +kernel
theorem dX5_idle_12 : decode cX5_idle 12 = .ok (.ireturn, 1) := by decide +kernel
theorem dX5_idle_13 : decode cX5_idle 13 = .ok (.aload_n 0, 1) := by decide +kernel
theorem dX5_idle_14 : decode cX5_idle 14 = .ok (.iconst 0, 1) := by decide +kernel
theorem dX5_idle_15 : decode cX5_idle 15 = .ok (.iload_n 1, 1) := by decide +kernel
theorem dX5_idle_16 : decode cX5_idle 16 = .ok (.invokevirtual 81, 3) := by decide +kernel
theorem dX5_idle_19 : decode cX5_idle 19 = .ok (.ireturn, 1) := by decide +kernel
set_option maxRecDepth 20000 in
theorem ggX5_takeTimes_X1_handOversBehind : GoodIn wsX5_takeTimes wsX1_handOversBehind := goodIn_r _ [9, 10, 11, 12, 13, 8, 14, 15, 131, 132, 133, 134, 135, 136, 137, 138, 139] (by decide +kernel) (by decide +kernel)
set_option maxRecDepth 20000 in
theorem gX5_takeTimes_X1_handOversBehind : GoodIn wsX5_takeTimes (wsV RX5 85 RX1 yX1_handOversBehind wsX1_handOversBehind) := goodIn_app (goodIn_of _ (by decide +kernel)) ggX5_takeTimes_X1_handOversBehind
set_option maxRecDepth 20000 in
theorem ggX5_takeTimes_X0_keep : GoodIn wsX5_takeTimes wsX0_keep := goodIn_r _ [20, 21, 22, 23, 24, 25, 26, 8, 27, 28, 29, 15, 30, 31, 32, 33, 10, 34, 35, 36, 37, 38, 39, 40, 41, 42, 43, 44, 45, 46, 47, 48, 49, 50, 51, 52, 53, 54, 55, 56, 57, 58, 59, 60, 140, 141, 142, 131, 132, 133, 134, 135, 136, 137, 138, 139, 143, 144, 145, 146, 147, 148, 149, 150, 151, 152] (by decide +kernel) (by decide +kernel)
set_option maxRecDepth 20000 in
theorem gX5_takeTimes_X0_keep : GoodIn wsX5_takeTimes (wsV RX5 46 RX0 yX0_keep wsX0_keep) := goodIn_app (goodIn_of _ (by decide +kernel)) ggX5_takeTimes_X0_keep
set_option maxRecDepth 20000 in
theorem ggX5_takeTimes_X1_take : GoodIn wsX5_takeTimes wsX1_take := goodIn_r _ [64, 10, 34, 15, 11, 12, 13, 8, 14, 65, 66, 67, 68, 69, 70, 71, 72, 28, 35, 36, 37, 73, 38, 29, 74, 75, 76, 42, 77, 44, 45, 78, 79, 80, 81, 52, 51, 49, 50, 82, 83, 84, 85, 47, 86, 87, 88, 89, 48, 90, 91, 92, 93, 94, 95, 96, 97, 98, 99, 100, 56, 101, 58, 60, 102, 103, 104, 105, 106, 107, 108, 109, 110, 111, 112, 113, 114, 115, 116, 117, 118, 119, 120, 121, 122, 123, 124, 125, 126, 131, 132, 133, 134, 135, 136, 137, 138, 139, 143, 144, 145, 146, 147, 148, 149, 150, 151, 152] (by decide +kernel) (by decide +kernel)
set_option maxRecDepth 20000 in
theorem gX5_takeTimes_X1_take : GoodIn wsX5_takeTimes (wsV RX5 90 RX1 yX1_take wsX1_take) := goodIn_app (goodIn_of _ (by decide +kernel)) ggX5_takeTimes_X1_take
theorem dX5_takeTimes_0 : decode cX5_takeTimes 0 = .ok (.aload_n 0, 1) := by decide +kernel
theorem dX5_takeTimes_1 : decode cX5_takeTimes 1 = .ok (.getfield 12, 3) := by decide +kernel
theorem dX5_takeTimes_4 : decode cX5_takeTimes 4 = .ok (.getfield 42, 3) := by decide +kernel
theorem dX5_takeTimes_7 : decode cX5_takeTimes 7 = .ok (.istore_n 3, 1) := by decide +kernel
theorem dX5_takeTimes_8 : decode cX5_takeTimes 8 = .ok (.aload_n 0, 1) := by decide +kernel
theorem dX5_takeTimes_9 : decode cX5_takeTimes 9 = .ok (.getfield 12, 3) := by decide +kernel
theorem dX5_takeTimes_12 : decode cX5_takeTimes 12 = .ok (.iload_n 2, 1) := by decide +kernel
theorem dX5_takeTimes_13 : decode cX5_takeTimes 13 = .ok (.invokevirtual 85, 3) := by decide +kernel
theorem dX5_takeTimes_16 : decode cX5_takeTimes 16 = .ok (.sipush 999, 3) := by decide +kernel
theorem dX5_takeTimes_19 : decode cX5_takeTimes 19 = .ok (.if_icmp .le 6, 3) := by decide +kernel
theorem dX5_takeTimes_22 : decode cX5_takeTimes 22 = .ok (.ldc 89, 2) := by decide +kernel
theorem dX5_takeTimes_24 : decode cX5_takeTimes 24 = .ok (.ireturn, 1) := by decide +kernel
theorem dX5_takeTimes_25 : decode cX5_takeTimes 25 = .ok (.aload_n 0, 1) := by decide +kernel
theorem dX5_takeTimes_26 : decode cX5_takeTimes 26 = .ok (.getfield 19, 3) := by decide +kernel
theorem dX5_takeTimes_29 : decode cX5_takeTimes 29 = .ok (.aload_n 0, 1) := by decide +kernel
theorem dX5_takeTimes_30 : decode cX5_takeTimes 30 = .ok (.getfield 12, 3) := by decide +kernel
theorem dX5_takeTimes_33 : decode cX5_takeTimes 33 = .ok (.invokevirtual 46, 3) := by decide +kernel
theorem dX5_takeTimes_36 : decode cX5_takeTimes 36 = .ok (.iconst 0, 1) := by decide +kernel
theorem dX5_takeTimes_37 : decode cX5_takeTimes 37 = .ok (.istore 4, 2) := by decide +kernel
theorem dX5_takeTimes_39 : decode cX5_takeTimes 39 = .ok (.iload 4, 2) := by decide +kernel
theorem dX5_takeTimes_41 : decode cX5_takeTimes 41 = .ok (.iload_n 2, 1) := by decide +kernel
theorem dX5_takeTimes_42 : decode cX5_takeTimes 42 = .ok (.if_icmp .ge 17, 3) := by decide +kernel
theorem dX5_takeTimes_45 : decode cX5_takeTimes 45 = .ok (.aload_n 0, 1) := by decide +kernel
theorem dX5_takeTimes_46 : decode cX5_takeTimes 46 = .ok (.getfield 12, 3) := by decide +kernel
theorem dX5_takeTimes_49 : decode cX5_takeTimes 49 = .ok (.iload_n 1, 1) := by decide +kernel
theorem dX5_takeTimes_50 : decode cX5_takeTimes 50 = .ok (.invokevirtual 90, 3) := by decide +kernel
theorem dX5_takeTimes_53 : decode cX5_takeTimes 53 = .ok (.iinc 4 1, 3) := by decide +kernel
theorem dX5_takeTimes_56 : decode cX5_takeTimes 56 = .ok (.goto (-17), 3) := by decide +kernel
theorem dX5_takeTimes_59 : decode cX5_takeTimes 59 = .ok (.aload_n 0, 1) := by decide +kernel
theorem dX5_takeTimes_60 : decode cX5_takeTimes 60 = .ok (.getfield 12, 3) := by decide +kernel
theorem dX5_takeTimes_63 : decode cX5_takeTimes 63 = .ok (.getfield 42, 3) := by decide +kernel
theorem dX5_takeTimes_66 : decode cX5_takeTimes 66 = .ok (.iload_n 3, 1) := by decide +kernel
theorem dX5_takeTimes_67 : decode cX5_takeTimes 67 = .ok (.isub, 1) := by decide +kernel
theorem dX5_takeTimes_68 : decode cX5_takeTimes 68 = .ok (.ireturn, 1) := by decide +kernel
set_option maxRecDepth 20000 in
theorem ggX5_stageOf_X3_has : GoodIn wsX5_stageOf wsX3_has := goodIn_r _ [11, 12, 43, 44, 45, 46, 47, 48, 49, 50] (by decide +kernel) (by decide +kernel)
set_option maxRecDepth 20000 in
theorem gX5_stageOf_X3_has : GoodIn wsX5_stageOf (wsV RX5 57 RX3 yX3_has wsX3_has) := goodIn_app (goodIn_of _ (by decide +kernel)) ggX5_stageOf_X3_has
set_option maxRecDepth 20000 in
theorem ggX5_stageOf_X3_staying : GoodIn wsX5_stageOf wsX3_staying := goodIn_r _ [16, 17, 18, 43, 44, 45, 46, 47, 48, 49, 50] (by decide +kernel) (by decide +kernel)
set_option maxRecDepth 20000 in
theorem gX5_stageOf_X3_staying : GoodIn wsX5_stageOf (wsV RX5 96 RX3 yX3_staying wsX3_staying) := goodIn_app (goodIn_of _ (by decide +kernel)) ggX5_stageOf_X3_staying
set_option maxRecDepth 20000 in
theorem ggX5_stageOf_X3_leaking : GoodIn wsX5_stageOf wsX3_leaking := goodIn_r _ [22, 17, 23, 24, 14, 15, 10, 16, 18, 43, 44, 45, 46, 47, 48, 49, 50] (by decide +kernel) (by decide +kernel)
set_option maxRecDepth 20000 in
theorem gX5_stageOf_X3_leaking : GoodIn wsX5_stageOf (wsV RX5 99 RX3 yX3_leaking wsX3_leaking) := goodIn_app (goodIn_of _ (by decide +kernel)) ggX5_stageOf_X3_leaking
set_option maxRecDepth 20000 in
theorem ggX5_stageOf_X3_leaving : GoodIn wsX5_stageOf wsX3_leaving := goodIn_r _ [28, 17, 24, 14, 15, 10, 16, 18, 29, 20, 21, 22, 23, 43, 44, 45, 46, 47, 48, 49, 50] (by decide +kernel) (by decide +kernel)
set_option maxRecDepth 20000 in
theorem gX5_stageOf_X3_leaving : GoodIn wsX5_stageOf (wsV RX5 102 RX3 yX3_leaving wsX3_leaving) := goodIn_app (goodIn_of _ (by decide +kernel)) ggX5_stageOf_X3_leaving
theorem dX5_stageOf_0 : decode cX5_stageOf 0 = .ok (.aload_n 0, 1) := by decide +kernel
theorem dX5_stageOf_1 : decode cX5_stageOf 1 = .ok (.getfield 12, 3) := by decide +kernel
theorem dX5_stageOf_4 : decode cX5_stageOf 4 = .ok (.getfield 54, 3) := by decide +kernel
theorem dX5_stageOf_7 : decode cX5_stageOf 7 = .ok (.iload_n 1, 1) := by decide +kernel
theorem dX5_stageOf_8 : decode cX5_stageOf 8 = .ok (.invokevirtual 57, 3) := by decide +kernel
theorem dX5_stageOf_11 : decode cX5_stageOf 11 = .ok (.ifCond .ne 6, 3) := by decide +kernel
theorem dX5_stageOf_14 : decode cX5_stageOf 14 = .ok (.ldc 41, 2) := by decide +kernel
theorem dX5_stageOf_16 : decode cX5_stageOf 16 = .ok (.ireturn, 1) := by decide +kernel
theorem dX5_stageOf_17 : decode cX5_stageOf 17 = .ok (.iload_n 2, 1) := by decide +kernel
theorem dX5_stageOf_18 : decode cX5_stageOf 18 = .ok (.tableswitch 113 0 5 #[38, 51, 64, 77, 89, 101], 38) := by decide +kernel
theorem dX5_stageOf_56 : decode cX5_stageOf 56 = .ok (.aload_n 0, 1) := by decide +kernel
theorem dX5_stageOf_57 : decode cX5_stageOf 57 = .ok (.getfield 12, 3) := by decide +kernel
theorem dX5_stageOf_60 : decode cX5_stageOf 60 = .ok (.getfield 54, 3) := by decide +kernel
theorem dX5_stageOf_63 : decode cX5_stageOf 63 = .ok (.getfield 93, 3) := by decide +kernel
theorem dX5_stageOf_66 : decode cX5_stageOf 66 = .ok (.iload_n 1, 1) := by decide +kernel
theorem dX5_stageOf_67 : decode cX5_stageOf 67 = .ok (.iaload, 1) := by decide +kernel
theorem dX5_stageOf_68 : decode cX5_stageOf 68 = .ok (.ireturn, 1) := by decide +kernel
theorem dX5_stageOf_69 : decode cX5_stageOf 69 = .ok (.aload_n 0, 1) := by decide +kernel
theorem dX5_stageOf_70 : decode cX5_stageOf 70 = .ok (.getfield 12, 3) := by decide +kernel
theorem dX5_stageOf_73 : decode cX5_stageOf 73 = .ok (.getfield 54, 3) := by decide +kernel
theorem dX5_stageOf_76 : decode cX5_stageOf 76 = .ok (.getfield 61, 3) := by decide +kernel
theorem dX5_stageOf_79 : decode cX5_stageOf 79 = .ok (.iload_n 1, 1) := by decide +kernel
theorem dX5_stageOf_80 : decode cX5_stageOf 80 = .ok (.iaload, 1) := by decide +kernel
theorem dX5_stageOf_81 : decode cX5_stageOf 81 = .ok (.ireturn, 1) := by decide +kernel
theorem dX5_stageOf_82 : decode cX5_stageOf 82 = .ok (.aload_n 0, 1) := by decide +kernel
theorem dX5_stageOf_83 : decode cX5_stageOf 83 = .ok (.getfield 12, 3) := by decide +kernel
theorem dX5_stageOf_86 : decode cX5_stageOf 86 = .ok (.getfield 54, 3) := by decide +kernel
theorem dX5_stageOf_89 : decode cX5_stageOf 89 = .ok (.getfield 65, 3) := by decide +kernel
theorem dX5_stageOf_92 : decode cX5_stageOf 92 = .ok (.iload_n 1, 1) := by decide +kernel
theorem dX5_stageOf_93 : decode cX5_stageOf 93 = .ok (.iaload, 1) := by decide +kernel
theorem dX5_stageOf_94 : decode cX5_stageOf 94 = .ok (.ireturn, 1) := by decide +kernel
theorem dX5_stageOf_95 : decode cX5_stageOf 95 = .ok (.aload_n 0, 1) := by decide +kernel
theorem dX5_stageOf_96 : decode cX5_stageOf 96 = .ok (.getfield 12, 3) := by decide +kernel
theorem dX5_stageOf_99 : decode cX5_stageOf 99 = .ok (.getfield 54, 3) := by decide +kernel
theorem dX5_stageOf_102 : decode cX5_stageOf 102 = .ok (.iload_n 1, 1) := by decide +kernel
theorem dX5_stageOf_103 : decode cX5_stageOf 103 = .ok (.invokevirtual 96, 3) := by decide +kernel
theorem dX5_stageOf_106 : decode cX5_stageOf 106 = .ok (.ireturn, 1) := by decide +kernel
theorem dX5_stageOf_107 : decode cX5_stageOf 107 = .ok (.aload_n 0, 1) := by decide +kernel
theorem dX5_stageOf_108 : decode cX5_stageOf 108 = .ok (.getfield 12, 3) := by decide +kernel
theorem dX5_stageOf_111 : decode cX5_stageOf 111 = .ok (.getfield 54, 3) := by decide +kernel
theorem dX5_stageOf_114 : decode cX5_stageOf 114 = .ok (.iload_n 1, 1) := by decide +kernel
theorem dX5_stageOf_115 : decode cX5_stageOf 115 = .ok (.invokevirtual 99, 3) := by decide +kernel
theorem dX5_stageOf_118 : decode cX5_stageOf 118 = .ok (.ireturn, 1) := by decide +kernel
theorem dX5_stageOf_119 : decode cX5_stageOf 119 = .ok (.aload_n 0, 1) := by decide +kernel
theorem dX5_stageOf_120 : decode cX5_stageOf 120 = .ok (.getfield 12, 3) := by decide +kernel
theorem dX5_stageOf_123 : decode cX5_stageOf 123 = .ok (.getfield 54, 3) := by decide +kernel
theorem dX5_stageOf_126 : decode cX5_stageOf 126 = .ok (.iload_n 1, 1) := by decide +kernel
theorem dX5_stageOf_127 : decode cX5_stageOf 127 = .ok (.invokevirtual 102, 3) := by decide +kernel
theorem dX5_stageOf_130 : decode cX5_stageOf 130 = .ok (.ireturn, 1) := by decide +kernel
theorem dX5_stageOf_131 : decode cX5_stageOf 131 = .ok (.ldc 41, 2) := by decide +kernel
theorem dX5_stageOf_133 : decode cX5_stageOf 133 = .ok (.ireturn, 1) := by decide +kernel
set_option maxRecDepth 20000 in
theorem ggX5_outputOf_X5_outside : GoodIn wsX5_outputOf wsX5_outside := goodIn_r _ [11] (by decide +kernel) (by decide +kernel)
set_option maxRecDepth 20000 in
theorem gX5_outputOf_X5_outside : GoodIn wsX5_outputOf (va_wsS RX5 37 yX5_outside wsX5_outside) := goodIn_app (goodIn_of _ (by decide +kernel)) ggX5_outputOf_X5_outside
set_option maxRecDepth 20000 in
theorem ggX5_outputOf_X1_keptOutputs : GoodIn wsX5_outputOf wsX1_keptOutputs := goodIn_r _ [16, 17, 18, 19, 20, 21, 22, 23, 24, 25, 26, 49, 50, 51, 52, 53, 54, 55, 56, 57, 58, 59, 60, 61, 62, 63, 64, 65] (by decide +kernel) (by decide +kernel)
set_option maxRecDepth 20000 in
theorem gX5_outputOf_X1_keptOutputs : GoodIn wsX5_outputOf (wsV RX5 105 RX1 yX1_keptOutputs wsX1_keptOutputs) := goodIn_app (goodIn_of _ (by decide +kernel)) ggX5_outputOf_X1_keptOutputs
set_option maxRecDepth 20000 in
theorem ggX5_outputOf_X1_sourceSlot : GoodIn wsX5_outputOf wsX1_sourceSlot := goodIn_r _ [30, 18, 19, 49, 50, 51, 52, 53, 54, 55, 56, 57, 58, 59, 60, 61, 62, 63, 64, 65] (by decide +kernel) (by decide +kernel)
set_option maxRecDepth 20000 in
theorem gX5_outputOf_X1_sourceSlot : GoodIn wsX5_outputOf (wsV RX5 113 RX1 yX1_sourceSlot wsX1_sourceSlot) := goodIn_app (goodIn_of _ (by decide +kernel)) ggX5_outputOf_X1_sourceSlot
set_option maxRecDepth 20000 in
theorem ggX5_outputOf_X1_isOfReference : GoodIn wsX5_outputOf wsX1_isOfReference := goodIn_r _ [34, 35, 36, 28, 29, 15, 30, 18, 19, 49, 50, 51, 52, 53, 54, 55, 56, 57, 58, 59, 60, 61, 62, 63, 64, 65] (by decide +kernel) (by decide +kernel)
set_option maxRecDepth 20000 in
theorem gX5_outputOf_X1_isOfReference : GoodIn wsX5_outputOf (wsV RX5 122 RX1 yX1_isOfReference wsX1_isOfReference) := goodIn_app (goodIn_of _ (by decide +kernel)) ggX5_outputOf_X1_isOfReference
set_option maxRecDepth 20000 in
theorem ggX5_outputOf_X1_errorOf : GoodIn wsX5_outputOf wsX1_errorOf := goodIn_r _ [40, 41, 42, 43, 44, 36, 28, 29, 15, 30, 18, 19, 49, 50, 51, 52, 53, 54, 55, 56, 57, 58, 59, 60, 61, 62, 63, 64, 65] (by decide +kernel) (by decide +kernel)
set_option maxRecDepth 20000 in
theorem gX5_outputOf_X1_errorOf : GoodIn wsX5_outputOf (wsV RX5 125 RX1 yX1_errorOf wsX1_errorOf) := goodIn_app (goodIn_of _ (by decide +kernel)) ggX5_outputOf_X1_errorOf
theorem dX5_outputOf_0 : decode cX5_outputOf 0 = .ok (.iload_n 1, 1) := by decide +kernel
theorem dX5_outputOf_1 : decode cX5_outputOf 1 = .ok (.ifCond .lt 12, 3) := by decide +kernel
theorem dX5_outputOf_4 : decode cX5_outputOf 4 = .ok (.iload_n 2, 1) := by decide +kernel
theorem dX5_outputOf_5 : decode cX5_outputOf 5 = .ok (.iconst 0, 1) := by decide +kernel
theorem dX5_outputOf_6 : decode cX5_outputOf 6 = .ok (.iconst 5, 1) := by decide +kernel
theorem dX5_outputOf_7 : decode cX5_outputOf 7 = .ok (.invokestatic 37, 3) := by decide +kernel
theorem dX5_outputOf_10 : decode cX5_outputOf 10 = .ok (.ifCond .eq 6, 3) := by decide +kernel
theorem dX5_outputOf_13 : decode cX5_outputOf 13 = .ok (.ldc 41, 2) := by decide +kernel
theorem dX5_outputOf_15 : decode cX5_outputOf 15 = .ok (.ireturn, 1) := by decide +kernel
theorem dX5_outputOf_16 : decode cX5_outputOf 16 = .ok (.iload_n 1, 1) := by decide +kernel
theorem dX5_outputOf_17 : decode cX5_outputOf 17 = .ok (.aload_n 0, 1) := by decide +kernel
theorem dX5_outputOf_18 : decode cX5_outputOf 18 = .ok (.getfield 12, 3) := by decide +kernel
theorem dX5_outputOf_21 : decode cX5_outputOf 21 = .ok (.invokevirtual 105, 3) := by decide +kernel
theorem dX5_outputOf_24 : decode cX5_outputOf 24 = .ok (.if_icmp .lt 6, 3) := by decide +kernel
theorem dX5_outputOf_27 : decode cX5_outputOf 27 = .ok (.ldc 109, 2) := by decide +kernel
theorem dX5_outputOf_29 : decode cX5_outputOf 29 = .ok (.ireturn, 1) := by decide +kernel
theorem dX5_outputOf_30 : decode cX5_outputOf 30 = .ok (.aload_n 0, 1) := by decide +kernel
theorem dX5_outputOf_31 : decode cX5_outputOf 31 = .ok (.getfield 12, 3) := by decide +kernel
theorem dX5_outputOf_34 : decode cX5_outputOf 34 = .ok (.getfield 42, 3) := by decide +kernel
theorem dX5_outputOf_37 : decode cX5_outputOf 37 = .ok (.iconst 1, 1) := by decide +kernel
theorem dX5_outputOf_38 : decode cX5_outputOf 38 = .ok (.isub, 1) := by decide +kernel
theorem dX5_outputOf_39 : decode cX5_outputOf 39 = .ok (.iload_n 1, 1) := by decide +kernel
theorem dX5_outputOf_40 : decode cX5_outputOf 40 = .ok (.isub, 1) := by decide +kernel
theorem dX5_outputOf_41 : decode cX5_outputOf 41 = .ok (.istore_n 3, 1) := by decide +kernel
theorem dX5_outputOf_42 : decode cX5_outputOf 42 = .ok (.iload_n 2, 1) := by decide +kernel
theorem dX5_outputOf_43 : decode cX5_outputOf 43 = .ok (.tableswitch 95 0 4 #[33, 35, 52, 65, 78], 33) := by decide +kernel
theorem dX5_outputOf_76 : decode cX5_outputOf 76 = .ok (.iload_n 3, 1) := by decide +kernel
theorem dX5_outputOf_77 : decode cX5_outputOf 77 = .ok (.ireturn, 1) := by decide +kernel
theorem dX5_outputOf_78 : decode cX5_outputOf 78 = .ok (.aload_n 0, 1) := by decide +kernel
theorem dX5_outputOf_79 : decode cX5_outputOf 79 = .ok (.getfield 12, 3) := by decide +kernel
theorem dX5_outputOf_82 : decode cX5_outputOf 82 = .ok (.getfield 110, 3) := by decide +kernel
theorem dX5_outputOf_85 : decode cX5_outputOf 85 = .ok (.aload_n 0, 1) := by decide +kernel
theorem dX5_outputOf_86 : decode cX5_outputOf 86 = .ok (.getfield 12, 3) := by decide +kernel
theorem dX5_outputOf_89 : decode cX5_outputOf 89 = .ok (.iload_n 3, 1) := by decide +kernel
theorem dX5_outputOf_90 : decode cX5_outputOf 90 = .ok (.invokevirtual 113, 3) := by decide +kernel
theorem dX5_outputOf_93 : decode cX5_outputOf 93 = .ok (.iaload, 1) := by decide +kernel
theorem dX5_outputOf_94 : decode cX5_outputOf 94 = .ok (.ireturn, 1) := by decide +kernel
theorem dX5_outputOf_95 : decode cX5_outputOf 95 = .ok (.aload_n 0, 1) := by decide +kernel
theorem dX5_outputOf_96 : decode cX5_outputOf 96 = .ok (.getfield 12, 3) := by decide +kernel
theorem dX5_outputOf_99 : decode cX5_outputOf 99 = .ok (.getfield 116, 3) := by decide +kernel
theorem dX5_outputOf_102 : decode cX5_outputOf 102 = .ok (.iload_n 3, 1) := by decide +kernel
theorem dX5_outputOf_103 : decode cX5_outputOf 103 = .ok (.bipush 31, 2) := by decide +kernel
theorem dX5_outputOf_105 : decode cX5_outputOf 105 = .ok (.iand, 1) := by decide +kernel
theorem dX5_outputOf_106 : decode cX5_outputOf 106 = .ok (.iaload, 1) := by decide +kernel
theorem dX5_outputOf_107 : decode cX5_outputOf 107 = .ok (.ireturn, 1) := by decide +kernel
theorem dX5_outputOf_108 : decode cX5_outputOf 108 = .ok (.aload_n 0, 1) := by decide +kernel
theorem dX5_outputOf_109 : decode cX5_outputOf 109 = .ok (.getfield 12, 3) := by decide +kernel
theorem dX5_outputOf_112 : decode cX5_outputOf 112 = .ok (.getfield 119, 3) := by decide +kernel
theorem dX5_outputOf_115 : decode cX5_outputOf 115 = .ok (.iload_n 3, 1) := by decide +kernel
theorem dX5_outputOf_116 : decode cX5_outputOf 116 = .ok (.bipush 31, 2) := by decide +kernel
theorem dX5_outputOf_118 : decode cX5_outputOf 118 = .ok (.iand, 1) := by decide +kernel
theorem dX5_outputOf_119 : decode cX5_outputOf 119 = .ok (.iaload, 1) := by decide +kernel
theorem dX5_outputOf_120 : decode cX5_outputOf 120 = .ok (.ireturn, 1) := by decide +kernel
theorem dX5_outputOf_121 : decode cX5_outputOf 121 = .ok (.aload_n 0, 1) := by decide +kernel
theorem dX5_outputOf_122 : decode cX5_outputOf 122 = .ok (.getfield 12, 3) := by decide +kernel
theorem dX5_outputOf_125 : decode cX5_outputOf 125 = .ok (.iload_n 3, 1) := by decide +kernel
theorem dX5_outputOf_126 : decode cX5_outputOf 126 = .ok (.invokevirtual 122, 3) := by decide +kernel
theorem dX5_outputOf_129 : decode cX5_outputOf 129 = .ok (.ifCond .eq 7, 3) := by decide +kernel
theorem dX5_outputOf_132 : decode cX5_outputOf 132 = .ok (.iconst 1, 1) := by decide +kernel
theorem dX5_outputOf_133 : decode cX5_outputOf 133 = .ok (.goto 4, 3) := by decide +kernel
theorem dX5_outputOf_136 : decode cX5_outputOf 136 = .ok (.iconst 0, 1) := by decide +kernel
theorem dX5_outputOf_137 : decode cX5_outputOf 137 = .ok (.ireturn, 1) := by decide +kernel
theorem dX5_outputOf_138 : decode cX5_outputOf 138 = .ok (.aload_n 0, 1) := by decide +kernel
theorem dX5_outputOf_139 : decode cX5_outputOf 139 = .ok (.getfield 12, 3) := by decide +kernel
theorem dX5_outputOf_142 : decode cX5_outputOf 142 = .ok (.iload_n 3, 1) := by decide +kernel
theorem dX5_outputOf_143 : decode cX5_outputOf 143 = .ok (.invokevirtual 125, 3) := by decide +kernel
theorem dX5_outputOf_146 : decode cX5_outputOf 146 = .ok (.ireturn, 1) := by decide +kernel
set_option maxRecDepth 20000 in
theorem ggX5_pairOf_X5_outside : GoodIn wsX5_pairOf wsX5_outside := goodIn_r _ [10] (by decide +kernel) (by decide +kernel)
set_option maxRecDepth 20000 in
theorem gX5_pairOf_X5_outside : GoodIn wsX5_pairOf (va_wsS RX5 37 yX5_outside wsX5_outside) := goodIn_app (goodIn_of _ (by decide +kernel)) ggX5_pairOf_X5_outside
set_option maxRecDepth 20000 in
theorem ggX5_pairOf_X2_isKnown : GoodIn wsX5_pairOf wsX2_isKnown := goodIn_r _ [15, 16, 30, 31] (by decide +kernel) (by decide +kernel)
set_option maxRecDepth 20000 in
theorem gX5_pairOf_X2_isKnown : GoodIn wsX5_pairOf (wsV RX5 132 RX2 yX2_isKnown wsX2_isKnown) := goodIn_app (goodIn_of _ (by decide +kernel)) ggX5_pairOf_X2_isKnown
theorem dX5_pairOf_0 : decode cX5_pairOf 0 = .ok (.iload_n 1, 1) := by decide +kernel
theorem dX5_pairOf_1 : decode cX5_pairOf 1 = .ok (.iconst 0, 1) := by decide +kernel
theorem dX5_pairOf_2 : decode cX5_pairOf 2 = .ok (.iconst 2, 1) := by decide +kernel
theorem dX5_pairOf_3 : decode cX5_pairOf 3 = .ok (.invokestatic 37, 3) := by decide +kernel
theorem dX5_pairOf_6 : decode cX5_pairOf 6 = .ok (.ifCond .ne 12, 3) := by decide +kernel
theorem dX5_pairOf_9 : decode cX5_pairOf 9 = .ok (.iload_n 2, 1) := by decide +kernel
theorem dX5_pairOf_10 : decode cX5_pairOf 10 = .ok (.iconst 0, 1) := by decide +kernel
theorem dX5_pairOf_11 : decode cX5_pairOf 11 = .ok (.iconst 1, 1) := by decide +kernel
theorem dX5_pairOf_12 : decode cX5_pairOf 12 = .ok (.invokestatic 37, 3) := by decide +kernel
theorem dX5_pairOf_15 : decode cX5_pairOf 15 = .ok (.ifCond .eq 6, 3) := by decide +kernel
theorem dX5_pairOf_18 : decode cX5_pairOf 18 = .ok (.ldc 41, 2) := by decide +kernel
theorem dX5_pairOf_20 : decode cX5_pairOf 20 = .ok (.ireturn, 1) := by decide +kernel
theorem dX5_pairOf_21 : decode cX5_pairOf 21 = .ok (.aload_n 0, 1) := by decide +kernel
theorem dX5_pairOf_22 : decode cX5_pairOf 22 = .ok (.getfield 12, 3) := by decide +kernel
theorem dX5_pairOf_25 : decode cX5_pairOf 25 = .ok (.getfield 128, 3) := by decide +kernel
theorem dX5_pairOf_28 : decode cX5_pairOf 28 = .ok (.iload_n 1, 1) := by decide +kernel
theorem dX5_pairOf_29 : decode cX5_pairOf 29 = .ok (.invokevirtual 132, 3) := by decide +kernel
theorem dX5_pairOf_32 : decode cX5_pairOf 32 = .ok (.ifCond .ne 6, 3) := by decide +kernel
theorem dX5_pairOf_35 : decode cX5_pairOf 35 = .ok (.ldc 109, 2) := by decide +kernel
theorem dX5_pairOf_37 : decode cX5_pairOf 37 = .ok (.ireturn, 1) := by decide +kernel
theorem dX5_pairOf_38 : decode cX5_pairOf 38 = .ok (.iload_n 2, 1) := by decide +kernel
theorem dX5_pairOf_39 : decode cX5_pairOf 39 = .ok (.ifCond .ne 18, 3) := by decide +kernel
theorem dX5_pairOf_42 : decode cX5_pairOf 42 = .ok (.aload_n 0, 1) := by decide +kernel
theorem dX5_pairOf_43 : decode cX5_pairOf 43 = .ok (.getfield 12, 3) := by decide +kernel
theorem dX5_pairOf_46 : decode cX5_pairOf 46 = .ok (.getfield 128, 3) := by decide +kernel
theorem dX5_pairOf_49 : decode cX5_pairOf 49 = .ok (.getfield 137, 3) := by decide +kernel
theorem dX5_pairOf_52 : decode cX5_pairOf 52 = .ok (.iload_n 1, 1) := by decide +kernel
theorem dX5_pairOf_53 : decode cX5_pairOf 53 = .ok (.iaload, 1) := by decide +kernel
theorem dX5_pairOf_54 : decode cX5_pairOf 54 = .ok (.goto 15, 3) := by decide +kernel
theorem dX5_pairOf_57 : decode cX5_pairOf 57 = .ok (.aload_n 0, 1) := by decide +kernel
theorem dX5_pairOf_58 : decode cX5_pairOf 58 = .ok (.getfield 12, 3) := by decide +kernel
theorem dX5_pairOf_61 : decode cX5_pairOf 61 = .ok (.getfield 128, 3) := by decide +kernel
theorem dX5_pairOf_64 : decode cX5_pairOf 64 = .ok (.getfield 138, 3) := by decide +kernel
theorem dX5_pairOf_67 : decode cX5_pairOf 67 = .ok (.iload_n 1, 1) := by decide +kernel
theorem dX5_pairOf_68 : decode cX5_pairOf 68 = .ok (.iaload, 1) := by decide +kernel
theorem dX5_pairOf_69 : decode cX5_pairOf 69 = .ok (.ireturn, 1) := by decide +kernel
set_option maxRecDepth 20000 in
theorem ggX5_mended_X5_outside : GoodIn wsX5_mended wsX5_outside := goodIn_r _ [8] (by decide +kernel) (by decide +kernel)
set_option maxRecDepth 20000 in
theorem gX5_mended_X5_outside : GoodIn wsX5_mended (va_wsS RX5 37 yX5_outside wsX5_outside) := goodIn_app (goodIn_of _ (by decide +kernel)) ggX5_mended_X5_outside
set_option maxRecDepth 20000 in
theorem ggX5_mended_X2_mend : GoodIn wsX5_mended wsX2_mend := goodIn_r _ [13, 14, 15, 16, 17, 18, 12, 19, 20, 21, 22, 23, 24, 25, 26, 27, 28, 29, 30, 31, 32, 33, 34, 35, 36, 37, 51, 52] (by decide +kernel) (by decide +kernel)
set_option maxRecDepth 20000 in
theorem gX5_mended_X2_mend : GoodIn wsX5_mended (wsV RX5 142 RX2 yX2_mend wsX2_mend) := goodIn_app (goodIn_of _ (by decide +kernel)) ggX5_mended_X2_mend
theorem dX5_mended_0 : decode cX5_mended 0 = .ok (.iload_n 1, 1) := by decide +kernel
theorem dX5_mended_1 : decode cX5_mended 1 = .ok (.iconst 0, 1) := by decide +kernel
theorem dX5_mended_2 : decode cX5_mended 2 = .ok (.ldc 141, 2) := by decide +kernel
theorem dX5_mended_4 : decode cX5_mended 4 = .ok (.invokestatic 37, 3) := by decide +kernel
theorem dX5_mended_7 : decode cX5_mended 7 = .ok (.ifCond .eq 6, 3) := by decide +kernel
theorem dX5_mended_10 : decode cX5_mended 10 = .ok (.ldc 41, 2) := by decide +kernel
theorem dX5_mended_12 : decode cX5_mended 12 = .ok (.ireturn, 1) := by decide +kernel
theorem dX5_mended_13 : decode cX5_mended 13 = .ok (.aload_n 0, 1) := by decide +kernel
theorem dX5_mended_14 : decode cX5_mended 14 = .ok (.getfield 12, 3) := by decide +kernel
theorem dX5_mended_17 : decode cX5_mended 17 = .ok (.getfield 128, 3) := by decide +kernel
theorem dX5_mended_20 : decode cX5_mended 20 = .ok (.iload_n 1, 1) := by decide +kernel
theorem dX5_mended_21 : decode cX5_mended 21 = .ok (.invokevirtual 142, 3) := by decide +kernel
theorem dX5_mended_24 : decode cX5_mended 24 = .ok (.ireturn, 1) := by decide +kernel
set_option maxRecDepth 20000 in
theorem ggX5_errors_X5_outside : GoodIn wsX5_errors wsX5_outside := goodIn_r _ [16] (by decide +kernel) (by decide +kernel)
set_option maxRecDepth 20000 in
theorem gX5_errors_X5_outside : GoodIn wsX5_errors (va_wsS RX5 37 yX5_outside wsX5_outside) := goodIn_app (goodIn_of _ (by decide +kernel)) ggX5_errors_X5_outside
set_option maxRecDepth 20000 in
theorem ggX5_errors_X1_keptOutputs : GoodIn wsX5_errors wsX1_keptOutputs := goodIn_r _ [21, 22, 23, 24, 25, 26, 6, 27, 28, 9, 10, 54, 55, 56, 57, 58, 59, 60, 61, 62, 63, 64, 65, 66, 67, 68, 69, 70] (by decide +kernel) (by decide +kernel)
set_option maxRecDepth 20000 in
theorem gX5_errors_X1_keptOutputs : GoodIn wsX5_errors (wsV RX5 105 RX1 yX1_keptOutputs wsX1_keptOutputs) := goodIn_app (goodIn_of _ (by decide +kernel)) ggX5_errors_X1_keptOutputs
set_option maxRecDepth 20000 in
theorem ggX5_errors_X1_isOfReference : GoodIn wsX5_errors wsX1_isOfReference := goodIn_r _ [32, 33, 34, 35, 36, 20, 37, 23, 24, 54, 55, 56, 57, 58, 59, 60, 61, 62, 63, 64, 65, 66, 67, 68, 69, 70] (by decide +kernel) (by decide +kernel)
set_option maxRecDepth 20000 in
theorem gX5_errors_X1_isOfReference : GoodIn wsX5_errors (wsV RX5 122 RX1 yX1_isOfReference wsX1_isOfReference) := goodIn_app (goodIn_of _ (by decide +kernel)) ggX5_errors_X1_isOfReference
set_option maxRecDepth 20000 in
theorem ggX5_errors_X1_errorOf : GoodIn wsX5_errors wsX1_errorOf := goodIn_r _ [41, 42, 43, 44, 45, 34, 35, 36, 20, 37, 23, 24, 54, 55, 56, 57, 58, 59, 60, 61, 62, 63, 64, 65, 66, 67, 68, 69, 70] (by decide +kernel) (by decide +kernel)
set_option maxRecDepth 20000 in
theorem gX5_errors_X1_errorOf : GoodIn wsX5_errors (wsV RX5 125 RX1 yX1_errorOf wsX1_errorOf) := goodIn_app (goodIn_of _ (by decide +kernel)) ggX5_errors_X1_errorOf
set_option maxRecDepth 20000 in
theorem ggX5_errors_X5_bitsOf : GoodIn wsX5_errors wsX5_bitsOf := goodIn_r _ [48, 49] (by decide +kernel) (by decide +kernel)
set_option maxRecDepth 20000 in
theorem gX5_errors_X5_bitsOf : GoodIn wsX5_errors (va_wsS RX5 154 yX5_bitsOf wsX5_bitsOf) := goodIn_app (goodIn_of _ (by decide +kernel)) ggX5_errors_X5_bitsOf
theorem dX5_errors_0 : decode cX5_errors 0 = .ok (.iload_n 1, 1) := by decide +kernel
theorem dX5_errors_1 : decode cX5_errors 1 = .ok (.iconst 0, 1) := by decide +kernel
theorem dX5_errors_2 : decode cX5_errors 2 = .ok (.iconst 3, 1) := by decide +kernel
theorem dX5_errors_3 : decode cX5_errors 3 = .ok (.invokestatic 37, 3) := by decide +kernel
theorem dX5_errors_6 : decode cX5_errors 6 = .ok (.ifCond .eq 6, 3) := by decide +kernel
theorem dX5_errors_9 : decode cX5_errors 9 = .ok (.ldc 41, 2) := by decide +kernel
theorem dX5_errors_11 : decode cX5_errors 11 = .ok (.ireturn, 1) := by decide +kernel
theorem dX5_errors_12 : decode cX5_errors 12 = .ok (.iconst 0, 1) := by decide +kernel
theorem dX5_errors_13 : decode cX5_errors 13 = .ok (.istore_n 2, 1) := by decide +kernel
theorem dX5_errors_14 : decode cX5_errors 14 = .ok (.iconst 0, 1) := by decide +kernel
theorem dX5_errors_15 : decode cX5_errors 15 = .ok (.istore_n 3, 1) := by decide +kernel
theorem dX5_errors_16 : decode cX5_errors 16 = .ok (.iconst 0, 1) := by decide +kernel
theorem dX5_errors_17 : decode cX5_errors 17 = .ok (.istore 4, 2) := by decide +kernel
theorem dX5_errors_19 : decode cX5_errors 19 = .ok (.iconst 0, 1) := by decide +kernel
theorem dX5_errors_20 : decode cX5_errors 20 = .ok (.istore 5, 2) := by decide +kernel
theorem dX5_errors_22 : decode cX5_errors 22 = .ok (.aload_n 0, 1) := by decide +kernel
theorem dX5_errors_23 : decode cX5_errors 23 = .ok (.getfield 12, 3) := by decide +kernel
theorem dX5_errors_26 : decode cX5_errors 26 = .ok (.invokevirtual 105, 3) := by decide +kernel
theorem dX5_errors_29 : decode cX5_errors 29 = .ok (.istore 6, 2) := by decide +kernel
theorem dX5_errors_31 : decode cX5_errors 31 = .ok (.iconst 1, 1) := by decide +kernel
theorem dX5_errors_32 : decode cX5_errors 32 = .ok (.istore 7, 2) := by decide +kernel
theorem dX5_errors_34 : decode cX5_errors 34 = .ok (.iload 7, 2) := by decide +kernel
theorem dX5_errors_36 : decode cX5_errors 36 = .ok (.iload 6, 2) := by decide +kernel
theorem dX5_errors_38 : decode cX5_errors 38 = .ok (.if_icmp .gt 74, 3) := by decide +kernel
theorem dX5_errors_41 : decode cX5_errors 41 = .ok (.aload_n 0, 1) := by decide +kernel
theorem dX5_errors_42 : decode cX5_errors 42 = .ok (.getfield 12, 3) := by decide +kernel
theorem dX5_errors_45 : decode cX5_errors 45 = .ok (.getfield 42, 3) := by decide +kernel
theorem dX5_errors_48 : decode cX5_errors 48 = .ok (.iload 7, 2) := by decide +kernel
theorem dX5_errors_50 : decode cX5_errors 50 = .ok (.isub, 1) := by decide +kernel
theorem dX5_errors_51 : decode cX5_errors 51 = .ok (.istore 8, 2) := by decide +kernel
theorem dX5_errors_53 : decode cX5_errors 53 = .ok (.aload_n 0, 1) := by decide +kernel
theorem dX5_errors_54 : decode cX5_errors 54 = .ok (.getfield 12, 3) := by decide +kernel
theorem dX5_errors_57 : decode cX5_errors 57 = .ok (.iload 8, 2) := by decide +kernel
theorem dX5_errors_59 : decode cX5_errors 59 = .ok (.invokevirtual 122, 3) := by decide +kernel
theorem dX5_errors_62 : decode cX5_errors 62 = .ok (.ifCond .ne 44, 3) := by decide +kernel
theorem dX5_errors_65 : decode cX5_errors 65 = .ok (.aload_n 0, 1) := by decide +kernel
theorem dX5_errors_66 : decode cX5_errors 66 = .ok (.getfield 12, 3) := by decide +kernel
theorem dX5_errors_69 : decode cX5_errors 69 = .ok (.iload 8, 2) := by decide +kernel
theorem dX5_errors_71 : decode cX5_errors 71 = .ok (.invokevirtual 125, 3) := by decide +kernel
theorem dX5_errors_74 : decode cX5_errors 74 = .ok (.istore 9, 2) := by decide +kernel
theorem dX5_errors_76 : decode cX5_errors 76 = .ok (.iinc 2 1, 3) := by decide +kernel
theorem dX5_errors_79 : decode cX5_errors 79 = .ok (.iload_n 3, 1) := by decide +kernel
theorem dX5_errors_80 : decode cX5_errors 80 = .ok (.iload 9, 2) := by decide +kernel
theorem dX5_errors_82 : decode cX5_errors 82 = .ok (.invokestatic 145, 3) := by decide +kernel
theorem dX5_errors_85 : decode cX5_errors 85 = .ok (.invokestatic 150, 3) := by decide +kernel
theorem dX5_errors_88 : decode cX5_errors 88 = .ok (.istore_n 3, 1) := by decide +kernel
theorem dX5_errors_89 : decode cX5_errors 89 = .ok (.iload 4, 2) := by decide +kernel
theorem dX5_errors_91 : decode cX5_errors 91 = .ok (.iload 9, 2) := by decide +kernel
theorem dX5_errors_93 : decode cX5_errors 93 = .ok (.iadd, 1) := by decide +kernel
theorem dX5_errors_94 : decode cX5_errors 94 = .ok (.istore 4, 2) := by decide +kernel
theorem dX5_errors_96 : decode cX5_errors 96 = .ok (.iload 5, 2) := by decide +kernel
theorem dX5_errors_98 : decode cX5_errors 98 = .ok (.iload 9, 2) := by decide +kernel
theorem dX5_errors_100 : decode cX5_errors 100 = .ok (.invokestatic 145, 3) := by decide +kernel
theorem dX5_errors_103 : decode cX5_errors 103 = .ok (.iadd, 1) := by decide +kernel
theorem dX5_errors_104 : decode cX5_errors 104 = .ok (.istore 5, 2) := by decide +kernel
theorem dX5_errors_106 : decode cX5_errors 106 = .ok (.iinc 7 1, 3) := by decide +kernel
theorem dX5_errors_109 : decode cX5_errors 109 = .ok (.goto (-75), 3) := by decide +kernel
theorem dX5_errors_112 : decode cX5_errors 112 = .ok (.iload_n 1, 1) := by decide +kernel
theorem dX5_errors_113 : decode cX5_errors 113 = .ok (.ifCond .ne 5, 3) := by decide +kernel
theorem dX5_errors_116 : decode cX5_errors 116 = .ok (.iload_n 2, 1) := by decide +kernel
theorem dX5_errors_117 : decode cX5_errors 117 = .ok (.ireturn, 1) := by decide +kernel
theorem dX5_errors_118 : decode cX5_errors 118 = .ok (.iload_n 2, 1) := by decide +kernel
theorem dX5_errors_119 : decode cX5_errors 119 = .ok (.ifCond .ne 6, 3) := by decide +kernel
theorem dX5_errors_122 : decode cX5_errors 122 = .ok (.ldc 109, 2) := by decide +kernel
theorem dX5_errors_124 : decode cX5_errors 124 = .ok (.ireturn, 1) := by decide +kernel
theorem dX5_errors_125 : decode cX5_errors 125 = .ok (.iload_n 1, 1) := by decide +kernel
theorem dX5_errors_126 : decode cX5_errors 126 = .ok (.iconst 1, 1) := by decide +kernel
theorem dX5_errors_127 : decode cX5_errors 127 = .ok (.if_icmp .ne 5, 3) := by decide +kernel
theorem dX5_errors_130 : decode cX5_errors 130 = .ok (.iload_n 3, 1) := by decide +kernel
theorem dX5_errors_131 : decode cX5_errors 131 = .ok (.ireturn, 1) := by decide +kernel
theorem dX5_errors_132 : decode cX5_errors 132 = .ok (.iload_n 1, 1) := by decide +kernel
theorem dX5_errors_133 : decode cX5_errors 133 = .ok (.iconst 2, 1) := by decide +kernel
theorem dX5_errors_134 : decode cX5_errors 134 = .ok (.if_icmp .ne 11, 3) := by decide +kernel
theorem dX5_errors_137 : decode cX5_errors 137 = .ok (.iload 4, 2) := by decide +kernel
theorem dX5_errors_139 : decode cX5_errors 139 = .ok (.ldc 153, 2) := by decide +kernel
theorem dX5_errors_141 : decode cX5_errors 141 = .ok (.iadd, 1) := by decide +kernel
theorem dX5_errors_142 : decode cX5_errors 142 = .ok (.goto 12, 3) := by decide +kernel
theorem dX5_errors_145 : decode cX5_errors 145 = .ok (.iload 5, 2) := by decide +kernel
theorem dX5_errors_147 : decode cX5_errors 147 = .ok (.i2f, 1) := by decide +kernel
theorem dX5_errors_148 : decode cX5_errors 148 = .ok (.iload_n 2, 1) := by decide +kernel
theorem dX5_errors_149 : decode cX5_errors 149 = .ok (.i2f, 1) := by decide +kernel
theorem dX5_errors_150 : decode cX5_errors 150 = .ok (.fdiv, 1) := by decide +kernel
theorem dX5_errors_151 : decode cX5_errors 151 = .ok (.invokestatic 154, 3) := by decide +kernel
theorem dX5_errors_154 : decode cX5_errors 154 = .ok (.ireturn, 1) := by decide +kernel
set_option maxRecDepth 20000 in
theorem ggX5_account_X3_inStages : GoodIn wsX5_account wsX3_inStages := goodIn_r _ [12, 13, 14, 28, 29, 30, 31, 32, 33, 34, 35] (by decide +kernel) (by decide +kernel)
set_option maxRecDepth 20000 in
theorem gX5_account_X3_inStages : GoodIn wsX5_account (wsV RX5 170 RX3 yX3_inStages wsX3_inStages) := goodIn_app (goodIn_of _ (by decide +kernel)) ggX5_account_X3_inStages
theorem dX5_account_0 : decode cX5_account 0 = .ok (.iload_n 1, 1) := by decide +kernel
theorem dX5_account_1 : decode cX5_account 1 = .ok (.tableswitch 90 0 4 #[35, 46, 57, 68, 79], 35) := by decide +kernel
theorem dX5_account_36 : decode cX5_account 36 = .ok (.aload_n 0, 1) := by decide +kernel
theorem dX5_account_37 : decode cX5_account 37 = .ok (.getfield 12, 3) := by decide +kernel
theorem dX5_account_40 : decode cX5_account 40 = .ok (.getfield 54, 3) := by decide +kernel
theorem dX5_account_43 : decode cX5_account 43 = .ok (.getfield 158, 3) := by decide +kernel
theorem dX5_account_46 : decode cX5_account 46 = .ok (.ireturn, 1) := by decide +kernel
theorem dX5_account_47 : decode cX5_account 47 = .ok (.aload_n 0, 1) := by decide +kernel
theorem dX5_account_48 : decode cX5_account 48 = .ok (.getfield 12, 3) := by decide +kernel
theorem dX5_account_51 : decode cX5_account 51 = .ok (.getfield 54, 3) := by decide +kernel
theorem dX5_account_54 : decode cX5_account 54 = .ok (.getfield 161, 3) := by decide +kernel
theorem dX5_account_57 : decode cX5_account 57 = .ok (.ireturn, 1) := by decide +kernel
theorem dX5_account_58 : decode cX5_account 58 = .ok (.aload_n 0, 1) := by decide +kernel
theorem dX5_account_59 : decode cX5_account 59 = .ok (.getfield 12, 3) := by decide +kernel
theorem dX5_account_62 : decode cX5_account 62 = .ok (.getfield 54, 3) := by decide +kernel
theorem dX5_account_65 : decode cX5_account 65 = .ok (.getfield 164, 3) := by decide +kernel
theorem dX5_account_68 : decode cX5_account 68 = .ok (.ireturn, 1) := by decide +kernel
theorem dX5_account_69 : decode cX5_account 69 = .ok (.aload_n 0, 1) := by decide +kernel
theorem dX5_account_70 : decode cX5_account 70 = .ok (.getfield 12, 3) := by decide +kernel
theorem dX5_account_73 : decode cX5_account 73 = .ok (.getfield 54, 3) := by decide +kernel
theorem dX5_account_76 : decode cX5_account 76 = .ok (.getfield 167, 3) := by decide +kernel
theorem dX5_account_79 : decode cX5_account 79 = .ok (.ireturn, 1) := by decide +kernel
theorem dX5_account_80 : decode cX5_account 80 = .ok (.aload_n 0, 1) := by decide +kernel
theorem dX5_account_81 : decode cX5_account 81 = .ok (.getfield 12, 3) := by decide +kernel
theorem dX5_account_84 : decode cX5_account 84 = .ok (.getfield 54, 3) := by decide +kernel
theorem dX5_account_87 : decode cX5_account 87 = .ok (.invokevirtual 170, 3) := by decide +kernel
theorem dX5_account_90 : decode cX5_account 90 = .ok (.ireturn, 1) := by decide +kernel
theorem dX5_account_91 : decode cX5_account 91 = .ok (.ldc 41, 2) := by decide +kernel
theorem dX5_account_93 : decode cX5_account 93 = .ok (.ireturn, 1) := by decide +kernel
set_option maxRecDepth 20000 in
theorem ggX5_echo_X5_outside : GoodIn wsX5_echo wsX5_outside := goodIn_r _ [9] (by decide +kernel) (by decide +kernel)
set_option maxRecDepth 20000 in
theorem gX5_echo_X5_outside : GoodIn wsX5_echo (va_wsS RX5 37 yX5_outside wsX5_outside) := goodIn_app (goodIn_of _ (by decide +kernel)) ggX5_echo_X5_outside
set_option maxRecDepth 20000 in
theorem ggX5_echo_X3_copyFrom : GoodIn wsX5_echo wsX3_copyFrom := goodIn_r _ [14, 15, 16, 17, 18, 19, 20, 21, 22, 23, 24, 25, 26, 68, 69, 70, 71, 72, 73, 74, 75] (by decide +kernel) (by decide +kernel)
set_option maxRecDepth 20000 in
theorem gX5_echo_X3_copyFrom : GoodIn wsX5_echo (wsV RX5 173 RX3 yX3_copyFrom wsX3_copyFrom) := goodIn_app (goodIn_of _ (by decide +kernel)) ggX5_echo_X3_copyFrom
set_option maxRecDepth 20000 in
theorem ggX5_echo_X3_outputOfLone : GoodIn wsX5_echo wsX3_outputOfLone := goodIn_r _ [30, 31, 32, 33, 13, 34, 16, 23, 24, 25, 26, 35, 36, 37, 38, 39, 40, 41, 42, 15, 43, 44, 45, 46, 47, 48, 49, 50, 21, 51, 52, 53, 54, 22, 68, 69, 70, 71, 72, 73, 74, 75] (by decide +kernel) (by decide +kernel)
set_option maxRecDepth 20000 in
theorem gX5_echo_X3_outputOfLone : GoodIn wsX5_echo (wsV RX5 177 RX3 yX3_outputOfLone wsX3_outputOfLone) := goodIn_app (goodIn_of _ (by decide +kernel)) ggX5_echo_X3_outputOfLone
theorem dX5_echo_0 : decode cX5_echo 0 = .ok (.iload_n 1, 1) := by decide +kernel
theorem dX5_echo_1 : decode cX5_echo 1 = .ok (.iconst 0, 1) := by decide +kernel
theorem dX5_echo_2 : decode cX5_echo 2 = .ok (.sipush 10000, 3) := by decide +kernel
theorem dX5_echo_5 : decode cX5_echo 5 = .ok (.invokestatic 37, 3) := by decide +kernel
theorem dX5_echo_8 : decode cX5_echo 8 = .ok (.ifCond .ne 13, 3) := by decide +kernel
theorem dX5_echo_11 : decode cX5_echo 11 = .ok (.iload_n 2, 1) := by decide +kernel
theorem dX5_echo_12 : decode cX5_echo 12 = .ok (.iconst 1, 1) := by decide +kernel
theorem dX5_echo_13 : decode cX5_echo 13 = .ok (.bipush 40, 2) := by decide +kernel
theorem dX5_echo_15 : decode cX5_echo 15 = .ok (.invokestatic 37, 3) := by decide +kernel
theorem dX5_echo_18 : decode cX5_echo 18 = .ok (.ifCond .eq 6, 3) := by decide +kernel
theorem dX5_echo_21 : decode cX5_echo 21 = .ok (.ldc 41, 2) := by decide +kernel
theorem dX5_echo_23 : decode cX5_echo 23 = .ok (.ireturn, 1) := by decide +kernel
theorem dX5_echo_24 : decode cX5_echo 24 = .ok (.aload_n 0, 1) := by decide +kernel
theorem dX5_echo_25 : decode cX5_echo 25 = .ok (.getfield 33, 3) := by decide +kernel
theorem dX5_echo_28 : decode cX5_echo 28 = .ok (.aload_n 0, 1) := by decide +kernel
theorem dX5_echo_29 : decode cX5_echo 29 = .ok (.getfield 12, 3) := by decide +kernel
theorem dX5_echo_32 : decode cX5_echo 32 = .ok (.getfield 54, 3) := by decide +kernel
theorem dX5_echo_35 : decode cX5_echo 35 = .ok (.invokevirtual 173, 3) := by decide +kernel
theorem dX5_echo_38 : decode cX5_echo 38 = .ok (.aload_n 0, 1) := by decide +kernel
theorem dX5_echo_39 : decode cX5_echo 39 = .ok (.getfield 33, 3) := by decide +kernel
theorem dX5_echo_42 : decode cX5_echo 42 = .ok (.iload_n 1, 1) := by decide +kernel
theorem dX5_echo_43 : decode cX5_echo 43 = .ok (.iload_n 2, 1) := by decide +kernel
theorem dX5_echo_44 : decode cX5_echo 44 = .ok (.aload_n 0, 1) := by decide +kernel
theorem dX5_echo_45 : decode cX5_echo 45 = .ok (.getfield 12, 3) := by decide +kernel
theorem dX5_echo_48 : decode cX5_echo 48 = .ok (.getfield 78, 3) := by decide +kernel
theorem dX5_echo_51 : decode cX5_echo 51 = .ok (.iconst 0, 1) := by decide +kernel
theorem dX5_echo_52 : decode cX5_echo 52 = .ok (.iaload, 1) := by decide +kernel
theorem dX5_echo_53 : decode cX5_echo 53 = .ok (.invokevirtual 177, 3) := by decide +kernel
theorem dX5_echo_56 : decode cX5_echo 56 = .ok (.ireturn, 1) := by decide +kernel
set_option maxRecDepth 20000 in
theorem ggX5_emptyAfter_X3_copyFrom : GoodIn wsX5_emptyAfter wsX3_copyFrom := goodIn_r _ [10, 11, 12, 13, 14, 15, 16, 17, 18, 19, 20, 21, 22, 56, 57, 58, 59, 60, 61, 62, 63] (by decide +kernel) (by decide +kernel)
set_option maxRecDepth 20000 in
theorem gX5_emptyAfter_X3_copyFrom : GoodIn wsX5_emptyAfter (wsV RX5 173 RX3 yX3_copyFrom wsX3_copyFrom) := goodIn_app (goodIn_of _ (by decide +kernel)) ggX5_emptyAfter_X3_copyFrom
set_option maxRecDepth 20000 in
theorem ggX5_emptyAfter_X3_inStages : GoodIn wsX5_emptyAfter wsX3_inStages := goodIn_r _ [26, 11, 12, 56, 57, 58, 59, 60, 61, 62, 63] (by decide +kernel) (by decide +kernel)
set_option maxRecDepth 20000 in
theorem gX5_emptyAfter_X3_inStages : GoodIn wsX5_emptyAfter (wsV RX5 170 RX3 yX3_inStages wsX3_inStages) := goodIn_app (goodIn_of _ (by decide +kernel)) ggX5_emptyAfter_X3_inStages
set_option maxRecDepth 20000 in
theorem ggX5_emptyAfter_X3_handOver : GoodIn wsX5_emptyAfter wsX3_handOver := goodIn_r _ [30, 11, 12, 31, 32, 33, 34, 22, 21, 19, 20, 35, 36, 37, 9, 38, 17, 39, 40, 41, 42, 18, 56, 57, 58, 59, 60, 61, 62, 63] (by decide +kernel) (by decide +kernel)
set_option maxRecDepth 20000 in
theorem gX5_emptyAfter_X3_handOver : GoodIn wsX5_emptyAfter (wsV RX5 181 RX3 yX3_handOver wsX3_handOver) := goodIn_app (goodIn_of _ (by decide +kernel)) ggX5_emptyAfter_X3_handOver
theorem dX5_emptyAfter_0 : decode cX5_emptyAfter 0 = .ok (.aload_n 0, 1) := by decide +kernel
theorem dX5_emptyAfter_1 : decode cX5_emptyAfter 1 = .ok (.getfield 33, 3) := by decide +kernel
theorem dX5_emptyAfter_4 : decode cX5_emptyAfter 4 = .ok (.aload_n 0, 1) := by decide +kernel
theorem dX5_emptyAfter_5 : decode cX5_emptyAfter 5 = .ok (.getfield 12, 3) := by decide +kernel
theorem dX5_emptyAfter_8 : decode cX5_emptyAfter 8 = .ok (.getfield 54, 3) := by decide +kernel
theorem dX5_emptyAfter_11 : decode cX5_emptyAfter 11 = .ok (.invokevirtual 173, 3) := by decide +kernel
theorem dX5_emptyAfter_14 : decode cX5_emptyAfter 14 = .ok (.iconst 0, 1) := by decide +kernel
theorem dX5_emptyAfter_15 : decode cX5_emptyAfter 15 = .ok (.istore_n 1, 1) := by decide +kernel
theorem dX5_emptyAfter_16 : decode cX5_emptyAfter 16 = .ok (.iload_n 1, 1) := by decide +kernel
theorem dX5_emptyAfter_17 : decode cX5_emptyAfter 17 = .ok (.sipush 400, 3) := by decide +kernel
theorem dX5_emptyAfter_20 : decode cX5_emptyAfter 20 = .ok (.if_icmp .gt 39, 3) := by decide +kernel
theorem dX5_emptyAfter_23 : decode cX5_emptyAfter 23 = .ok (.aload_n 0, 1) := by decide +kernel
theorem dX5_emptyAfter_24 : decode cX5_emptyAfter 24 = .ok (.getfield 33, 3) := by decide +kernel
theorem dX5_emptyAfter_27 : decode cX5_emptyAfter 27 = .ok (.invokevirtual 170, 3) := by decide +kernel
theorem dX5_emptyAfter_30 : decode cX5_emptyAfter 30 = .ok (.ifCond .ne 5, 3) := by decide +kernel
theorem dX5_emptyAfter_33 : decode cX5_emptyAfter 33 = .ok (.iload_n 1, 1) := by decide +kernel
theorem dX5_emptyAfter_34 : decode cX5_emptyAfter 34 = .ok (.ireturn, 1) := by decide +kernel
theorem dX5_emptyAfter_35 : decode cX5_emptyAfter 35 = .ok (.aload_n 0, 1) := by decide +kernel
theorem dX5_emptyAfter_36 : decode cX5_emptyAfter 36 = .ok (.getfield 33, 3) := by decide +kernel
theorem dX5_emptyAfter_39 : decode cX5_emptyAfter 39 = .ok (.iconst 0, 1) := by decide +kernel
theorem dX5_emptyAfter_40 : decode cX5_emptyAfter 40 = .ok (.aload_n 0, 1) := by decide +kernel
theorem dX5_emptyAfter_41 : decode cX5_emptyAfter 41 = .ok (.getfield 12, 3) := by decide +kernel
theorem dX5_emptyAfter_44 : decode cX5_emptyAfter 44 = .ok (.getfield 78, 3) := by decide +kernel
theorem dX5_emptyAfter_47 : decode cX5_emptyAfter 47 = .ok (.iconst 0, 1) := by decide +kernel
theorem dX5_emptyAfter_48 : decode cX5_emptyAfter 48 = .ok (.iaload, 1) := by decide +kernel
theorem dX5_emptyAfter_49 : decode cX5_emptyAfter 49 = .ok (.invokevirtual 181, 3) := by decide +kernel
theorem dX5_emptyAfter_52 : decode cX5_emptyAfter 52 = .ok (.pop, 1) := by decide +kernel
theorem dX5_emptyAfter_53 : decode cX5_emptyAfter 53 = .ok (.iinc 1 1, 3) := by decide +kernel
theorem dX5_emptyAfter_56 : decode cX5_emptyAfter 56 = .ok (.goto (-40), 3) := by decide +kernel
theorem dX5_emptyAfter_59 : decode cX5_emptyAfter 59 = .ok (.ldc 109, 2) := by decide +kernel
theorem dX5_emptyAfter_61 : decode cX5_emptyAfter 61 = .ok (.ireturn, 1) := by decide +kernel
set_option maxRecDepth 20000 in
theorem ggX5_worn_X5_outside : GoodIn wsX5_worn wsX5_outside := goodIn_r _ [8] (by decide +kernel) (by decide +kernel)
set_option maxRecDepth 20000 in
theorem gX5_worn_X5_outside : GoodIn wsX5_worn (va_wsS RX5 37 yX5_outside wsX5_outside) := goodIn_app (goodIn_of _ (by decide +kernel)) ggX5_worn_X5_outside
set_option maxRecDepth 20000 in
theorem ggX5_worn_X5_outputWithoutShares : GoodIn wsX5_worn wsX5_outputWithoutShares := goodIn_r _ [12, 13, 2, 3, 4, 14, 15, 16, 17, 18, 19, 20, 21, 22, 23, 24, 25, 26, 27, 28, 29, 30, 31, 32, 33, 34, 35, 36, 37, 38, 39, 40, 41, 42, 43, 44, 45, 46, 47, 48, 49, 50, 51, 52, 53, 54, 55, 56, 57, 58, 59, 60, 61, 62, 63, 64, 65, 66, 67, 68, 69, 70, 71, 72, 73, 74, 75, 76, 77, 78, 79, 80, 81, 82, 83, 84] (by decide +kernel) (by decide +kernel)
set_option maxRecDepth 20000 in
theorem gX5_worn_X5_outputWithoutShares : GoodIn wsX5_worn (wsV RX5 184 RX5 yX5_outputWithoutShares wsX5_outputWithoutShares) := goodIn_app (goodIn_of _ (by decide +kernel)) ggX5_worn_X5_outputWithoutShares
theorem dX5_worn_0 : decode cX5_worn 0 = .ok (.iload_n 1, 1) := by decide +kernel
theorem dX5_worn_1 : decode cX5_worn 1 = .ok (.iconst 0, 1) := by decide +kernel
theorem dX5_worn_2 : decode cX5_worn 2 = .ok (.iconst 1, 1) := by decide +kernel
theorem dX5_worn_3 : decode cX5_worn 3 = .ok (.invokestatic 37, 3) := by decide +kernel
theorem dX5_worn_6 : decode cX5_worn 6 = .ok (.ifCond .eq 6, 3) := by decide +kernel
theorem dX5_worn_9 : decode cX5_worn 9 = .ok (.ldc 41, 2) := by decide +kernel
theorem dX5_worn_11 : decode cX5_worn 11 = .ok (.ireturn, 1) := by decide +kernel
theorem dX5_worn_12 : decode cX5_worn 12 = .ok (.iconst 0, 1) := by decide +kernel
theorem dX5_worn_13 : decode cX5_worn 13 = .ok (.istore_n 2, 1) := by decide +kernel
theorem dX5_worn_14 : decode cX5_worn 14 = .ok (.aload_n 0, 1) := by decide +kernel
theorem dX5_worn_15 : decode cX5_worn 15 = .ok (.iconst 0, 1) := by decide +kernel
theorem dX5_worn_16 : decode cX5_worn 16 = .ok (.invokevirtual 184, 3) := by decide +kernel
theorem dX5_worn_19 : decode cX5_worn 19 = .ok (.istore_n 3, 1) := by decide +kernel
theorem dX5_worn_20 : decode cX5_worn 20 = .ok (.iconst 1, 1) := by decide +kernel
theorem dX5_worn_21 : decode cX5_worn 21 = .ok (.istore 4, 2) := by decide +kernel
theorem dX5_worn_23 : decode cX5_worn 23 = .ok (.iload 4, 2) := by decide +kernel
theorem dX5_worn_25 : decode cX5_worn 25 = .ok (.aload_n 0, 1) := by decide +kernel
theorem dX5_worn_26 : decode cX5_worn 26 = .ok (.getfield 12, 3) := by decide +kernel
theorem dX5_worn_29 : decode cX5_worn 29 = .ok (.getfield 54, 3) := by decide +kernel
theorem dX5_worn_32 : decode cX5_worn 32 = .ok (.getfield 187, 3) := by decide +kernel
theorem dX5_worn_35 : decode cX5_worn 35 = .ok (.if_icmp .ge 29, 3) := by decide +kernel
theorem dX5_worn_38 : decode cX5_worn 38 = .ok (.aload_n 0, 1) := by decide +kernel
theorem dX5_worn_39 : decode cX5_worn 39 = .ok (.iload 4, 2) := by decide +kernel
theorem dX5_worn_41 : decode cX5_worn 41 = .ok (.invokevirtual 184, 3) := by decide +kernel
theorem dX5_worn_44 : decode cX5_worn 44 = .ok (.istore 5, 2) := by decide +kernel
theorem dX5_worn_46 : decode cX5_worn 46 = .ok (.iload 5, 2) := by decide +kernel
theorem dX5_worn_48 : decode cX5_worn 48 = .ok (.iload_n 3, 1) := by decide +kernel
theorem dX5_worn_49 : decode cX5_worn 49 = .ok (.if_icmp .le 9, 3) := by decide +kernel
theorem dX5_worn_52 : decode cX5_worn 52 = .ok (.iload 4, 2) := by decide +kernel
theorem dX5_worn_54 : decode cX5_worn 54 = .ok (.istore_n 2, 1) := by decide +kernel
theorem dX5_worn_55 : decode cX5_worn 55 = .ok (.iload 5, 2) := by decide +kernel
theorem dX5_worn_57 : decode cX5_worn 57 = .ok (.istore_n 3, 1) := by decide +kernel
theorem dX5_worn_58 : decode cX5_worn 58 = .ok (.iinc 4 1, 3) := by decide +kernel
theorem dX5_worn_61 : decode cX5_worn 61 = .ok (.goto (-38), 3) := by decide +kernel
theorem dX5_worn_64 : decode cX5_worn 64 = .ok (.iload_n 1, 1) := by decide +kernel
theorem dX5_worn_65 : decode cX5_worn 65 = .ok (.ifCond .ne 7, 3) := by decide +kernel
theorem dX5_worn_68 : decode cX5_worn 68 = .ok (.iload_n 2, 1) := by decide +kernel
theorem dX5_worn_69 : decode cX5_worn 69 = .ok (.goto 4, 3) := by decide +kernel
theorem dX5_worn_72 : decode cX5_worn 72 = .ok (.iload_n 3, 1) := by decide +kernel
theorem dX5_worn_73 : decode cX5_worn 73 = .ok (.ireturn, 1) := by decide +kernel
set_option maxRecDepth 20000 in
theorem ggX5_outputWithoutShares_X3_copyFrom : GoodIn wsX5_outputWithoutShares wsX3_copyFrom := goodIn_r _ [10, 11, 12, 13, 14, 15, 16, 17, 18, 19, 20, 21, 22, 68, 69, 70, 71, 72, 73, 74, 75] (by decide +kernel) (by decide +kernel)
set_option maxRecDepth 20000 in
theorem gX5_outputWithoutShares_X3_copyFrom : GoodIn wsX5_outputWithoutShares (wsV RX5 173 RX3 yX3_copyFrom wsX3_copyFrom) := goodIn_app (goodIn_of _ (by decide +kernel)) ggX5_outputWithoutShares_X3_copyFrom
set_option maxRecDepth 20000 in
theorem ggX5_outputWithoutShares_X3_changeShares : GoodIn wsX5_outputWithoutShares wsX3_changeShares := goodIn_r _ [26, 17, 18, 68, 69, 70, 71, 72, 73, 74, 75] (by decide +kernel) (by decide +kernel)
set_option maxRecDepth 20000 in
theorem gX5_outputWithoutShares_X3_changeShares : GoodIn wsX5_outputWithoutShares (wsV RX5 68 RX3 yX3_changeShares wsX3_changeShares) := goodIn_app (goodIn_of _ (by decide +kernel)) ggX5_outputWithoutShares_X3_changeShares
set_option maxRecDepth 20000 in
theorem ggX5_outputWithoutShares_X3_outputOfLone : GoodIn wsX5_outputWithoutShares wsX3_outputOfLone := goodIn_r _ [30, 31, 32, 33, 9, 34, 12, 19, 20, 21, 22, 35, 36, 37, 38, 39, 40, 41, 42, 11, 43, 44, 45, 46, 47, 48, 49, 50, 17, 51, 52, 53, 54, 18, 68, 69, 70, 71, 72, 73, 74, 75] (by decide +kernel) (by decide +kernel)
set_option maxRecDepth 20000 in
theorem gX5_outputWithoutShares_X3_outputOfLone : GoodIn wsX5_outputWithoutShares (wsV RX5 177 RX3 yX3_outputOfLone wsX3_outputOfLone) := goodIn_app (goodIn_of _ (by decide +kernel)) ggX5_outputWithoutShares_X3_outputOfLone
theorem dX5_outputWithoutShares_0 : decode cX5_outputWithoutShares 0 = .ok (.aload_n 0, 1) := by decide +kernel
theorem dX5_outputWithoutShares_1 : decode cX5_outputWithoutShares 1 = .ok (.getfield 33, 3) := by decide +kernel
theorem dX5_outputWithoutShares_4 : decode cX5_outputWithoutShares 4 = .ok (.aload_n 0, 1) := by decide +kernel
theorem dX5_outputWithoutShares_5 : decode cX5_outputWithoutShares 5 = .ok (.getfield 12, 3) := by decide +kernel
theorem dX5_outputWithoutShares_8 : decode cX5_outputWithoutShares 8 = .ok (.getfield 54, 3) := by decide +kernel
theorem dX5_outputWithoutShares_11 : decode cX5_outputWithoutShares 11 = .ok (.invokevirtual 173, 3) := by decide +kernel
theorem dX5_outputWithoutShares_14 : decode cX5_outputWithoutShares 14 = .ok (.aload_n 0, 1) := by decide +kernel
theorem dX5_outputWithoutShares_15 : decode cX5_outputWithoutShares 15 = .ok (.getfield 33, 3) := by decide +kernel
theorem dX5_outputWithoutShares_18 : decode cX5_outputWithoutShares 18 = .ok (.iload_n 1, 1) := by decide +kernel
theorem dX5_outputWithoutShares_19 : decode cX5_outputWithoutShares 19 = .ok (.iconst 0, 1) := by decide +kernel
theorem dX5_outputWithoutShares_20 : decode cX5_outputWithoutShares 20 = .ok (.iconst 0, 1) := by decide +kernel
theorem dX5_outputWithoutShares_21 : decode cX5_outputWithoutShares 21 = .ok (.invokevirtual 68, 3) := by decide +kernel
theorem dX5_outputWithoutShares_24 : decode cX5_outputWithoutShares 24 = .ok (.aload_n 0, 1) := by decide +kernel
theorem dX5_outputWithoutShares_25 : decode cX5_outputWithoutShares 25 = .ok (.getfield 33, 3) := by decide +kernel
theorem dX5_outputWithoutShares_28 : decode cX5_outputWithoutShares 28 = .ok (.sipush 10000, 3) := by decide +kernel
theorem dX5_outputWithoutShares_31 : decode cX5_outputWithoutShares 31 = .ok (.aload_n 0, 1) := by decide +kernel
theorem dX5_outputWithoutShares_32 : decode cX5_outputWithoutShares 32 = .ok (.getfield 33, 3) := by decide +kernel
theorem dX5_outputWithoutShares_35 : decode cX5_outputWithoutShares 35 = .ok (.getfield 187, 3) := by decide +kernel
theorem dX5_outputWithoutShares_38 : decode cX5_outputWithoutShares 38 = .ok (.aload_n 0, 1) := by decide +kernel
theorem dX5_outputWithoutShares_39 : decode cX5_outputWithoutShares 39 = .ok (.getfield 12, 3) := by decide +kernel
theorem dX5_outputWithoutShares_42 : decode cX5_outputWithoutShares 42 = .ok (.getfield 78, 3) := by decide +kernel
theorem dX5_outputWithoutShares_45 : decode cX5_outputWithoutShares 45 = .ok (.iconst 0, 1) := by decide +kernel
theorem dX5_outputWithoutShares_46 : decode cX5_outputWithoutShares 46 = .ok (.iaload, 1) := by decide +kernel
theorem dX5_outputWithoutShares_47 : decode cX5_outputWithoutShares 47 = .ok (.invokevirtual 177, 3) := by decide +kernel
theorem dX5_outputWithoutShares_50 : decode cX5_outputWithoutShares 50 = .ok (.ireturn, 1) := by decide +kernel
set_option maxRecDepth 20000 in
theorem ggX5_safe_X3_copyFrom : GoodIn wsX5_safe wsX3_copyFrom := goodIn_r _ [9, 10, 11, 12, 13, 14, 15, 16, 17, 18, 19, 20, 21, 63, 64, 65, 66, 67, 68, 69, 70] (by decide +kernel) (by decide +kernel)
set_option maxRecDepth 20000 in
theorem gX5_safe_X3_copyFrom : GoodIn wsX5_safe (wsV RX5 173 RX3 yX3_copyFrom wsX3_copyFrom) := goodIn_app (goodIn_of _ (by decide +kernel)) ggX5_safe_X3_copyFrom
set_option maxRecDepth 20000 in
theorem ggX5_safe_X3_holds : GoodIn wsX5_safe wsX3_holds := goodIn_r _ [25, 21, 26, 27, 28, 8, 29, 11, 18, 19, 20, 30, 31, 32, 33, 34, 35, 36, 37, 10, 38, 39, 40, 41, 42, 43, 44, 45, 16, 46, 47, 48, 49, 17, 63, 64, 65, 66, 67, 68, 69, 70] (by decide +kernel) (by decide +kernel)
set_option maxRecDepth 20000 in
theorem gX5_safe_X3_holds : GoodIn wsX5_safe (wsV RX5 190 RX3 yX3_holds wsX3_holds) := goodIn_app (goodIn_of _ (by decide +kernel)) ggX5_safe_X3_holds
theorem dX5_safe_0 : decode cX5_safe 0 = .ok (.aload_n 0, 1) := by decide +kernel
theorem dX5_safe_1 : decode cX5_safe 1 = .ok (.getfield 12, 3) := by decide +kernel
theorem dX5_safe_4 : decode cX5_safe 4 = .ok (.getfield 78, 3) := by decide +kernel
theorem dX5_safe_7 : decode cX5_safe 7 = .ok (.iconst 0, 1) := by decide +kernel
theorem dX5_safe_8 : decode cX5_safe 8 = .ok (.iaload, 1) := by decide +kernel
theorem dX5_safe_9 : decode cX5_safe 9 = .ok (.istore_n 1, 1) := by decide +kernel
theorem dX5_safe_10 : decode cX5_safe 10 = .ok (.aload_n 0, 1) := by decide +kernel
theorem dX5_safe_11 : decode cX5_safe 11 = .ok (.getfield 33, 3) := by decide +kernel
theorem dX5_safe_14 : decode cX5_safe 14 = .ok (.aload_n 0, 1) := by decide +kernel
theorem dX5_safe_15 : decode cX5_safe 15 = .ok (.getfield 12, 3) := by decide +kernel
theorem dX5_safe_18 : decode cX5_safe 18 = .ok (.getfield 54, 3) := by decide +kernel
theorem dX5_safe_21 : decode cX5_safe 21 = .ok (.invokevirtual 173, 3) := by decide +kernel
theorem dX5_safe_24 : decode cX5_safe 24 = .ok (.iconst 0, 1) := by decide +kernel
theorem dX5_safe_25 : decode cX5_safe 25 = .ok (.istore_n 2, 1) := by decide +kernel
theorem dX5_safe_26 : decode cX5_safe 26 = .ok (.sipush 8192, 3) := by decide +kernel
theorem dX5_safe_29 : decode cX5_safe 29 = .ok (.istore_n 3, 1) := by decide +kernel
theorem dX5_safe_30 : decode cX5_safe 30 = .ok (.iload_n 3, 1) := by decide +kernel
theorem dX5_safe_31 : decode cX5_safe 31 = .ok (.ifCond .le 41, 3) := by decide +kernel
theorem dX5_safe_34 : decode cX5_safe 34 = .ok (.iload_n 2, 1) := by decide +kernel
theorem dX5_safe_35 : decode cX5_safe 35 = .ok (.iload_n 3, 1) := by decide +kernel
theorem dX5_safe_36 : decode cX5_safe 36 = .ok (.iadd, 1) := by decide +kernel
theorem dX5_safe_37 : decode cX5_safe 37 = .ok (.istore 4, 2) := by decide +kernel
theorem dX5_safe_39 : decode cX5_safe 39 = .ok (.iload 4, 2) := by decide +kernel
theorem dX5_safe_41 : decode cX5_safe 41 = .ok (.sipush 10000, 3) := by decide +kernel
theorem dX5_safe_44 : decode cX5_safe 44 = .ok (.if_icmp .gt 21, 3) := by decide +kernel
theorem dX5_safe_47 : decode cX5_safe 47 = .ok (.aload_n 0, 1) := by decide +kernel
theorem dX5_safe_48 : decode cX5_safe 48 = .ok (.getfield 33, 3) := by decide +kernel
theorem dX5_safe_51 : decode cX5_safe 51 = .ok (.iload 4, 2) := by decide +kernel
theorem dX5_safe_53 : decode cX5_safe 53 = .ok (.bipush 40, 2) := by decide +kernel
theorem dX5_safe_55 : decode cX5_safe 55 = .ok (.iload_n 1, 1) := by decide +kernel
theorem dX5_safe_56 : decode cX5_safe 56 = .ok (.invokevirtual 190, 3) := by decide +kernel
theorem dX5_safe_59 : decode cX5_safe 59 = .ok (.ifCond .eq 6, 3) := by decide +kernel
theorem dX5_safe_62 : decode cX5_safe 62 = .ok (.iload 4, 2) := by decide +kernel
theorem dX5_safe_64 : decode cX5_safe 64 = .ok (.istore_n 2, 1) := by decide +kernel
theorem dX5_safe_65 : decode cX5_safe 65 = .ok (.iload_n 3, 1) := by decide +kernel
theorem dX5_safe_66 : decode cX5_safe 66 = .ok (.iconst 2, 1) := by decide +kernel
theorem dX5_safe_67 : decode cX5_safe 67 = .ok (.idiv, 1) := by decide +kernel
theorem dX5_safe_68 : decode cX5_safe 68 = .ok (.istore_n 3, 1) := by decide +kernel
theorem dX5_safe_69 : decode cX5_safe 69 = .ok (.goto (-39), 3) := by decide +kernel
theorem dX5_safe_72 : decode cX5_safe 72 = .ok (.iload_n 2, 1) := by decide +kernel
theorem dX5_safe_73 : decode cX5_safe 73 = .ok (.ireturn, 1) := by decide +kernel
set_option maxRecDepth 20000 in
theorem ggX5_count_X1_keptOutputs : GoodIn wsX5_count wsX1_keptOutputs := goodIn_r _ [15, 16, 17, 18, 19, 20, 21, 22, 23, 24, 25, 60, 61, 62, 63, 64, 65, 66, 67, 68, 69, 70, 71, 72, 73, 74, 75, 76] (by decide +kernel) (by decide +kernel)
set_option maxRecDepth 20000 in
theorem gX5_count_X1_keptOutputs : GoodIn wsX5_count (wsV RX5 105 RX1 yX1_keptOutputs wsX1_keptOutputs) := goodIn_app (goodIn_of _ (by decide +kernel)) ggX5_count_X1_keptOutputs
set_option maxRecDepth 20000 in
theorem ggX5_count_X2_known : GoodIn wsX5_count wsX2_known := goodIn_r _ [30, 31, 32, 33, 29, 34, 35, 89, 90] (by decide +kernel) (by decide +kernel)
set_option maxRecDepth 20000 in
theorem gX5_count_X2_known : GoodIn wsX5_count (wsV RX5 196 RX2 yX2_known wsX2_known) := goodIn_app (goodIn_of _ (by decide +kernel)) ggX5_count_X2_known
set_option maxRecDepth 20000 in
theorem ggX5_count_X1_nextReference : GoodIn wsX5_count wsX1_nextReference := goodIn_r _ [39, 40, 60, 61, 62, 63, 64, 65, 66, 67, 68] (by decide +kernel) (by decide +kernel)
set_option maxRecDepth 20000 in
theorem gX5_count_X1_nextReference : GoodIn wsX5_count (wsV RX5 199 RX1 yX1_nextReference wsX1_nextReference) := goodIn_app (goodIn_of _ (by decide +kernel)) ggX5_count_X1_nextReference
set_option maxRecDepth 20000 in
theorem ggX5_count_X1_isForReference : GoodIn wsX5_count wsX1_isForReference := goodIn_r _ [44, 45, 60, 61, 62, 63, 64, 65, 66, 67, 68] (by decide +kernel) (by decide +kernel)
set_option maxRecDepth 20000 in
theorem gX5_count_X1_isForReference : GoodIn wsX5_count (wsV RX5 202 RX1 yX1_isForReference wsX1_isForReference) := goodIn_app (goodIn_of _ (by decide +kernel)) ggX5_count_X1_isForReference
set_option maxRecDepth 20000 in
theorem ggX5_count_X5_settingOfCount : GoodIn wsX5_count wsX5_settingOfCount := goodIn_r _ [50, 51, 1, 52, 53, 54, 49, 55, 56, 57, 58, 59, 60, 61, 62, 63, 64, 65, 66, 67, 68] (by decide +kernel) (by decide +kernel)
set_option maxRecDepth 20000 in
theorem gX5_count_X5_settingOfCount : GoodIn wsX5_count (wsV RX5 209 RX5 yX5_settingOfCount wsX5_settingOfCount) := goodIn_app (goodIn_of _ (by decide +kernel)) ggX5_count_X5_settingOfCount
theorem dX5_count_0 : decode cX5_count 0 = .ok (.iload_n 1, 1) := by decide +kernel
theorem dX5_count_1 : decode cX5_count 1 = .ok (.tableswitch 144 0 8 #[51, 62, 70, 78, 86, 97, 105, 128, 136], 51) := by decide +kernel
theorem dX5_count_52 : decode cX5_count 52 = .ok (.aload_n 0, 1) := by decide +kernel
theorem dX5_count_53 : decode cX5_count 53 = .ok (.getfield 12, 3) := by decide +kernel
theorem dX5_count_56 : decode cX5_count 56 = .ok (.getfield 54, 3) := by decide +kernel
theorem dX5_count_59 : decode cX5_count 59 = .ok (.getfield 187, 3) := by decide +kernel
theorem dX5_count_62 : decode cX5_count 62 = .ok (.ireturn, 1) := by decide +kernel
theorem dX5_count_63 : decode cX5_count 63 = .ok (.aload_n 0, 1) := by decide +kernel
theorem dX5_count_64 : decode cX5_count 64 = .ok (.getfield 12, 3) := by decide +kernel
theorem dX5_count_67 : decode cX5_count 67 = .ok (.getfield 42, 3) := by decide +kernel
theorem dX5_count_70 : decode cX5_count 70 = .ok (.ireturn, 1) := by decide +kernel
theorem dX5_count_71 : decode cX5_count 71 = .ok (.aload_n 0, 1) := by decide +kernel
theorem dX5_count_72 : decode cX5_count 72 = .ok (.getfield 12, 3) := by decide +kernel
theorem dX5_count_75 : decode cX5_count 75 = .ok (.invokevirtual 105, 3) := by decide +kernel
theorem dX5_count_78 : decode cX5_count 78 = .ok (.ireturn, 1) := by decide +kernel
theorem dX5_count_79 : decode cX5_count 79 = .ok (.aload_n 0, 1) := by decide +kernel
theorem dX5_count_80 : decode cX5_count 80 = .ok (.getfield 12, 3) := by decide +kernel
theorem dX5_count_83 : decode cX5_count 83 = .ok (.getfield 193, 3) := by decide +kernel
theorem dX5_count_86 : decode cX5_count 86 = .ok (.ireturn, 1) := by decide +kernel
theorem dX5_count_87 : decode cX5_count 87 = .ok (.aload_n 0, 1) := by decide +kernel
theorem dX5_count_88 : decode cX5_count 88 = .ok (.getfield 12, 3) := by decide +kernel
theorem dX5_count_91 : decode cX5_count 91 = .ok (.getfield 128, 3) := by decide +kernel
theorem dX5_count_94 : decode cX5_count 94 = .ok (.invokevirtual 196, 3) := by decide +kernel
theorem dX5_count_97 : decode cX5_count 97 = .ok (.ireturn, 1) := by decide +kernel
theorem dX5_count_98 : decode cX5_count 98 = .ok (.aload_n 0, 1) := by decide +kernel
theorem dX5_count_99 : decode cX5_count 99 = .ok (.getfield 12, 3) := by decide +kernel
theorem dX5_count_102 : decode cX5_count 102 = .ok (.invokevirtual 199, 3) := by decide +kernel
theorem dX5_count_105 : decode cX5_count 105 = .ok (.ireturn, 1) := by decide +kernel
theorem dX5_count_106 : decode cX5_count 106 = .ok (.aload_n 0, 1) := by decide +kernel
theorem dX5_count_107 : decode cX5_count 107 = .ok (.getfield 12, 3) := by decide +kernel
theorem dX5_count_110 : decode cX5_count 110 = .ok (.aload_n 0, 1) := by decide +kernel
theorem dX5_count_111 : decode cX5_count 111 = .ok (.getfield 12, 3) := by decide +kernel
theorem dX5_count_114 : decode cX5_count 114 = .ok (.getfield 42, 3) := by decide +kernel
theorem dX5_count_117 : decode cX5_count 117 = .ok (.invokevirtual 202, 3) := by decide +kernel
theorem dX5_count_120 : decode cX5_count 120 = .ok (.ifCond .eq 7, 3) := by decide +kernel
theorem dX5_count_123 : decode cX5_count 123 = .ok (.iconst 1, 1) := by decide +kernel
theorem dX5_count_124 : decode cX5_count 124 = .ok (.goto 4, 3) := by decide +kernel
theorem dX5_count_127 : decode cX5_count 127 = .ok (.iconst 0, 1) := by decide +kernel
theorem dX5_count_128 : decode cX5_count 128 = .ok (.ireturn, 1) := by decide +kernel
theorem dX5_count_129 : decode cX5_count 129 = .ok (.aload_n 0, 1) := by decide +kernel
theorem dX5_count_130 : decode cX5_count 130 = .ok (.getfield 19, 3) := by decide +kernel
theorem dX5_count_133 : decode cX5_count 133 = .ok (.getfield 205, 3) := by decide +kernel
theorem dX5_count_136 : decode cX5_count 136 = .ok (.ireturn, 1) := by decide +kernel
theorem dX5_count_137 : decode cX5_count 137 = .ok (.aload_n 0, 1) := by decide +kernel
theorem dX5_count_138 : decode cX5_count 138 = .ok (.getfield 26, 3) := by decide +kernel
theorem dX5_count_141 : decode cX5_count 141 = .ok (.getfield 206, 3) := by decide +kernel
theorem dX5_count_144 : decode cX5_count 144 = .ok (.ireturn, 1) := by decide +kernel
theorem dX5_count_145 : decode cX5_count 145 = .ok (.aload_n 0, 1) := by decide +kernel
theorem dX5_count_146 : decode cX5_count 146 = .ok (.iload_n 1, 1) := by decide +kernel
theorem dX5_count_147 : decode cX5_count 147 = .ok (.invokevirtual 209, 3) := by decide +kernel
theorem dX5_count_150 : decode cX5_count 150 = .ok (.ireturn, 1) := by decide +kernel
set_option maxRecDepth 20000 in
theorem ggX5_settingOfCount_X5_outside : GoodIn wsX5_settingOfCount wsX5_outside := goodIn_r _ [7] (by decide +kernel) (by decide +kernel)
set_option maxRecDepth 20000 in
theorem gX5_settingOfCount_X5_outside : GoodIn wsX5_settingOfCount (va_wsS RX5 37 yX5_outside wsX5_outside) := goodIn_app (goodIn_of _ (by decide +kernel)) ggX5_settingOfCount_X5_outside
theorem dX5_settingOfCount_0 : decode cX5_settingOfCount 0 = .ok (.iload_n 1, 1) := by decide +kernel
theorem dX5_settingOfCount_1 : decode cX5_settingOfCount 1 = .ok (.bipush 20, 2) := by decide +kernel
theorem dX5_settingOfCount_3 : decode cX5_settingOfCount 3 = .ok (.bipush 24, 2) := by decide +kernel
theorem dX5_settingOfCount_5 : decode cX5_settingOfCount 5 = .ok (.invokestatic 37, 3) := by decide +kernel
theorem dX5_settingOfCount_8 : decode cX5_settingOfCount 8 = .ok (.ifCond .eq 6, 3) := by decide +kernel
theorem dX5_settingOfCount_11 : decode cX5_settingOfCount 11 = .ok (.ldc 41, 2) := by decide +kernel
theorem dX5_settingOfCount_13 : decode cX5_settingOfCount 13 = .ok (.ireturn, 1) := by decide +kernel
theorem dX5_settingOfCount_14 : decode cX5_settingOfCount 14 = .ok (.aload_n 0, 1) := by decide +kernel
theorem dX5_settingOfCount_15 : decode cX5_settingOfCount 15 = .ok (.getfield 12, 3) := by decide +kernel
theorem dX5_settingOfCount_18 : decode cX5_settingOfCount 18 = .ok (.getfield 78, 3) := by decide +kernel
theorem dX5_settingOfCount_21 : decode cX5_settingOfCount 21 = .ok (.iload_n 1, 1) := by decide +kernel
theorem dX5_settingOfCount_22 : decode cX5_settingOfCount 22 = .ok (.bipush 20, 2) := by decide +kernel
theorem dX5_settingOfCount_24 : decode cX5_settingOfCount 24 = .ok (.isub, 1) := by decide +kernel
theorem dX5_settingOfCount_25 : decode cX5_settingOfCount 25 = .ok (.iaload, 1) := by decide +kernel
theorem dX5_settingOfCount_26 : decode cX5_settingOfCount 26 = .ok (.ireturn, 1) := by decide +kernel
set_option maxRecDepth 20000 in
theorem ggX5_undo_X0_restore : GoodIn wsX5_undo wsX0_restore := goodIn_r _ [9, 10, 11, 12, 13, 14, 15, 16, 17, 18, 19, 20, 21, 22, 23, 24, 25, 26, 27, 28, 29, 30, 31, 32, 33, 34, 35, 36, 37, 38, 39, 40, 41, 42, 43, 44, 45, 46, 47, 48, 49, 50, 51, 52, 57, 58, 59, 60, 61, 62, 63, 64, 65, 66, 67, 68, 69, 70, 71, 72, 73, 74, 75, 76, 77, 78] (by decide +kernel) (by decide +kernel)
set_option maxRecDepth 20000 in
theorem gX5_undo_X0_restore : GoodIn wsX5_undo (wsV RX5 213 RX0 yX0_restore wsX0_restore) := goodIn_app (goodIn_of _ (by decide +kernel)) ggX5_undo_X0_restore
theorem dX5_undo_0 : decode cX5_undo 0 = .ok (.aload_n 0, 1) := by decide +kernel
theorem dX5_undo_1 : decode cX5_undo 1 = .ok (.getfield 19, 3) := by decide +kernel
theorem dX5_undo_4 : decode cX5_undo 4 = .ok (.getfield 205, 3) := by decide +kernel
theorem dX5_undo_7 : decode cX5_undo 7 = .ok (.ifCond .ne 6, 3) := by decide +kernel
theorem dX5_undo_10 : decode cX5_undo 10 = .ok (.ldc 212, 2) := by decide +kernel
theorem dX5_undo_12 : decode cX5_undo 12 = .ok (.ireturn, 1) := by decide +kernel
theorem dX5_undo_13 : decode cX5_undo 13 = .ok (.aload_n 0, 1) := by decide +kernel
theorem dX5_undo_14 : decode cX5_undo 14 = .ok (.getfield 19, 3) := by decide +kernel
theorem dX5_undo_17 : decode cX5_undo 17 = .ok (.aload_n 0, 1) := by decide +kernel
theorem dX5_undo_18 : decode cX5_undo 18 = .ok (.getfield 12, 3) := by decide +kernel
theorem dX5_undo_21 : decode cX5_undo 21 = .ok (.invokevirtual 213, 3) := by decide +kernel
theorem dX5_undo_24 : decode cX5_undo 24 = .ok (.aload_n 0, 1) := by decide +kernel
theorem dX5_undo_25 : decode cX5_undo 25 = .ok (.getfield 19, 3) := by decide +kernel
theorem dX5_undo_28 : decode cX5_undo 28 = .ok (.getfield 205, 3) := by decide +kernel
theorem dX5_undo_31 : decode cX5_undo 31 = .ok (.ireturn, 1) := by decide +kernel
set_option maxRecDepth 20000 in
theorem ggX5_type_X5_outside : GoodIn wsX5_type wsX5_outside := goodIn_r _ [8] (by decide +kernel) (by decide +kernel)
set_option maxRecDepth 20000 in
theorem gX5_type_X5_outside : GoodIn wsX5_type (va_wsS RX5 37 yX5_outside wsX5_outside) := goodIn_app (goodIn_of _ (by decide +kernel)) ggX5_type_X5_outside
set_option maxRecDepth 20000 in
theorem ggX5_type_X4_append : GoodIn wsX5_type wsX4_append := goodIn_r _ [13, 14, 15, 20, 21, 22, 23, 24, 25, 26, 27, 28] (by decide +kernel) (by decide +kernel)
set_option maxRecDepth 20000 in
theorem gX5_type_X4_append : GoodIn wsX5_type (wsV RX5 216 RX4 yX4_append wsX4_append) := goodIn_app (goodIn_of _ (by decide +kernel)) ggX5_type_X4_append
theorem dX5_type_0 : decode cX5_type 0 = .ok (.iload_n 1, 1) := by decide +kernel
theorem dX5_type_1 : decode cX5_type 1 = .ok (.bipush 32, 2) := by decide +kernel
theorem dX5_type_3 : decode cX5_type 3 = .ok (.bipush 126, 2) := by decide +kernel
theorem dX5_type_5 : decode cX5_type 5 = .ok (.invokestatic 37, 3) := by decide +kernel
theorem dX5_type_8 : decode cX5_type 8 = .ok (.ifCond .eq 6, 3) := by decide +kernel
theorem dX5_type_11 : decode cX5_type 11 = .ok (.ldc 41, 2) := by decide +kernel
theorem dX5_type_13 : decode cX5_type 13 = .ok (.ireturn, 1) := by decide +kernel
theorem dX5_type_14 : decode cX5_type 14 = .ok (.aload_n 0, 1) := by decide +kernel
theorem dX5_type_15 : decode cX5_type 15 = .ok (.getfield 26, 3) := by decide +kernel
theorem dX5_type_18 : decode cX5_type 18 = .ok (.getfield 206, 3) := by decide +kernel
theorem dX5_type_21 : decode cX5_type 21 = .ok (.bipush 60, 2) := by decide +kernel
theorem dX5_type_23 : decode cX5_type 23 = .ok (.if_icmp .lt 6, 3) := by decide +kernel
theorem dX5_type_26 : decode cX5_type 26 = .ok (.ldc 89, 2) := by decide +kernel
theorem dX5_type_28 : decode cX5_type 28 = .ok (.ireturn, 1) := by decide +kernel
theorem dX5_type_29 : decode cX5_type 29 = .ok (.aload_n 0, 1) := by decide +kernel
theorem dX5_type_30 : decode cX5_type 30 = .ok (.getfield 26, 3) := by decide +kernel
theorem dX5_type_33 : decode cX5_type 33 = .ok (.iload_n 1, 1) := by decide +kernel
theorem dX5_type_34 : decode cX5_type 34 = .ok (.i2c, 1) := by decide +kernel
theorem dX5_type_35 : decode cX5_type 35 = .ok (.invokevirtual 216, 3) := by decide +kernel
theorem dX5_type_38 : decode cX5_type 38 = .ok (.aload_n 0, 1) := by decide +kernel
theorem dX5_type_39 : decode cX5_type 39 = .ok (.getfield 26, 3) := by decide +kernel
theorem dX5_type_42 : decode cX5_type 42 = .ok (.getfield 206, 3) := by decide +kernel
theorem dX5_type_45 : decode cX5_type 45 = .ok (.ireturn, 1) := by decide +kernel
set_option maxRecDepth 20000 in
theorem ggX5_clearText_X4_clear : GoodIn wsX5_clearText wsX4_clear := goodIn_r _ [7, 8, 13, 14, 15, 16, 17, 18, 19, 20, 21] (by decide +kernel) (by decide +kernel)
set_option maxRecDepth 20000 in
theorem gX5_clearText_X4_clear : GoodIn wsX5_clearText (wsV RX5 220 RX4 yX4_clear wsX4_clear) := goodIn_app (goodIn_of _ (by decide +kernel)) ggX5_clearText_X4_clear
theorem dX5_clearText_0 : decode cX5_clearText 0 = .ok (.aload_n 0, 1) := by decide +kernel
theorem dX5_clearText_1 : decode cX5_clearText 1 = .ok (.getfield 26, 3) := by decide +kernel
theorem dX5_clearText_4 : decode cX5_clearText 4 = .ok (.getfield 206, 3) := by decide +kernel
theorem dX5_clearText_7 : decode cX5_clearText 7 = .ok (.istore_n 1, 1) := by decide +kernel
theorem dX5_clearText_8 : decode cX5_clearText 8 = .ok (.aload_n 0, 1) := by decide +kernel
theorem dX5_clearText_9 : decode cX5_clearText 9 = .ok (.getfield 26, 3) := by decide +kernel
theorem dX5_clearText_12 : decode cX5_clearText 12 = .ok (.invokevirtual 220, 3) := by decide +kernel
theorem dX5_clearText_15 : decode cX5_clearText 15 = .ok (.iload_n 1, 1) := by decide +kernel
theorem dX5_clearText_16 : decode cX5_clearText 16 = .ok (.ireturn, 1) := by decide +kernel
set_option maxRecDepth 20000 in
theorem ggX5_fault_X5_outside : GoodIn wsX5_fault wsX5_outside := goodIn_r _ [12] (by decide +kernel) (by decide +kernel)
set_option maxRecDepth 20000 in
theorem gX5_fault_X5_outside : GoodIn wsX5_fault (va_wsS RX5 37 yX5_outside wsX5_outside) := goodIn_app (goodIn_of _ (by decide +kernel)) ggX5_fault_X5_outside
set_option maxRecDepth 20000 in
theorem ggX5_fault_X4_faultPosition : GoodIn wsX5_fault wsX4_faultPosition := goodIn_r _ [17, 18, 19, 20, 21, 22, 23, 24, 25, 26, 27, 16, 28, 29, 30, 31, 32, 33, 34, 35, 36, 37, 38, 39, 40, 41, 42, 43, 44, 45, 46, 47, 48, 49, 50, 51, 73, 74, 75, 76, 77, 78, 79, 80, 81] (by decide +kernel) (by decide +kernel)
set_option maxRecDepth 20000 in
theorem gX5_fault_X4_faultPosition : GoodIn wsX5_fault (wsV RX5 223 RX4 yX4_faultPosition wsX4_faultPosition) := goodIn_app (goodIn_of _ (by decide +kernel)) ggX5_fault_X4_faultPosition
theorem dX5_fault_0 : decode cX5_fault 0 = .ok (.iload_n 1, 1) := by decide +kernel
theorem dX5_fault_1 : decode cX5_fault 1 = .ok (.iconst 0, 1) := by decide +kernel
theorem dX5_fault_2 : decode cX5_fault 2 = .ok (.iconst 2, 1) := by decide +kernel
theorem dX5_fault_3 : decode cX5_fault 3 = .ok (.invokestatic 37, 3) := by decide +kernel
theorem dX5_fault_6 : decode cX5_fault 6 = .ok (.ifCond .eq 6, 3) := by decide +kernel
theorem dX5_fault_9 : decode cX5_fault 9 = .ok (.ldc 41, 2) := by decide +kernel
theorem dX5_fault_11 : decode cX5_fault 11 = .ok (.ireturn, 1) := by decide +kernel
theorem dX5_fault_12 : decode cX5_fault 12 = .ok (.aload_n 0, 1) := by decide +kernel
theorem dX5_fault_13 : decode cX5_fault 13 = .ok (.getfield 26, 3) := by decide +kernel
theorem dX5_fault_16 : decode cX5_fault 16 = .ok (.aload_n 0, 1) := by decide +kernel
theorem dX5_fault_17 : decode cX5_fault 17 = .ok (.getfield 12, 3) := by decide +kernel
theorem dX5_fault_20 : decode cX5_fault 20 = .ok (.getfield 54, 3) := by decide +kernel
theorem dX5_fault_23 : decode cX5_fault 23 = .ok (.getfield 187, 3) := by decide +kernel
theorem dX5_fault_26 : decode cX5_fault 26 = .ok (.invokevirtual 223, 3) := by decide +kernel
theorem dX5_fault_29 : decode cX5_fault 29 = .ok (.istore_n 2, 1) := by decide +kernel
theorem dX5_fault_30 : decode cX5_fault 30 = .ok (.iload_n 2, 1) := by decide +kernel
theorem dX5_fault_31 : decode cX5_fault 31 = .ok (.ldc 109, 2) := by decide +kernel
theorem dX5_fault_33 : decode cX5_fault 33 = .ok (.if_icmp .ne 6, 3) := by decide +kernel
theorem dX5_fault_36 : decode cX5_fault 36 = .ok (.ldc 109, 2) := by decide +kernel
theorem dX5_fault_38 : decode cX5_fault 38 = .ok (.ireturn, 1) := by decide +kernel
theorem dX5_fault_39 : decode cX5_fault 39 = .ok (.iload_n 1, 1) := by decide +kernel
theorem dX5_fault_40 : decode cX5_fault 40 = .ok (.ifCond .ne 5, 3) := by decide +kernel
theorem dX5_fault_43 : decode cX5_fault 43 = .ok (.iload_n 2, 1) := by decide +kernel
theorem dX5_fault_44 : decode cX5_fault 44 = .ok (.ireturn, 1) := by decide +kernel
theorem dX5_fault_45 : decode cX5_fault 45 = .ok (.iload_n 1, 1) := by decide +kernel
theorem dX5_fault_46 : decode cX5_fault 46 = .ok (.iconst 1, 1) := by decide +kernel
theorem dX5_fault_47 : decode cX5_fault 47 = .ok (.if_icmp .ne 13, 3) := by decide +kernel
theorem dX5_fault_50 : decode cX5_fault 50 = .ok (.aload_n 0, 1) := by decide +kernel
theorem dX5_fault_51 : decode cX5_fault 51 = .ok (.getfield 26, 3) := by decide +kernel
theorem dX5_fault_54 : decode cX5_fault 54 = .ok (.getfield 226, 3) := by decide +kernel
theorem dX5_fault_57 : decode cX5_fault 57 = .ok (.goto 10, 3) := by decide +kernel
theorem dX5_fault_60 : decode cX5_fault 60 = .ok (.aload_n 0, 1) := by decide +kernel
theorem dX5_fault_61 : decode cX5_fault 61 = .ok (.getfield 26, 3) := by decide +kernel
theorem dX5_fault_64 : decode cX5_fault 64 = .ok (.getfield 229, 3) := by decide +kernel
theorem dX5_fault_67 : decode cX5_fault 67 = .ok (.ireturn, 1) := by decide +kernel
set_option maxRecDepth 20000 in
theorem ggX5_play_X4_faultPosition : GoodIn wsX5_play wsX4_faultPosition := goodIn_r _ [16, 17, 18, 19, 20, 21, 22, 23, 24, 25, 26, 15, 27, 28, 29, 30, 31, 32, 33, 34, 35, 36, 37, 38, 39, 40, 41, 42, 43, 44, 45, 46, 47, 48, 49, 50, 210, 211, 212, 213, 214, 215, 216, 217, 218] (by decide +kernel) (by decide +kernel)
set_option maxRecDepth 20000 in
theorem gX5_play_X4_faultPosition : GoodIn wsX5_play (wsV RX5 223 RX4 yX4_faultPosition wsX4_faultPosition) := goodIn_app (goodIn_of _ (by decide +kernel)) ggX5_play_X4_faultPosition
set_option maxRecDepth 20000 in
theorem ggX5_play_X1_handOversBehind : GoodIn wsX5_play wsX1_handOversBehind := goodIn_r _ [55, 56, 57, 58, 59, 54, 60, 61, 193, 194, 195, 196, 197, 198, 199, 200, 201] (by decide +kernel) (by decide +kernel)
set_option maxRecDepth 20000 in
theorem gX5_play_X1_handOversBehind : GoodIn wsX5_play (wsV RX5 85 RX1 yX1_handOversBehind wsX1_handOversBehind) := goodIn_app (goodIn_of _ (by decide +kernel)) ggX5_play_X1_handOversBehind
set_option maxRecDepth 20000 in
theorem ggX5_play_X0_keep : GoodIn wsX5_play wsX0_keep := goodIn_r _ [66, 67, 68, 69, 70, 71, 72, 54, 73, 74, 75, 61, 76, 77, 78, 79, 56, 80, 81, 82, 83, 84, 85, 86, 87, 88, 89, 90, 91, 92, 93, 94, 95, 96, 97, 98, 99, 100, 101, 102, 103, 104, 105, 106, 219, 220, 221, 193, 194, 195, 196, 197, 198, 199, 200, 201, 202, 203, 204, 205, 206, 207, 208, 209, 222, 223] (by decide +kernel) (by decide +kernel)
set_option maxRecDepth 20000 in
theorem gX5_play_X0_keep : GoodIn wsX5_play (wsV RX5 46 RX0 yX0_keep wsX0_keep) := goodIn_app (goodIn_of _ (by decide +kernel)) ggX5_play_X0_keep
set_option maxRecDepth 20000 in
theorem ggX5_play_X4_readPart : GoodIn wsX5_play wsX4_readPart := goodIn_r _ [27, 22, 20, 23, 28, 21, 29, 30, 31, 32, 15, 33, 34, 35, 36, 37, 19, 38, 39, 40, 41, 42, 43, 44, 45, 46, 47, 48, 49, 50, 210, 211, 212, 213, 214, 215, 216, 217, 218] (by decide +kernel) (by decide +kernel)
set_option maxRecDepth 20000 in
theorem gX5_play_X4_readPart : GoodIn wsX5_play (wsV RX5 237 RX4 yX4_readPart wsX4_readPart) := goodIn_app (goodIn_of _ (by decide +kernel)) ggX5_play_X4_readPart
set_option maxRecDepth 20000 in
theorem ggX5_play_X5_playPart : GoodIn wsX5_play wsX5_playPart := goodIn_r _ [112, 4, 113, 1, 114, 2, 115, 116, 117, 54, 118, 56, 80, 61, 57, 58, 59, 60, 119, 120, 121, 122, 123, 124, 125, 126, 74, 81, 82, 83, 127, 84, 75, 128, 129, 130, 88, 131, 90, 91, 132, 133, 134, 135, 98, 97, 95, 96, 136, 137, 138, 139, 93, 140, 141, 142, 143, 94, 144, 145, 146, 147, 148, 149, 150, 151, 152, 153, 154, 102, 155, 104, 106, 156, 157, 158, 159, 160, 161, 162, 163, 164, 165, 166, 167, 168, 169, 170, 171, 172, 173, 174, 175, 176, 177, 178, 179, 180, 181, 182, 183, 184, 185, 186, 187, 188, 189, 190, 191, 192, 210, 211, 212, 213, 214, 215, 216, 217, 218, 193, 194, 195, 196, 197, 198, 199, 200, 201, 202, 203, 204, 205, 206, 207, 208, 209, 222, 223] (by decide +kernel) (by decide +kernel)
set_option maxRecDepth 20000 in
theorem gX5_play_X5_playPart : GoodIn wsX5_play (wsV RX5 241 RX5 yX5_playPart wsX5_playPart) := goodIn_app (goodIn_of _ (by decide +kernel)) ggX5_play_X5_playPart
theorem dX5_play_0 : decode cX5_play 0 = .ok (.aload_n 0, 1) := by decide +kernel
theorem dX5_play_1 : decode cX5_play 1 = .ok (.getfield 12, 3) := by decide +kernel
theorem dX5_play_4 : decode cX5_play 4 = .ok (.getfield 54, 3) := by decide +kernel
theorem dX5_play_7 : decode cX5_play 7 = .ok (.getfield 187, 3) := by decide +kernel
theorem dX5_play_10 : decode cX5_play 10 = .ok (.istore_n 1, 1) := by decide +kernel
theorem dX5_play_11 : decode cX5_play 11 = .ok (.aload_n 0, 1) := by decide +kernel
theorem dX5_play_12 : decode cX5_play 12 = .ok (.getfield 26, 3) := by decide +kernel
theorem dX5_play_15 : decode cX5_play 15 = .ok (.iload_n 1, 1) := by decide +kernel
theorem dX5_play_16 : decode cX5_play 16 = .ok (.invokevirtual 223, 3) := by decide +kernel
theorem dX5_play_19 : decode cX5_play 19 = .ok (.ldc 109, 2) := by decide +kernel
theorem dX5_play_21 : decode cX5_play 21 = .ok (.if_icmp .eq 6, 3) := by decide +kernel
theorem dX5_play_24 : decode cX5_play 24 = .ok (.ldc 212, 2) := by decide +kernel
theorem dX5_play_26 : decode cX5_play 26 = .ok (.ireturn, 1) := by decide +kernel
theorem dX5_play_27 : decode cX5_play 27 = .ok (.aload_n 0, 1) := by decide +kernel
theorem dX5_play_28 : decode cX5_play 28 = .ok (.getfield 12, 3) := by decide +kernel
theorem dX5_play_31 : decode cX5_play 31 = .ok (.aload_n 0, 1) := by decide +kernel
theorem dX5_play_32 : decode cX5_play 32 = .ok (.getfield 26, 3) := by decide +kernel
theorem dX5_play_35 : decode cX5_play 35 = .ok (.getfield 232, 3) := by decide +kernel
theorem dX5_play_38 : decode cX5_play 38 = .ok (.invokevirtual 85, 3) := by decide +kernel
theorem dX5_play_41 : decode cX5_play 41 = .ok (.sipush 999, 3) := by decide +kernel
theorem dX5_play_44 : decode cX5_play 44 = .ok (.if_icmp .le 6, 3) := by decide +kernel
theorem dX5_play_47 : decode cX5_play 47 = .ok (.ldc 89, 2) := by decide +kernel
theorem dX5_play_49 : decode cX5_play 49 = .ok (.ireturn, 1) := by decide +kernel
theorem dX5_play_50 : decode cX5_play 50 = .ok (.aload_n 0, 1) := by decide +kernel
theorem dX5_play_51 : decode cX5_play 51 = .ok (.getfield 19, 3) := by decide +kernel
theorem dX5_play_54 : decode cX5_play 54 = .ok (.aload_n 0, 1) := by decide +kernel
theorem dX5_play_55 : decode cX5_play 55 = .ok (.getfield 12, 3) := by decide +kernel
theorem dX5_play_58 : decode cX5_play 58 = .ok (.invokevirtual 46, 3) := by decide +kernel
theorem dX5_play_61 : decode cX5_play 61 = .ok (.aload_n 0, 1) := by decide +kernel
theorem dX5_play_62 : decode cX5_play 62 = .ok (.getfield 26, 3) := by decide +kernel
theorem dX5_play_65 : decode cX5_play 65 = .ok (.getfield 234, 3) := by decide +kernel
theorem dX5_play_68 : decode cX5_play 68 = .ok (.istore_n 2, 1) := by decide +kernel
theorem dX5_play_69 : decode cX5_play 69 = .ok (.iconst 0, 1) := by decide +kernel
theorem dX5_play_70 : decode cX5_play 70 = .ok (.istore_n 3, 1) := by decide +kernel
theorem dX5_play_71 : decode cX5_play 71 = .ok (.iconst 0, 1) := by decide +kernel
theorem dX5_play_72 : decode cX5_play 72 = .ok (.istore 4, 2) := by decide +kernel
theorem dX5_play_74 : decode cX5_play 74 = .ok (.iload 4, 2) := by decide +kernel
theorem dX5_play_76 : decode cX5_play 76 = .ok (.iload_n 2, 1) := by decide +kernel
theorem dX5_play_77 : decode cX5_play 77 = .ok (.if_icmp .ge 30, 3) := by decide +kernel
theorem dX5_play_80 : decode cX5_play 80 = .ok (.aload_n 0, 1) := by decide +kernel
theorem dX5_play_81 : decode cX5_play 81 = .ok (.getfield 26, 3) := by decide +kernel
theorem dX5_play_84 : decode cX5_play 84 = .ok (.iload_n 3, 1) := by decide +kernel
theorem dX5_play_85 : decode cX5_play 85 = .ok (.iload_n 1, 1) := by decide +kernel
theorem dX5_play_86 : decode cX5_play 86 = .ok (.invokevirtual 237, 3) := by decide +kernel
theorem dX5_play_89 : decode cX5_play 89 = .ok (.aload_n 0, 1) := by decide +kernel
theorem dX5_play_90 : decode cX5_play 90 = .ok (.invokevirtual 241, 3) := by decide +kernel
theorem dX5_play_93 : decode cX5_play 93 = .ok (.aload_n 0, 1) := by decide +kernel
theorem dX5_play_94 : decode cX5_play 94 = .ok (.getfield 26, 3) := by decide +kernel
theorem dX5_play_97 : decode cX5_play 97 = .ok (.getfield 244, 3) := by decide +kernel
theorem dX5_play_100 : decode cX5_play 100 = .ok (.istore_n 3, 1) := by decide +kernel
theorem dX5_play_101 : decode cX5_play 101 = .ok (.iinc 4 1, 3) := by decide +kernel
theorem dX5_play_104 : decode cX5_play 104 = .ok (.goto (-30), 3) := by decide +kernel
theorem dX5_play_107 : decode cX5_play 107 = .ok (.iload_n 2, 1) := by decide +kernel
theorem dX5_play_108 : decode cX5_play 108 = .ok (.ireturn, 1) := by decide +kernel
set_option maxRecDepth 20000 in
theorem ggX5_playPart_X1_take : GoodIn wsX5_playPart wsX1_take := goodIn_r _ [10, 11, 12, 13, 14, 15, 16, 9, 17, 18, 19, 20, 21, 22, 23, 24, 25, 26, 27, 28, 29, 30, 31, 32, 33, 34, 35, 36, 37, 38, 39, 40, 41, 42, 43, 44, 45, 46, 47, 48, 49, 50, 51, 52, 53, 54, 55, 56, 57, 58, 59, 60, 61, 62, 63, 64, 65, 66, 67, 68, 69, 70, 71, 72, 73, 74, 75, 76, 77, 78, 79, 80, 81, 82, 83, 84, 85, 86, 87, 88, 89, 90, 91, 92, 93, 94, 95, 96, 97, 119, 120, 121, 122, 123, 124, 125, 126, 127, 128, 129, 130, 131, 132, 133, 134, 135, 136, 137] (by decide +kernel) (by decide +kernel)
set_option maxRecDepth 20000 in
theorem gX5_playPart_X1_take : GoodIn wsX5_playPart (wsV RX5 90 RX1 yX1_take wsX1_take) := goodIn_app (goodIn_of _ (by decide +kernel)) ggX5_playPart_X1_take
set_option maxRecDepth 20000 in
theorem ggX5_playPart_X3_has : GoodIn wsX5_playPart wsX3_has := goodIn_r _ [101, 38, 128, 129, 130, 131, 132, 133, 134, 135] (by decide +kernel) (by decide +kernel)
set_option maxRecDepth 20000 in
theorem gX5_playPart_X3_has : GoodIn wsX5_playPart (wsV RX5 57 RX3 yX3_has wsX3_has) := goodIn_app (goodIn_of _ (by decide +kernel)) ggX5_playPart_X3_has
set_option maxRecDepth 20000 in
theorem ggX5_playPart_X3_changeShares : GoodIn wsX5_playPart wsX3_changeShares := goodIn_r _ [105, 52, 57, 128, 129, 130, 131, 132, 133, 134, 135] (by decide +kernel) (by decide +kernel)
set_option maxRecDepth 20000 in
theorem gX5_playPart_X3_changeShares : GoodIn wsX5_playPart (wsV RX5 68 RX3 yX3_changeShares wsX3_changeShares) := goodIn_app (goodIn_of _ (by decide +kernel)) ggX5_playPart_X3_changeShares
theorem dX5_playPart_0 : decode cX5_playPart 0 = .ok (.aload_n 0, 1) := by decide +kernel
theorem dX5_playPart_1 : decode cX5_playPart 1 = .ok (.getfield 26, 3) := by decide +kernel
theorem dX5_playPart_4 : decode cX5_playPart 4 = .ok (.getfield 247, 3) := by decide +kernel
theorem dX5_playPart_7 : decode cX5_playPart 7 = .ok (.bipush 115, 2) := by decide +kernel
theorem dX5_playPart_9 : decode cX5_playPart 9 = .ok (.if_icmp .ne 22, 3) := by decide +kernel
theorem dX5_playPart_12 : decode cX5_playPart 12 = .ok (.aload_n 0, 1) := by decide +kernel
theorem dX5_playPart_13 : decode cX5_playPart 13 = .ok (.getfield 12, 3) := by decide +kernel
theorem dX5_playPart_16 : decode cX5_playPart 16 = .ok (.aload_n 0, 1) := by decide +kernel
theorem dX5_playPart_17 : decode cX5_playPart 17 = .ok (.getfield 26, 3) := by decide +kernel
theorem dX5_playPart_20 : decode cX5_playPart 20 = .ok (.getfield 251, 3) := by decide +kernel
theorem dX5_playPart_23 : decode cX5_playPart 23 = .ok (.iconst 0, 1) := by decide +kernel
theorem dX5_playPart_24 : decode cX5_playPart 24 = .ok (.iaload, 1) := by decide +kernel
theorem dX5_playPart_25 : decode cX5_playPart 25 = .ok (.invokevirtual 90, 3) := by decide +kernel
theorem dX5_playPart_28 : decode cX5_playPart 28 = .ok (.goto 62, 3) := by decide +kernel
theorem dX5_playPart_31 : decode cX5_playPart 31 = .ok (.aload_n 0, 1) := by decide +kernel
theorem dX5_playPart_32 : decode cX5_playPart 32 = .ok (.getfield 12, 3) := by decide +kernel
theorem dX5_playPart_35 : decode cX5_playPart 35 = .ok (.getfield 54, 3) := by decide +kernel
theorem dX5_playPart_38 : decode cX5_playPart 38 = .ok (.aload_n 0, 1) := by decide +kernel
theorem dX5_playPart_39 : decode cX5_playPart 39 = .ok (.getfield 26, 3) := by decide +kernel
theorem dX5_playPart_42 : decode cX5_playPart 42 = .ok (.getfield 251, 3) := by decide +kernel
theorem dX5_playPart_45 : decode cX5_playPart 45 = .ok (.iconst 0, 1) := by decide +kernel
theorem dX5_playPart_46 : decode cX5_playPart 46 = .ok (.iaload, 1) := by decide +kernel
theorem dX5_playPart_47 : decode cX5_playPart 47 = .ok (.invokevirtual 57, 3) := by decide +kernel
theorem dX5_playPart_50 : decode cX5_playPart 50 = .ok (.ifCond .eq 40, 3) := by decide +kernel
theorem dX5_playPart_53 : decode cX5_playPart 53 = .ok (.aload_n 0, 1) := by decide +kernel
theorem dX5_playPart_54 : decode cX5_playPart 54 = .ok (.getfield 12, 3) := by decide +kernel
theorem dX5_playPart_57 : decode cX5_playPart 57 = .ok (.getfield 54, 3) := by decide +kernel
theorem dX5_playPart_60 : decode cX5_playPart 60 = .ok (.aload_n 0, 1) := by decide +kernel
theorem dX5_playPart_61 : decode cX5_playPart 61 = .ok (.getfield 26, 3) := by decide +kernel
theorem dX5_playPart_64 : decode cX5_playPart 64 = .ok (.getfield 251, 3) := by decide +kernel
theorem dX5_playPart_67 : decode cX5_playPart 67 = .ok (.iconst 0, 1) := by decide +kernel
theorem dX5_playPart_68 : decode cX5_playPart 68 = .ok (.iaload, 1) := by decide +kernel
theorem dX5_playPart_69 : decode cX5_playPart 69 = .ok (.aload_n 0, 1) := by decide +kernel
theorem dX5_playPart_70 : decode cX5_playPart 70 = .ok (.getfield 26, 3) := by decide +kernel
theorem dX5_playPart_73 : decode cX5_playPart 73 = .ok (.getfield 251, 3) := by decide +kernel
theorem dX5_playPart_76 : decode cX5_playPart 76 = .ok (.iconst 1, 1) := by decide +kernel
theorem dX5_playPart_77 : decode cX5_playPart 77 = .ok (.iaload, 1) := by decide +kernel
theorem dX5_playPart_78 : decode cX5_playPart 78 = .ok (.aload_n 0, 1) := by decide +kernel
theorem dX5_playPart_79 : decode cX5_playPart 79 = .ok (.getfield 26, 3) := by decide +kernel
theorem dX5_playPart_82 : decode cX5_playPart 82 = .ok (.getfield 251, 3) := by decide +kernel
theorem dX5_playPart_85 : decode cX5_playPart 85 = .ok (.iconst 2, 1) := by decide +kernel
theorem dX5_playPart_86 : decode cX5_playPart 86 = .ok (.iaload, 1) := by decide +kernel
theorem dX5_playPart_87 : decode cX5_playPart 87 = .ok (.invokevirtual 68, 3) := by decide +kernel
theorem dX5_playPart_90 : decode cX5_playPart 90 = .ok (.return_, 1) := by decide +kernel
theorem dX5_outside_0 : decode cX5_outside 0 = .ok (.iload_n 0, 1) := by decide +kernel
theorem dX5_outside_1 : decode cX5_outside 1 = .ok (.iload_n 1, 1) := by decide +kernel
theorem dX5_outside_2 : decode cX5_outside 2 = .ok (.if_icmp .lt 8, 3) := by decide +kernel
theorem dX5_outside_5 : decode cX5_outside 5 = .ok (.iload_n 0, 1) := by decide +kernel
theorem dX5_outside_6 : decode cX5_outside 6 = .ok (.iload_n 2, 1) := by decide +kernel
theorem dX5_outside_7 : decode cX5_outside 7 = .ok (.if_icmp .le 7, 3) := by decide +kernel
theorem dX5_outside_10 : decode cX5_outside 10 = .ok (.iconst 1, 1) := by decide +kernel
theorem dX5_outside_11 : decode cX5_outside 11 = .ok (.goto 4, 3) := by decide +kernel
theorem dX5_outside_14 : decode cX5_outside 14 = .ok (.iconst 0, 1) := by decide +kernel
theorem dX5_outside_15 : decode cX5_outside 15 = .ok (.ireturn, 1) := by decide +kernel
theorem dX5_bitsOf_0 : decode cX5_bitsOf 0 = .ok (.fload_n 0, 1) := by decide +kernel
theorem dX5_bitsOf_1 : decode cX5_bitsOf 1 = .ok (.fconst 0, 1) := by decide +kernel
theorem dX5_bitsOf_2 : decode cX5_bitsOf 2 = .ok (.fcmp .l, 1) := by decide +kernel
theorem dX5_bitsOf_3 : decode cX5_bitsOf 3 = .ok (.ifCond .gt 5, 3) := by decide +kernel
theorem dX5_bitsOf_6 : decode cX5_bitsOf 6 = .ok (.iconst 0, 1) := by decide +kernel
theorem dX5_bitsOf_7 : decode cX5_bitsOf 7 = .ok (.ireturn, 1) := by decide +kernel
theorem dX5_bitsOf_8 : decode cX5_bitsOf 8 = .ok (.fload_n 0, 1) := by decide +kernel
theorem dX5_bitsOf_9 : decode cX5_bitsOf 9 = .ok (.fstore_n 1, 1) := by decide +kernel
theorem dX5_bitsOf_10 : decode cX5_bitsOf 10 = .ok (.bipush 127, 2) := by decide +kernel
theorem dX5_bitsOf_12 : decode cX5_bitsOf 12 = .ok (.istore_n 2, 1) := by decide +kernel
theorem dX5_bitsOf_13 : decode cX5_bitsOf 13 = .ok (.fload_n 1, 1) := by decide +kernel
theorem dX5_bitsOf_14 : decode cX5_bitsOf 14 = .ok (.fconst 2, 1) := by decide +kernel
theorem dX5_bitsOf_15 : decode cX5_bitsOf 15 = .ok (.fcmp .l, 1) := by decide +kernel
theorem dX5_bitsOf_16 : decode cX5_bitsOf 16 = .ok (.ifCond .lt 20, 3) := by decide +kernel
theorem dX5_bitsOf_19 : decode cX5_bitsOf 19 = .ok (.iload_n 2, 1) := by decide +kernel
theorem dX5_bitsOf_20 : decode cX5_bitsOf 20 = .ok (.sipush 254, 3) := by decide +kernel
theorem dX5_bitsOf_23 : decode cX5_bitsOf 23 = .ok (.if_icmp .ge 13, 3) := by decide +kernel
theorem dX5_bitsOf_26 : decode cX5_bitsOf 26 = .ok (.fload_n 1, 1) := by decide +kernel
theorem dX5_bitsOf_27 : decode cX5_bitsOf 27 = .ok (.fconst 2, 1) := by decide +kernel
theorem dX5_bitsOf_28 : decode cX5_bitsOf 28 = .ok (.fdiv, 1) := by decide +kernel
theorem dX5_bitsOf_29 : decode cX5_bitsOf 29 = .ok (.fstore_n 1, 1) := by decide +kernel
theorem dX5_bitsOf_30 : decode cX5_bitsOf 30 = .ok (.iinc 2 1, 3) := by decide +kernel
theorem dX5_bitsOf_33 : decode cX5_bitsOf 33 = .ok (.goto (-20), 3) := by decide +kernel
theorem dX5_bitsOf_36 : decode cX5_bitsOf 36 = .ok (.fload_n 1, 1) := by decide +kernel
theorem dX5_bitsOf_37 : decode cX5_bitsOf 37 = .ok (.fconst 1, 1) := by decide +kernel
theorem dX5_bitsOf_38 : decode cX5_bitsOf 38 = .ok (.fcmp .g, 1) := by decide +kernel
theorem dX5_bitsOf_39 : decode cX5_bitsOf 39 = .ok (.ifCond .ge 18, 3) := by decide +kernel
theorem dX5_bitsOf_42 : decode cX5_bitsOf 42 = .ok (.iload_n 2, 1) := by decide +kernel
theorem dX5_bitsOf_43 : decode cX5_bitsOf 43 = .ok (.iconst 1, 1) := by decide +kernel
theorem dX5_bitsOf_44 : decode cX5_bitsOf 44 = .ok (.if_icmp .le 13, 3) := by decide +kernel
theorem dX5_bitsOf_47 : decode cX5_bitsOf 47 = .ok (.fload_n 1, 1) := by decide +kernel
theorem dX5_bitsOf_48 : decode cX5_bitsOf 48 = .ok (.fconst 2, 1) := by decide +kernel
theorem dX5_bitsOf_49 : decode cX5_bitsOf 49 = .ok (.fmul, 1) := by decide +kernel
theorem dX5_bitsOf_50 : decode cX5_bitsOf 50 = .ok (.fstore_n 1, 1) := by decide +kernel
theorem dX5_bitsOf_51 : decode cX5_bitsOf 51 = .ok (.iinc 2 (-1), 3) := by decide +kernel
theorem dX5_bitsOf_54 : decode cX5_bitsOf 54 = .ok (.goto (-18), 3) := by decide +kernel
theorem dX5_bitsOf_57 : decode cX5_bitsOf 57 = .ok (.iload_n 2, 1) := by decide +kernel
theorem dX5_bitsOf_58 : decode cX5_bitsOf 58 = .ok (.bipush 23, 2) := by decide +kernel
theorem dX5_bitsOf_60 : decode cX5_bitsOf 60 = .ok (.ishl, 1) := by decide +kernel
theorem dX5_bitsOf_61 : decode cX5_bitsOf 61 = .ok (.fload_n 1, 1) := by decide +kernel
theorem dX5_bitsOf_62 : decode cX5_bitsOf 62 = .ok (.fconst 1, 1) := by decide +kernel
theorem dX5_bitsOf_63 : decode cX5_bitsOf 63 = .ok (.fsub, 1) := by decide +kernel
theorem dX5_bitsOf_64 : decode cX5_bitsOf 64 = .ok (.ldc 254, 2) := by decide +kernel
theorem dX5_bitsOf_66 : decode cX5_bitsOf 66 = .ok (.fmul, 1) := by decide +kernel
theorem dX5_bitsOf_67 : decode cX5_bitsOf 67 = .ok (.f2i, 1) := by decide +kernel
theorem dX5_bitsOf_68 : decode cX5_bitsOf 68 = .ok (.ior, 1) := by decide +kernel
theorem dX5_bitsOf_69 : decode cX5_bitsOf 69 = .ok (.ireturn, 1) := by decide +kernel
end
section
set_option maxRecDepth 20000 in
theorem ggX6_init_X6_begins : GoodIn wsX6_init wsX6_begins := goodIn_r _ [15, 5, 16, 17, 18, 19, 20, 21, 22, 23, 24, 25, 26, 27, 28] (by decide +kernel) (by decide +kernel)
set_option maxRecDepth 20000 in
theorem gX6_init_X6_begins : GoodIn wsX6_init (wsV RX6 28 RX6 yX6_begins wsX6_begins) := goodIn_app (goodIn_of _ (by decide +kernel)) ggX6_init_X6_begins
theorem dX6_init_0 : decode cX6_init 0 = .ok (.aload_n 0, 1) := by decide +kernel
theorem dX6_init_1 : decode cX6_init 1 = .ok (.invokespecial 1, 3) := by decide +kernel
theorem dX6_init_4 : decode cX6_init 4 = .ok (.aload_n 0, 1) := by decide +kernel
theorem dX6_init_5 : decode cX6_init 5 = .ok (.sipush 162, 3) := by decide +kernel
theorem dX6_init_8 : decode cX6_init 8 = .ok (.newarray .int, 2) := by decide +kernel
theorem dX6_init_10 : decode cX6_init 10 = .ok (.putfield 7, 3) := by decide +kernel
theorem dX6_init_13 : decode cX6_init 13 = .ok (.aload_n 0, 1) := by decide +kernel
theorem dX6_init_14 : decode cX6_init 14 = .ok (.sipush 162, 3) := by decide +kernel
theorem dX6_init_17 : decode cX6_init 17 = .ok (.newarray .int, 2) := by decide +kernel
theorem dX6_init_19 : decode cX6_init 19 = .ok (.putfield 13, 3) := by decide +kernel
theorem dX6_init_22 : decode cX6_init 22 = .ok (.aload_n 0, 1) := by decide +kernel
theorem dX6_init_23 : decode cX6_init 23 = .ok (.sipush 648, 3) := by decide +kernel
theorem dX6_init_26 : decode cX6_init 26 = .ok (.newarray .int, 2) := by decide +kernel
theorem dX6_init_28 : decode cX6_init 28 = .ok (.putfield 16, 3) := by decide +kernel
theorem dX6_init_31 : decode cX6_init 31 = .ok (.aload_n 0, 1) := by decide +kernel
theorem dX6_init_32 : decode cX6_init 32 = .ok (.bipush 60, 2) := by decide +kernel
theorem dX6_init_34 : decode cX6_init 34 = .ok (.newarray .int, 2) := by decide +kernel
theorem dX6_init_36 : decode cX6_init 36 = .ok (.putfield 19, 3) := by decide +kernel
theorem dX6_init_39 : decode cX6_init 39 = .ok (.aload_n 0, 1) := by decide +kernel
theorem dX6_init_40 : decode cX6_init 40 = .ok (.iconst 3, 1) := by decide +kernel
theorem dX6_init_41 : decode cX6_init 41 = .ok (.newarray .int, 2) := by decide +kernel
theorem dX6_init_43 : decode cX6_init 43 = .ok (.putfield 22, 3) := by decide +kernel
theorem dX6_init_46 : decode cX6_init 46 = .ok (.aload_n 0, 1) := by decide +kernel
theorem dX6_init_47 : decode cX6_init 47 = .ok (.iconst 3, 1) := by decide +kernel
theorem dX6_init_48 : decode cX6_init 48 = .ok (.newarray .int, 2) := by decide +kernel
theorem dX6_init_50 : decode cX6_init 50 = .ok (.putfield 25, 3) := by decide +kernel
theorem dX6_init_53 : decode cX6_init 53 = .ok (.aload_n 0, 1) := by decide +kernel
theorem dX6_init_54 : decode cX6_init 54 = .ok (.getfield 7, 3) := by decide +kernel
theorem dX6_init_57 : decode cX6_init 57 = .ok (.iconst 0, 1) := by decide +kernel
theorem dX6_init_58 : decode cX6_init 58 = .ok (.iconst 4, 1) := by decide +kernel
theorem dX6_init_59 : decode cX6_init 59 = .ok (.iastore, 1) := by decide +kernel
theorem dX6_init_60 : decode cX6_init 60 = .ok (.aload_n 0, 1) := by decide +kernel
theorem dX6_init_61 : decode cX6_init 61 = .ok (.getfield 7, 3) := by decide +kernel
theorem dX6_init_64 : decode cX6_init 64 = .ok (.iconst 5, 1) := by decide +kernel
theorem dX6_init_65 : decode cX6_init 65 = .ok (.sipush 20000, 3) := by decide +kernel
theorem dX6_init_68 : decode cX6_init 68 = .ok (.iastore, 1) := by decide +kernel
theorem dX6_init_69 : decode cX6_init 69 = .ok (.aload_n 0, 1) := by decide +kernel
theorem dX6_init_70 : decode cX6_init 70 = .ok (.getfield 7, 3) := by decide +kernel
theorem dX6_init_73 : decode cX6_init 73 = .ok (.bipush 7, 2) := by decide +kernel
theorem dX6_init_75 : decode cX6_init 75 = .ok (.sipush 1000, 3) := by decide +kernel
theorem dX6_init_78 : decode cX6_init 78 = .ok (.iastore, 1) := by decide +kernel
theorem dX6_init_79 : decode cX6_init 79 = .ok (.aload_n 0, 1) := by decide +kernel
theorem dX6_init_80 : decode cX6_init 80 = .ok (.getfield 7, 3) := by decide +kernel
theorem dX6_init_83 : decode cX6_init 83 = .ok (.bipush 8, 2) := by decide +kernel
theorem dX6_init_85 : decode cX6_init 85 = .ok (.sipush 4000, 3) := by decide +kernel
theorem dX6_init_88 : decode cX6_init 88 = .ok (.iastore, 1) := by decide +kernel
theorem dX6_init_89 : decode cX6_init 89 = .ok (.aload_n 0, 1) := by decide +kernel
theorem dX6_init_90 : decode cX6_init 90 = .ok (.getfield 7, 3) := by decide +kernel
theorem dX6_init_93 : decode cX6_init 93 = .ok (.bipush 9, 2) := by decide +kernel
theorem dX6_init_95 : decode cX6_init 95 = .ok (.sipush 9000, 3) := by decide +kernel
theorem dX6_init_98 : decode cX6_init 98 = .ok (.iastore, 1) := by decide +kernel
theorem dX6_init_99 : decode cX6_init 99 = .ok (.aload_n 0, 1) := by decide +kernel
theorem dX6_init_100 : decode cX6_init 100 = .ok (.invokevirtual 28, 3) := by decide +kernel
theorem dX6_init_103 : decode cX6_init 103 = .ok (.return_, 1) := by decide +kernel
theorem dX6_in_0 : decode cX6_in 0 = .ok (.iload_n 0, 1) := by decide +kernel
theorem dX6_in_1 : decode cX6_in 1 = .ok (.iload_n 1, 1) := by decide +kernel
theorem dX6_in_2 : decode cX6_in 2 = .ok (.if_icmp .lt 12, 3) := by decide +kernel
theorem dX6_in_5 : decode cX6_in 5 = .ok (.iload_n 0, 1) := by decide +kernel
theorem dX6_in_6 : decode cX6_in 6 = .ok (.iload_n 2, 1) := by decide +kernel
theorem dX6_in_7 : decode cX6_in 7 = .ok (.if_icmp .gt 7, 3) := by decide +kernel
theorem dX6_in_10 : decode cX6_in 10 = .ok (.iconst 1, 1) := by decide +kernel
theorem dX6_in_11 : decode cX6_in 11 = .ok (.goto 4, 3) := by decide +kernel
theorem dX6_in_14 : decode cX6_in 14 = .ok (.iconst 0, 1) := by decide +kernel
theorem dX6_in_15 : decode cX6_in 15 = .ok (.ireturn, 1) := by decide +kernel
theorem dX6_records_0 : decode cX6_records 0 = .ok (.aload_n 0, 1) := by decide +kernel
theorem dX6_records_1 : decode cX6_records 1 = .ok (.getfield 31, 3) := by decide +kernel
theorem dX6_records_4 : decode cX6_records 4 = .ok (.iconst 4, 1) := by decide +kernel
theorem dX6_records_5 : decode cX6_records 5 = .ok (.if_icmp .ne 44, 3) := by decide +kernel
theorem dX6_records_8 : decode cX6_records 8 = .ok (.iconst 0, 1) := by decide +kernel
theorem dX6_records_9 : decode cX6_records 9 = .ok (.istore_n 1, 1) := by decide +kernel
theorem dX6_records_10 : decode cX6_records 10 = .ok (.iload_n 1, 1) := by decide +kernel
theorem dX6_records_11 : decode cX6_records 11 = .ok (.sipush 486, 3) := by decide +kernel
theorem dX6_records_14 : decode cX6_records 14 = .ok (.if_icmp .ge 25, 3) := by decide +kernel
theorem dX6_records_17 : decode cX6_records 17 = .ok (.aload_n 0, 1) := by decide +kernel
theorem dX6_records_18 : decode cX6_records 18 = .ok (.getfield 16, 3) := by decide +kernel
theorem dX6_records_21 : decode cX6_records 21 = .ok (.iload_n 1, 1) := by decide +kernel
theorem dX6_records_22 : decode cX6_records 22 = .ok (.aload_n 0, 1) := by decide +kernel
theorem dX6_records_23 : decode cX6_records 23 = .ok (.getfield 16, 3) := by decide +kernel
theorem dX6_records_26 : decode cX6_records 26 = .ok (.iload_n 1, 1) := by decide +kernel
theorem dX6_records_27 : decode cX6_records 27 = .ok (.sipush 162, 3) := by decide +kernel
theorem dX6_records_30 : decode cX6_records 30 = .ok (.iadd, 1) := by decide +kernel
theorem dX6_records_31 : decode cX6_records 31 = .ok (.iaload, 1) := by decide +kernel
theorem dX6_records_32 : decode cX6_records 32 = .ok (.iastore, 1) := by decide +kernel
theorem dX6_records_33 : decode cX6_records 33 = .ok (.iinc 1 1, 3) := by decide +kernel
theorem dX6_records_36 : decode cX6_records 36 = .ok (.goto (-26), 3) := by decide +kernel
theorem dX6_records_39 : decode cX6_records 39 = .ok (.aload_n 0, 1) := by decide +kernel
theorem dX6_records_40 : decode cX6_records 40 = .ok (.dup, 1) := by decide +kernel
theorem dX6_records_41 : decode cX6_records 41 = .ok (.getfield 31, 3) := by decide +kernel
theorem dX6_records_44 : decode cX6_records 44 = .ok (.iconst 1, 1) := by decide +kernel
theorem dX6_records_45 : decode cX6_records 45 = .ok (.isub, 1) := by decide +kernel
theorem dX6_records_46 : decode cX6_records 46 = .ok (.putfield 31, 3) := by decide +kernel
theorem dX6_records_49 : decode cX6_records 49 = .ok (.iconst 0, 1) := by decide +kernel
theorem dX6_records_50 : decode cX6_records 50 = .ok (.istore_n 1, 1) := by decide +kernel
theorem dX6_records_51 : decode cX6_records 51 = .ok (.iload_n 1, 1) := by decide +kernel
theorem dX6_records_52 : decode cX6_records 52 = .ok (.sipush 162, 3) := by decide +kernel
theorem dX6_records_55 : decode cX6_records 55 = .ok (.if_icmp .ge 30, 3) := by decide +kernel
theorem dX6_records_58 : decode cX6_records 58 = .ok (.aload_n 0, 1) := by decide +kernel
theorem dX6_records_59 : decode cX6_records 59 = .ok (.getfield 16, 3) := by decide +kernel
theorem dX6_records_62 : decode cX6_records 62 = .ok (.sipush 162, 3) := by decide +kernel
theorem dX6_records_65 : decode cX6_records 65 = .ok (.aload_n 0, 1) := by decide +kernel
theorem dX6_records_66 : decode cX6_records 66 = .ok (.getfield 31, 3) := by decide +kernel
theorem dX6_records_69 : decode cX6_records 69 = .ok (.imul, 1) := by decide +kernel
theorem dX6_records_70 : decode cX6_records 70 = .ok (.iload_n 1, 1) := by decide +kernel
theorem dX6_records_71 : decode cX6_records 71 = .ok (.iadd, 1) := by decide +kernel
theorem dX6_records_72 : decode cX6_records 72 = .ok (.aload_n 0, 1) := by decide +kernel
theorem dX6_records_73 : decode cX6_records 73 = .ok (.getfield 7, 3) := by decide +kernel
theorem dX6_records_76 : decode cX6_records 76 = .ok (.iload_n 1, 1) := by decide +kernel
theorem dX6_records_77 : decode cX6_records 77 = .ok (.iaload, 1) := by decide +kernel
theorem dX6_records_78 : decode cX6_records 78 = .ok (.iastore, 1) := by decide +kernel
theorem dX6_records_79 : decode cX6_records 79 = .ok (.iinc 1 1, 3) := by decide +kernel
theorem dX6_records_82 : decode cX6_records 82 = .ok (.goto (-31), 3) := by decide +kernel
theorem dX6_records_85 : decode cX6_records 85 = .ok (.aload_n 0, 1) := by decide +kernel
theorem dX6_records_86 : decode cX6_records 86 = .ok (.dup, 1) := by decide +kernel
theorem dX6_records_87 : decode cX6_records 87 = .ok (.getfield 31, 3) := by decide +kernel
theorem dX6_records_90 : decode cX6_records 90 = .ok (.iconst 1, 1) := by decide +kernel
theorem dX6_records_91 : decode cX6_records 91 = .ok (.iadd, 1) := by decide +kernel
theorem dX6_records_92 : decode cX6_records 92 = .ok (.putfield 31, 3) := by decide +kernel
theorem dX6_records_95 : decode cX6_records 95 = .ok (.return_, 1) := by decide +kernel
theorem dX6_undo_0 : decode cX6_undo 0 = .ok (.aload_n 0, 1) := by decide +kernel
theorem dX6_undo_1 : decode cX6_undo 1 = .ok (.getfield 31, 3) := by decide +kernel
theorem dX6_undo_4 : decode cX6_undo 4 = .ok (.ifCond .ne 6, 3) := by decide +kernel
theorem dX6_undo_7 : decode cX6_undo 7 = .ok (.ldc 35, 2) := by decide +kernel
theorem dX6_undo_9 : decode cX6_undo 9 = .ok (.ireturn, 1) := by decide +kernel
theorem dX6_undo_10 : decode cX6_undo 10 = .ok (.aload_n 0, 1) := by decide +kernel
theorem dX6_undo_11 : decode cX6_undo 11 = .ok (.dup, 1) := by decide +kernel
theorem dX6_undo_12 : decode cX6_undo 12 = .ok (.getfield 31, 3) := by decide +kernel
theorem dX6_undo_15 : decode cX6_undo 15 = .ok (.iconst 1, 1) := by decide +kernel
theorem dX6_undo_16 : decode cX6_undo 16 = .ok (.isub, 1) := by decide +kernel
theorem dX6_undo_17 : decode cX6_undo 17 = .ok (.putfield 31, 3) := by decide +kernel
theorem dX6_undo_20 : decode cX6_undo 20 = .ok (.iconst 0, 1) := by decide +kernel
theorem dX6_undo_21 : decode cX6_undo 21 = .ok (.istore_n 1, 1) := by decide +kernel
theorem dX6_undo_22 : decode cX6_undo 22 = .ok (.iload_n 1, 1) := by decide +kernel
theorem dX6_undo_23 : decode cX6_undo 23 = .ok (.sipush 162, 3) := by decide +kernel
theorem dX6_undo_26 : decode cX6_undo 26 = .ok (.if_icmp .ge 30, 3) := by decide +kernel
theorem dX6_undo_29 : decode cX6_undo 29 = .ok (.aload_n 0, 1) := by decide +kernel
theorem dX6_undo_30 : decode cX6_undo 30 = .ok (.getfield 7, 3) := by decide +kernel
theorem dX6_undo_33 : decode cX6_undo 33 = .ok (.iload_n 1, 1) := by decide +kernel
theorem dX6_undo_34 : decode cX6_undo 34 = .ok (.aload_n 0, 1) := by decide +kernel
theorem dX6_undo_35 : decode cX6_undo 35 = .ok (.getfield 16, 3) := by decide +kernel
theorem dX6_undo_38 : decode cX6_undo 38 = .ok (.sipush 162, 3) := by decide +kernel
theorem dX6_undo_41 : decode cX6_undo 41 = .ok (.aload_n 0, 1) := by decide +kernel
theorem dX6_undo_42 : decode cX6_undo 42 = .ok (.getfield 31, 3) := by decide +kernel
theorem dX6_undo_45 : decode cX6_undo 45 = .ok (.imul, 1) := by decide +kernel
theorem dX6_undo_46 : decode cX6_undo 46 = .ok (.iload_n 1, 1) := by decide +kernel
theorem dX6_undo_47 : decode cX6_undo 47 = .ok (.iadd, 1) := by decide +kernel
theorem dX6_undo_48 : decode cX6_undo 48 = .ok (.iaload, 1) := by decide +kernel
theorem dX6_undo_49 : decode cX6_undo 49 = .ok (.iastore, 1) := by decide +kernel
theorem dX6_undo_50 : decode cX6_undo 50 = .ok (.iinc 1 1, 3) := by decide +kernel
theorem dX6_undo_53 : decode cX6_undo 53 = .ok (.goto (-31), 3) := by decide +kernel
theorem dX6_undo_56 : decode cX6_undo 56 = .ok (.aload_n 0, 1) := by decide +kernel
theorem dX6_undo_57 : decode cX6_undo 57 = .ok (.getfield 31, 3) := by decide +kernel
theorem dX6_undo_60 : decode cX6_undo 60 = .ok (.ireturn, 1) := by decide +kernel
theorem dX6_staying_0 : decode cX6_staying 0 = .ok (.aload_n 0, 1) := by decide +kernel
theorem dX6_staying_1 : decode cX6_staying 1 = .ok (.bipush 10, 2) := by decide +kernel
theorem dX6_staying_3 : decode cX6_staying 3 = .ok (.iload_n 1, 1) := by decide +kernel
theorem dX6_staying_4 : decode cX6_staying 4 = .ok (.iadd, 1) := by decide +kernel
theorem dX6_staying_5 : decode cX6_staying 5 = .ok (.iaload, 1) := by decide +kernel
theorem dX6_staying_6 : decode cX6_staying 6 = .ok (.aload_n 0, 1) := by decide +kernel
theorem dX6_staying_7 : decode cX6_staying 7 = .ok (.bipush 20, 2) := by decide +kernel
theorem dX6_staying_9 : decode cX6_staying 9 = .ok (.iload_n 1, 1) := by decide +kernel
theorem dX6_staying_10 : decode cX6_staying 10 = .ok (.iadd, 1) := by decide +kernel
theorem dX6_staying_11 : decode cX6_staying 11 = .ok (.iaload, 1) := by decide +kernel
theorem dX6_staying_12 : decode cX6_staying 12 = .ok (.imul, 1) := by decide +kernel
theorem dX6_staying_13 : decode cX6_staying 13 = .ok (.sipush 1000, 3) := by decide +kernel
theorem dX6_staying_16 : decode cX6_staying 16 = .ok (.idiv, 1) := by decide +kernel
theorem dX6_staying_17 : decode cX6_staying 17 = .ok (.ireturn, 1) := by decide +kernel
set_option maxRecDepth 20000 in
theorem ggX6_leaking_X6_staying : GoodIn wsX6_leaking wsX6_staying := goodIn_r _ [4] (by decide +kernel) (by decide +kernel)
set_option maxRecDepth 20000 in
theorem gX6_leaking_X6_staying : GoodIn wsX6_leaking (va_wsS RX6 36 yX6_staying wsX6_staying) := goodIn_app (goodIn_of _ (by decide +kernel)) ggX6_leaking_X6_staying
theorem dX6_leaking_0 : decode cX6_leaking 0 = .ok (.aload_n 0, 1) := by decide +kernel
theorem dX6_leaking_1 : decode cX6_leaking 1 = .ok (.bipush 10, 2) := by decide +kernel
theorem dX6_leaking_3 : decode cX6_leaking 3 = .ok (.iload_n 1, 1) := by decide +kernel
theorem dX6_leaking_4 : decode cX6_leaking 4 = .ok (.iadd, 1) := by decide +kernel
theorem dX6_leaking_5 : decode cX6_leaking 5 = .ok (.iaload, 1) := by decide +kernel
theorem dX6_leaking_6 : decode cX6_leaking 6 = .ok (.aload_n 0, 1) := by decide +kernel
theorem dX6_leaking_7 : decode cX6_leaking 7 = .ok (.iload_n 1, 1) := by decide +kernel
theorem dX6_leaking_8 : decode cX6_leaking 8 = .ok (.invokestatic 36, 3) := by decide +kernel
theorem dX6_leaking_11 : decode cX6_leaking 11 = .ok (.isub, 1) := by decide +kernel
theorem dX6_leaking_12 : decode cX6_leaking 12 = .ok (.aload_n 0, 1) := by decide +kernel
theorem dX6_leaking_13 : decode cX6_leaking 13 = .ok (.bipush 30, 2) := by decide +kernel
theorem dX6_leaking_15 : decode cX6_leaking 15 = .ok (.iload_n 1, 1) := by decide +kernel
theorem dX6_leaking_16 : decode cX6_leaking 16 = .ok (.iadd, 1) := by decide +kernel
theorem dX6_leaking_17 : decode cX6_leaking 17 = .ok (.iaload, 1) := by decide +kernel
theorem dX6_leaking_18 : decode cX6_leaking 18 = .ok (.imul, 1) := by decide +kernel
theorem dX6_leaking_19 : decode cX6_leaking 19 = .ok (.sipush 1000, 3) := by decide +kernel
theorem dX6_leaking_22 : decode cX6_leaking 22 = .ok (.idiv, 1) := by decide +kernel
theorem dX6_leaking_23 : decode cX6_leaking 23 = .ok (.ireturn, 1) := by decide +kernel
set_option maxRecDepth 20000 in
theorem ggX6_moving_X6_staying : GoodIn wsX6_moving wsX6_staying := goodIn_r _ [4] (by decide +kernel) (by decide +kernel)
set_option maxRecDepth 20000 in
theorem gX6_moving_X6_staying : GoodIn wsX6_moving (va_wsS RX6 36 yX6_staying wsX6_staying) := goodIn_app (goodIn_of _ (by decide +kernel)) ggX6_moving_X6_staying
set_option maxRecDepth 20000 in
theorem ggX6_moving_X6_leaking : GoodIn wsX6_moving wsX6_leaking := goodIn_r _ [7, 1, 2, 3, 4] (by decide +kernel) (by decide +kernel)
set_option maxRecDepth 20000 in
theorem gX6_moving_X6_leaking : GoodIn wsX6_moving (va_wsS RX6 40 yX6_leaking wsX6_leaking) := goodIn_app (goodIn_of _ (by decide +kernel)) ggX6_moving_X6_leaking
theorem dX6_moving_0 : decode cX6_moving 0 = .ok (.aload_n 0, 1) := by decide +kernel
theorem dX6_moving_1 : decode cX6_moving 1 = .ok (.bipush 10, 2) := by decide +kernel
theorem dX6_moving_3 : decode cX6_moving 3 = .ok (.iload_n 1, 1) := by decide +kernel
theorem dX6_moving_4 : decode cX6_moving 4 = .ok (.iadd, 1) := by decide +kernel
theorem dX6_moving_5 : decode cX6_moving 5 = .ok (.iaload, 1) := by decide +kernel
theorem dX6_moving_6 : decode cX6_moving 6 = .ok (.aload_n 0, 1) := by decide +kernel
theorem dX6_moving_7 : decode cX6_moving 7 = .ok (.iload_n 1, 1) := by decide +kernel
theorem dX6_moving_8 : decode cX6_moving 8 = .ok (.invokestatic 36, 3) := by decide +kernel
theorem dX6_moving_11 : decode cX6_moving 11 = .ok (.isub, 1) := by decide +kernel
theorem dX6_moving_12 : decode cX6_moving 12 = .ok (.aload_n 0, 1) := by decide +kernel
theorem dX6_moving_13 : decode cX6_moving 13 = .ok (.iload_n 1, 1) := by decide +kernel
theorem dX6_moving_14 : decode cX6_moving 14 = .ok (.invokestatic 40, 3) := by decide +kernel
theorem dX6_moving_17 : decode cX6_moving 17 = .ok (.isub, 1) := by decide +kernel
theorem dX6_moving_18 : decode cX6_moving 18 = .ok (.ireturn, 1) := by decide +kernel
set_option maxRecDepth 20000 in
theorem ggX6_handsOver_X6_staying : GoodIn wsX6_handsOver wsX6_staying := goodIn_r _ [4] (by decide +kernel) (by decide +kernel)
set_option maxRecDepth 20000 in
theorem gX6_handsOver_X6_staying : GoodIn wsX6_handsOver (va_wsS RX6 36 yX6_staying wsX6_staying) := goodIn_app (goodIn_of _ (by decide +kernel)) ggX6_handsOver_X6_staying
set_option maxRecDepth 20000 in
theorem ggX6_handsOver_X6_moving : GoodIn wsX6_handsOver wsX6_moving := goodIn_r _ [7, 1, 2, 3, 4, 8, 9, 10] (by decide +kernel) (by decide +kernel)
set_option maxRecDepth 20000 in
theorem gX6_handsOver_X6_moving : GoodIn wsX6_handsOver (va_wsS RX6 43 yX6_moving wsX6_moving) := goodIn_app (goodIn_of _ (by decide +kernel)) ggX6_handsOver_X6_moving
set_option maxRecDepth 20000 in
theorem ggX6_handsOver_X6_leaking : GoodIn wsX6_handsOver wsX6_leaking := goodIn_r _ [10, 1, 2, 3, 4] (by decide +kernel) (by decide +kernel)
set_option maxRecDepth 20000 in
theorem gX6_handsOver_X6_leaking : GoodIn wsX6_handsOver (va_wsS RX6 40 yX6_leaking wsX6_leaking) := goodIn_app (goodIn_of _ (by decide +kernel)) ggX6_handsOver_X6_leaking
theorem dX6_handsOver_0 : decode cX6_handsOver 0 = .ok (.iload_n 1, 1) := by decide +kernel
theorem dX6_handsOver_1 : decode cX6_handsOver 1 = .ok (.istore_n 2, 1) := by decide +kernel
theorem dX6_handsOver_2 : decode cX6_handsOver 2 = .ok (.iconst 0, 1) := by decide +kernel
theorem dX6_handsOver_3 : decode cX6_handsOver 3 = .ok (.istore_n 3, 1) := by decide +kernel
theorem dX6_handsOver_4 : decode cX6_handsOver 4 = .ok (.iload_n 3, 1) := by decide +kernel
theorem dX6_handsOver_5 : decode cX6_handsOver 5 = .ok (.aload_n 0, 1) := by decide +kernel
theorem dX6_handsOver_6 : decode cX6_handsOver 6 = .ok (.iconst 0, 1) := by decide +kernel
theorem dX6_handsOver_7 : decode cX6_handsOver 7 = .ok (.iaload, 1) := by decide +kernel
theorem dX6_handsOver_8 : decode cX6_handsOver 8 = .ok (.if_icmp .ge 84, 3) := by decide +kernel
theorem dX6_handsOver_11 : decode cX6_handsOver 11 = .ok (.aload_n 0, 1) := by decide +kernel
theorem dX6_handsOver_12 : decode cX6_handsOver 12 = .ok (.iload_n 3, 1) := by decide +kernel
theorem dX6_handsOver_13 : decode cX6_handsOver 13 = .ok (.invokestatic 36, 3) := by decide +kernel
theorem dX6_handsOver_16 : decode cX6_handsOver 16 = .ok (.istore 4, 2) := by decide +kernel
theorem dX6_handsOver_18 : decode cX6_handsOver 18 = .ok (.aload_n 0, 1) := by decide +kernel
theorem dX6_handsOver_19 : decode cX6_handsOver 19 = .ok (.iload_n 3, 1) := by decide +kernel
theorem dX6_handsOver_20 : decode cX6_handsOver 20 = .ok (.invokestatic 43, 3) := by decide +kernel
theorem dX6_handsOver_23 : decode cX6_handsOver 23 = .ok (.istore 5, 2) := by decide +kernel
theorem dX6_handsOver_25 : decode cX6_handsOver 25 = .ok (.aload_n 0, 1) := by decide +kernel
theorem dX6_handsOver_26 : decode cX6_handsOver 26 = .ok (.bipush 48, 2) := by decide +kernel
theorem dX6_handsOver_28 : decode cX6_handsOver 28 = .ok (.dup2, 1) := by decide +kernel
theorem dX6_handsOver_29 : decode cX6_handsOver 29 = .ok (.iaload, 1) := by decide +kernel
theorem dX6_handsOver_30 : decode cX6_handsOver 30 = .ok (.aload_n 0, 1) := by decide +kernel
theorem dX6_handsOver_31 : decode cX6_handsOver 31 = .ok (.iload_n 3, 1) := by decide +kernel
theorem dX6_handsOver_32 : decode cX6_handsOver 32 = .ok (.invokestatic 40, 3) := by decide +kernel
theorem dX6_handsOver_35 : decode cX6_handsOver 35 = .ok (.iadd, 1) := by decide +kernel
theorem dX6_handsOver_36 : decode cX6_handsOver 36 = .ok (.iastore, 1) := by decide +kernel
theorem dX6_handsOver_37 : decode cX6_handsOver 37 = .ok (.iload 4, 2) := by decide +kernel
theorem dX6_handsOver_39 : decode cX6_handsOver 39 = .ok (.iload_n 2, 1) := by decide +kernel
theorem dX6_handsOver_40 : decode cX6_handsOver 40 = .ok (.iadd, 1) := by decide +kernel
theorem dX6_handsOver_41 : decode cX6_handsOver 41 = .ok (.istore 6, 2) := by decide +kernel
theorem dX6_handsOver_43 : decode cX6_handsOver 43 = .ok (.iload 6, 2) := by decide +kernel
theorem dX6_handsOver_45 : decode cX6_handsOver 45 = .ok (.aload_n 0, 1) := by decide +kernel
theorem dX6_handsOver_46 : decode cX6_handsOver 46 = .ok (.iconst 5, 1) := by decide +kernel
theorem dX6_handsOver_47 : decode cX6_handsOver 47 = .ok (.iaload, 1) := by decide +kernel
theorem dX6_handsOver_48 : decode cX6_handsOver 48 = .ok (.if_icmp .le 12, 3) := by decide +kernel
theorem dX6_handsOver_51 : decode cX6_handsOver 51 = .ok (.iload 6, 2) := by decide +kernel
theorem dX6_handsOver_53 : decode cX6_handsOver 53 = .ok (.aload_n 0, 1) := by decide +kernel
theorem dX6_handsOver_54 : decode cX6_handsOver 54 = .ok (.iconst 5, 1) := by decide +kernel
theorem dX6_handsOver_55 : decode cX6_handsOver 55 = .ok (.iaload, 1) := by decide +kernel
theorem dX6_handsOver_56 : decode cX6_handsOver 56 = .ok (.isub, 1) := by decide +kernel
theorem dX6_handsOver_57 : decode cX6_handsOver 57 = .ok (.goto 4, 3) := by decide +kernel
theorem dX6_handsOver_60 : decode cX6_handsOver 60 = .ok (.iconst 0, 1) := by decide +kernel
theorem dX6_handsOver_61 : decode cX6_handsOver 61 = .ok (.istore 7, 2) := by decide +kernel
theorem dX6_handsOver_63 : decode cX6_handsOver 63 = .ok (.aload_n 0, 1) := by decide +kernel
theorem dX6_handsOver_64 : decode cX6_handsOver 64 = .ok (.bipush 49, 2) := by decide +kernel
theorem dX6_handsOver_66 : decode cX6_handsOver 66 = .ok (.dup2, 1) := by decide +kernel
theorem dX6_handsOver_67 : decode cX6_handsOver 67 = .ok (.iaload, 1) := by decide +kernel
theorem dX6_handsOver_68 : decode cX6_handsOver 68 = .ok (.iload 7, 2) := by decide +kernel
theorem dX6_handsOver_70 : decode cX6_handsOver 70 = .ok (.iadd, 1) := by decide +kernel
theorem dX6_handsOver_71 : decode cX6_handsOver 71 = .ok (.iastore, 1) := by decide +kernel
theorem dX6_handsOver_72 : decode cX6_handsOver 72 = .ok (.aload_n 0, 1) := by decide +kernel
theorem dX6_handsOver_73 : decode cX6_handsOver 73 = .ok (.bipush 10, 2) := by decide +kernel
theorem dX6_handsOver_75 : decode cX6_handsOver 75 = .ok (.iload_n 3, 1) := by decide +kernel
theorem dX6_handsOver_76 : decode cX6_handsOver 76 = .ok (.iadd, 1) := by decide +kernel
theorem dX6_handsOver_77 : decode cX6_handsOver 77 = .ok (.iload 6, 2) := by decide +kernel
theorem dX6_handsOver_79 : decode cX6_handsOver 79 = .ok (.iload 7, 2) := by decide +kernel
theorem dX6_handsOver_81 : decode cX6_handsOver 81 = .ok (.isub, 1) := by decide +kernel
theorem dX6_handsOver_82 : decode cX6_handsOver 82 = .ok (.iastore, 1) := by decide +kernel
theorem dX6_handsOver_83 : decode cX6_handsOver 83 = .ok (.iload 5, 2) := by decide +kernel
theorem dX6_handsOver_85 : decode cX6_handsOver 85 = .ok (.istore_n 2, 1) := by decide +kernel
theorem dX6_handsOver_86 : decode cX6_handsOver 86 = .ok (.iinc 3 1, 3) := by decide +kernel
theorem dX6_handsOver_89 : decode cX6_handsOver 89 = .ok (.goto (-85), 3) := by decide +kernel
theorem dX6_handsOver_92 : decode cX6_handsOver 92 = .ok (.aload_n 0, 1) := by decide +kernel
theorem dX6_handsOver_93 : decode cX6_handsOver 93 = .ok (.bipush 46, 2) := by decide +kernel
theorem dX6_handsOver_95 : decode cX6_handsOver 95 = .ok (.dup2, 1) := by decide +kernel
theorem dX6_handsOver_96 : decode cX6_handsOver 96 = .ok (.iaload, 1) := by decide +kernel
theorem dX6_handsOver_97 : decode cX6_handsOver 97 = .ok (.iload_n 1, 1) := by decide +kernel
theorem dX6_handsOver_98 : decode cX6_handsOver 98 = .ok (.iadd, 1) := by decide +kernel
theorem dX6_handsOver_99 : decode cX6_handsOver 99 = .ok (.iastore, 1) := by decide +kernel
theorem dX6_handsOver_100 : decode cX6_handsOver 100 = .ok (.aload_n 0, 1) := by decide +kernel
theorem dX6_handsOver_101 : decode cX6_handsOver 101 = .ok (.bipush 47, 2) := by decide +kernel
theorem dX6_handsOver_103 : decode cX6_handsOver 103 = .ok (.dup2, 1) := by decide +kernel
theorem dX6_handsOver_104 : decode cX6_handsOver 104 = .ok (.iaload, 1) := by decide +kernel
theorem dX6_handsOver_105 : decode cX6_handsOver 105 = .ok (.iload_n 2, 1) := by decide +kernel
theorem dX6_handsOver_106 : decode cX6_handsOver 106 = .ok (.iadd, 1) := by decide +kernel
theorem dX6_handsOver_107 : decode cX6_handsOver 107 = .ok (.iastore, 1) := by decide +kernel
theorem dX6_handsOver_108 : decode cX6_handsOver 108 = .ok (.iload_n 2, 1) := by decide +kernel
theorem dX6_handsOver_109 : decode cX6_handsOver 109 = .ok (.ireturn, 1) := by decide +kernel
theorem dX6_begins_0 : decode cX6_begins 0 = .ok (.iconst 0, 1) := by decide +kernel
theorem dX6_begins_1 : decode cX6_begins 1 = .ok (.istore_n 1, 1) := by decide +kernel
theorem dX6_begins_2 : decode cX6_begins 2 = .ok (.iload_n 1, 1) := by decide +kernel
theorem dX6_begins_3 : decode cX6_begins 3 = .ok (.aload_n 0, 1) := by decide +kernel
theorem dX6_begins_4 : decode cX6_begins 4 = .ok (.getfield 7, 3) := by decide +kernel
theorem dX6_begins_7 : decode cX6_begins 7 = .ok (.iconst 0, 1) := by decide +kernel
theorem dX6_begins_8 : decode cX6_begins 8 = .ok (.iaload, 1) := by decide +kernel
theorem dX6_begins_9 : decode cX6_begins 9 = .ok (.if_icmp .ge 19, 3) := by decide +kernel
theorem dX6_begins_12 : decode cX6_begins 12 = .ok (.aload_n 0, 1) := by decide +kernel
theorem dX6_begins_13 : decode cX6_begins 13 = .ok (.getfield 7, 3) := by decide +kernel
theorem dX6_begins_16 : decode cX6_begins 16 = .ok (.bipush 10, 2) := by decide +kernel
theorem dX6_begins_18 : decode cX6_begins 18 = .ok (.iload_n 1, 1) := by decide +kernel
theorem dX6_begins_19 : decode cX6_begins 19 = .ok (.iadd, 1) := by decide +kernel
theorem dX6_begins_20 : decode cX6_begins 20 = .ok (.iconst 0, 1) := by decide +kernel
theorem dX6_begins_21 : decode cX6_begins 21 = .ok (.iastore, 1) := by decide +kernel
theorem dX6_begins_22 : decode cX6_begins 22 = .ok (.iinc 1 1, 3) := by decide +kernel
theorem dX6_begins_25 : decode cX6_begins 25 = .ok (.goto (-23), 3) := by decide +kernel
theorem dX6_begins_28 : decode cX6_begins 28 = .ok (.aload_n 0, 1) := by decide +kernel
theorem dX6_begins_29 : decode cX6_begins 29 = .ok (.getfield 7, 3) := by decide +kernel
theorem dX6_begins_32 : decode cX6_begins 32 = .ok (.iconst 1, 1) := by decide +kernel
theorem dX6_begins_33 : decode cX6_begins 33 = .ok (.iconst 0, 1) := by decide +kernel
theorem dX6_begins_34 : decode cX6_begins 34 = .ok (.iastore, 1) := by decide +kernel
theorem dX6_begins_35 : decode cX6_begins 35 = .ok (.aload_n 0, 1) := by decide +kernel
theorem dX6_begins_36 : decode cX6_begins 36 = .ok (.getfield 7, 3) := by decide +kernel
theorem dX6_begins_39 : decode cX6_begins 39 = .ok (.iconst 2, 1) := by decide +kernel
theorem dX6_begins_40 : decode cX6_begins 40 = .ok (.iconst 0, 1) := by decide +kernel
theorem dX6_begins_41 : decode cX6_begins 41 = .ok (.iastore, 1) := by decide +kernel
theorem dX6_begins_42 : decode cX6_begins 42 = .ok (.aload_n 0, 1) := by decide +kernel
theorem dX6_begins_43 : decode cX6_begins 43 = .ok (.getfield 7, 3) := by decide +kernel
theorem dX6_begins_46 : decode cX6_begins 46 = .ok (.iconst 3, 1) := by decide +kernel
theorem dX6_begins_47 : decode cX6_begins 47 = .ok (.iconst 0, 1) := by decide +kernel
theorem dX6_begins_48 : decode cX6_begins 48 = .ok (.iastore, 1) := by decide +kernel
theorem dX6_begins_49 : decode cX6_begins 49 = .ok (.aload_n 0, 1) := by decide +kernel
theorem dX6_begins_50 : decode cX6_begins 50 = .ok (.getfield 7, 3) := by decide +kernel
theorem dX6_begins_53 : decode cX6_begins 53 = .ok (.iconst 4, 1) := by decide +kernel
theorem dX6_begins_54 : decode cX6_begins 54 = .ok (.iconst 0, 1) := by decide +kernel
theorem dX6_begins_55 : decode cX6_begins 55 = .ok (.iastore, 1) := by decide +kernel
theorem dX6_begins_56 : decode cX6_begins 56 = .ok (.iconst 0, 1) := by decide +kernel
theorem dX6_begins_57 : decode cX6_begins 57 = .ok (.istore_n 1, 1) := by decide +kernel
theorem dX6_begins_58 : decode cX6_begins 58 = .ok (.iload_n 1, 1) := by decide +kernel
theorem dX6_begins_59 : decode cX6_begins 59 = .ok (.iconst 3, 1) := by decide +kernel
theorem dX6_begins_60 : decode cX6_begins 60 = .ok (.if_icmp .ge 19, 3) := by decide +kernel
theorem dX6_begins_63 : decode cX6_begins 63 = .ok (.aload_n 0, 1) := by decide +kernel
theorem dX6_begins_64 : decode cX6_begins 64 = .ok (.getfield 7, 3) := by decide +kernel
theorem dX6_begins_67 : decode cX6_begins 67 = .ok (.bipush 40, 2) := by decide +kernel
theorem dX6_begins_69 : decode cX6_begins 69 = .ok (.iload_n 1, 1) := by decide +kernel
theorem dX6_begins_70 : decode cX6_begins 70 = .ok (.iadd, 1) := by decide +kernel
theorem dX6_begins_71 : decode cX6_begins 71 = .ok (.iconst (-1), 1) := by decide +kernel
theorem dX6_begins_72 : decode cX6_begins 72 = .ok (.iastore, 1) := by decide +kernel
theorem dX6_begins_73 : decode cX6_begins 73 = .ok (.iinc 1 1, 3) := by decide +kernel
theorem dX6_begins_76 : decode cX6_begins 76 = .ok (.goto (-18), 3) := by decide +kernel
theorem dX6_begins_79 : decode cX6_begins 79 = .ok (.bipush 46, 2) := by decide +kernel
theorem dX6_begins_81 : decode cX6_begins 81 = .ok (.istore_n 1, 1) := by decide +kernel
theorem dX6_begins_82 : decode cX6_begins 82 = .ok (.iload_n 1, 1) := by decide +kernel
theorem dX6_begins_83 : decode cX6_begins 83 = .ok (.bipush 49, 2) := by decide +kernel
theorem dX6_begins_85 : decode cX6_begins 85 = .ok (.if_icmp .gt 16, 3) := by decide +kernel
theorem dX6_begins_88 : decode cX6_begins 88 = .ok (.aload_n 0, 1) := by decide +kernel
theorem dX6_begins_89 : decode cX6_begins 89 = .ok (.getfield 7, 3) := by decide +kernel
theorem dX6_begins_92 : decode cX6_begins 92 = .ok (.iload_n 1, 1) := by decide +kernel
theorem dX6_begins_93 : decode cX6_begins 93 = .ok (.iconst 0, 1) := by decide +kernel
theorem dX6_begins_94 : decode cX6_begins 94 = .ok (.iastore, 1) := by decide +kernel
theorem dX6_begins_95 : decode cX6_begins 95 = .ok (.iinc 1 1, 3) := by decide +kernel
theorem dX6_begins_98 : decode cX6_begins 98 = .ok (.goto (-16), 3) := by decide +kernel
theorem dX6_begins_101 : decode cX6_begins 101 = .ok (.return_, 1) := by decide +kernel
set_option maxRecDepth 20000 in
theorem ggX6_comes_X6_mends : GoodIn wsX6_comes wsX6_mends := goodIn_r _ [6, 7, 8, 1, 9, 10, 11, 12, 13, 5, 14, 15, 16, 17, 18, 19, 20, 21, 22, 23, 24, 25, 26, 27, 28, 29, 30, 31, 32, 33, 34, 35, 36, 37, 38, 39, 40, 41, 42] (by decide +kernel) (by decide +kernel)
set_option maxRecDepth 20000 in
theorem gX6_comes_X6_mends : GoodIn wsX6_comes (wsV RX6 46 RX6 yX6_mends wsX6_mends) := goodIn_app (goodIn_of _ (by decide +kernel)) ggX6_comes_X6_mends
theorem dX6_comes_0 : decode cX6_comes 0 = .ok (.iload_n 3, 1) := by decide +kernel
theorem dX6_comes_1 : decode cX6_comes 1 = .ok (.ifCond .lt 24, 3) := by decide +kernel
theorem dX6_comes_4 : decode cX6_comes 4 = .ok (.aload_n 0, 1) := by decide +kernel
theorem dX6_comes_5 : decode cX6_comes 5 = .ok (.getfield 7, 3) := by decide +kernel
theorem dX6_comes_8 : decode cX6_comes 8 = .ok (.bipush 40, 2) := by decide +kernel
theorem dX6_comes_10 : decode cX6_comes 10 = .ok (.iload_n 3, 1) := by decide +kernel
theorem dX6_comes_11 : decode cX6_comes 11 = .ok (.iadd, 1) := by decide +kernel
theorem dX6_comes_12 : decode cX6_comes 12 = .ok (.iload 4, 2) := by decide +kernel
theorem dX6_comes_14 : decode cX6_comes 14 = .ok (.iastore, 1) := by decide +kernel
theorem dX6_comes_15 : decode cX6_comes 15 = .ok (.aload_n 0, 1) := by decide +kernel
theorem dX6_comes_16 : decode cX6_comes 16 = .ok (.getfield 7, 3) := by decide +kernel
theorem dX6_comes_19 : decode cX6_comes 19 = .ok (.bipush 43, 2) := by decide +kernel
theorem dX6_comes_21 : decode cX6_comes 21 = .ok (.iload_n 3, 1) := by decide +kernel
theorem dX6_comes_22 : decode cX6_comes 22 = .ok (.iadd, 1) := by decide +kernel
theorem dX6_comes_23 : decode cX6_comes 23 = .ok (.iload_n 2, 1) := by decide +kernel
theorem dX6_comes_24 : decode cX6_comes 24 = .ok (.iastore, 1) := by decide +kernel
theorem dX6_comes_25 : decode cX6_comes 25 = .ok (.aload_n 0, 1) := by decide +kernel
theorem dX6_comes_26 : decode cX6_comes 26 = .ok (.getfield 7, 3) := by decide +kernel
theorem dX6_comes_29 : decode cX6_comes 29 = .ok (.iconst 4, 1) := by decide +kernel
theorem dX6_comes_30 : decode cX6_comes 30 = .ok (.iaload, 1) := by decide +kernel
theorem dX6_comes_31 : decode cX6_comes 31 = .ok (.bipush 16, 2) := by decide +kernel
theorem dX6_comes_33 : decode cX6_comes 33 = .ok (.if_icmp .ne 47, 3) := by decide +kernel
theorem dX6_comes_36 : decode cX6_comes 36 = .ok (.bipush 82, 2) := by decide +kernel
theorem dX6_comes_38 : decode cX6_comes 38 = .ok (.istore 5, 2) := by decide +kernel
theorem dX6_comes_40 : decode cX6_comes 40 = .ok (.iload 5, 2) := by decide +kernel
theorem dX6_comes_42 : decode cX6_comes 42 = .ok (.sipush 157, 3) := by decide +kernel
theorem dX6_comes_45 : decode cX6_comes 45 = .ok (.if_icmp .ge 25, 3) := by decide +kernel
theorem dX6_comes_48 : decode cX6_comes 48 = .ok (.aload_n 0, 1) := by decide +kernel
theorem dX6_comes_49 : decode cX6_comes 49 = .ok (.getfield 7, 3) := by decide +kernel
theorem dX6_comes_52 : decode cX6_comes 52 = .ok (.iload 5, 2) := by decide +kernel
theorem dX6_comes_54 : decode cX6_comes 54 = .ok (.aload_n 0, 1) := by decide +kernel
theorem dX6_comes_55 : decode cX6_comes 55 = .ok (.getfield 7, 3) := by decide +kernel
theorem dX6_comes_58 : decode cX6_comes 58 = .ok (.iload 5, 2) := by decide +kernel
theorem dX6_comes_60 : decode cX6_comes 60 = .ok (.iconst 5, 1) := by decide +kernel
theorem dX6_comes_61 : decode cX6_comes 61 = .ok (.iadd, 1) := by decide +kernel
theorem dX6_comes_62 : decode cX6_comes 62 = .ok (.iaload, 1) := by decide +kernel
theorem dX6_comes_63 : decode cX6_comes 63 = .ok (.iastore, 1) := by decide +kernel
theorem dX6_comes_64 : decode cX6_comes 64 = .ok (.iinc 5 1, 3) := by decide +kernel
theorem dX6_comes_67 : decode cX6_comes 67 = .ok (.goto (-27), 3) := by decide +kernel
theorem dX6_comes_70 : decode cX6_comes 70 = .ok (.aload_n 0, 1) := by decide +kernel
theorem dX6_comes_71 : decode cX6_comes 71 = .ok (.getfield 7, 3) := by decide +kernel
theorem dX6_comes_74 : decode cX6_comes 74 = .ok (.iconst 4, 1) := by decide +kernel
theorem dX6_comes_75 : decode cX6_comes 75 = .ok (.dup2, 1) := by decide +kernel
theorem dX6_comes_76 : decode cX6_comes 76 = .ok (.iaload, 1) := by decide +kernel
theorem dX6_comes_77 : decode cX6_comes 77 = .ok (.iconst 1, 1) := by decide +kernel
theorem dX6_comes_78 : decode cX6_comes 78 = .ok (.isub, 1) := by decide +kernel
theorem dX6_comes_79 : decode cX6_comes 79 = .ok (.iastore, 1) := by decide +kernel
theorem dX6_comes_80 : decode cX6_comes 80 = .ok (.bipush 82, 2) := by decide +kernel
theorem dX6_comes_82 : decode cX6_comes 82 = .ok (.iconst 5, 1) := by decide +kernel
theorem dX6_comes_83 : decode cX6_comes 83 = .ok (.aload_n 0, 1) := by decide +kernel
theorem dX6_comes_84 : decode cX6_comes 84 = .ok (.getfield 7, 3) := by decide +kernel
theorem dX6_comes_87 : decode cX6_comes 87 = .ok (.iconst 4, 1) := by decide +kernel
theorem dX6_comes_88 : decode cX6_comes 88 = .ok (.iaload, 1) := by decide +kernel
theorem dX6_comes_89 : decode cX6_comes 89 = .ok (.imul, 1) := by decide +kernel
theorem dX6_comes_90 : decode cX6_comes 90 = .ok (.iadd, 1) := by decide +kernel
theorem dX6_comes_91 : decode cX6_comes 91 = .ok (.istore 5, 2) := by decide +kernel
theorem dX6_comes_93 : decode cX6_comes 93 = .ok (.aload_n 0, 1) := by decide +kernel
theorem dX6_comes_94 : decode cX6_comes 94 = .ok (.getfield 7, 3) := by decide +kernel
theorem dX6_comes_97 : decode cX6_comes 97 = .ok (.iload 5, 2) := by decide +kernel
theorem dX6_comes_99 : decode cX6_comes 99 = .ok (.iconst 0, 1) := by decide +kernel
theorem dX6_comes_100 : decode cX6_comes 100 = .ok (.iadd, 1) := by decide +kernel
theorem dX6_comes_101 : decode cX6_comes 101 = .ok (.iload_n 1, 1) := by decide +kernel
theorem dX6_comes_102 : decode cX6_comes 102 = .ok (.iastore, 1) := by decide +kernel
theorem dX6_comes_103 : decode cX6_comes 103 = .ok (.aload_n 0, 1) := by decide +kernel
theorem dX6_comes_104 : decode cX6_comes 104 = .ok (.getfield 7, 3) := by decide +kernel
theorem dX6_comes_107 : decode cX6_comes 107 = .ok (.iload 5, 2) := by decide +kernel
theorem dX6_comes_109 : decode cX6_comes 109 = .ok (.iconst 1, 1) := by decide +kernel
theorem dX6_comes_110 : decode cX6_comes 110 = .ok (.iadd, 1) := by decide +kernel
theorem dX6_comes_111 : decode cX6_comes 111 = .ok (.iload_n 2, 1) := by decide +kernel
theorem dX6_comes_112 : decode cX6_comes 112 = .ok (.iastore, 1) := by decide +kernel
theorem dX6_comes_113 : decode cX6_comes 113 = .ok (.aload_n 0, 1) := by decide +kernel
theorem dX6_comes_114 : decode cX6_comes 114 = .ok (.getfield 7, 3) := by decide +kernel
theorem dX6_comes_117 : decode cX6_comes 117 = .ok (.iload 5, 2) := by decide +kernel
theorem dX6_comes_119 : decode cX6_comes 119 = .ok (.iconst 2, 1) := by decide +kernel
theorem dX6_comes_120 : decode cX6_comes 120 = .ok (.iadd, 1) := by decide +kernel
theorem dX6_comes_121 : decode cX6_comes 121 = .ok (.iload 4, 2) := by decide +kernel
theorem dX6_comes_123 : decode cX6_comes 123 = .ok (.iastore, 1) := by decide +kernel
theorem dX6_comes_124 : decode cX6_comes 124 = .ok (.aload_n 0, 1) := by decide +kernel
theorem dX6_comes_125 : decode cX6_comes 125 = .ok (.getfield 7, 3) := by decide +kernel
theorem dX6_comes_128 : decode cX6_comes 128 = .ok (.iload 5, 2) := by decide +kernel
theorem dX6_comes_130 : decode cX6_comes 130 = .ok (.iconst 3, 1) := by decide +kernel
theorem dX6_comes_131 : decode cX6_comes 131 = .ok (.iadd, 1) := by decide +kernel
theorem dX6_comes_132 : decode cX6_comes 132 = .ok (.aload_n 0, 1) := by decide +kernel
theorem dX6_comes_133 : decode cX6_comes 133 = .ok (.iload 4, 2) := by decide +kernel
theorem dX6_comes_135 : decode cX6_comes 135 = .ok (.invokevirtual 46, 3) := by decide +kernel
theorem dX6_comes_138 : decode cX6_comes 138 = .ok (.iastore, 1) := by decide +kernel
theorem dX6_comes_139 : decode cX6_comes 139 = .ok (.aload_n 0, 1) := by decide +kernel
theorem dX6_comes_140 : decode cX6_comes 140 = .ok (.getfield 7, 3) := by decide +kernel
theorem dX6_comes_143 : decode cX6_comes 143 = .ok (.iload 5, 2) := by decide +kernel
theorem dX6_comes_145 : decode cX6_comes 145 = .ok (.iconst 4, 1) := by decide +kernel
theorem dX6_comes_146 : decode cX6_comes 146 = .ok (.iadd, 1) := by decide +kernel
theorem dX6_comes_147 : decode cX6_comes 147 = .ok (.iload_n 3, 1) := by decide +kernel
theorem dX6_comes_148 : decode cX6_comes 148 = .ok (.ifCond .lt 7, 3) := by decide +kernel
theorem dX6_comes_151 : decode cX6_comes 151 = .ok (.iconst 1, 1) := by decide +kernel
theorem dX6_comes_152 : decode cX6_comes 152 = .ok (.goto 4, 3) := by decide +kernel
theorem dX6_comes_155 : decode cX6_comes 155 = .ok (.iconst 0, 1) := by decide +kernel
theorem dX6_comes_156 : decode cX6_comes 156 = .ok (.iastore, 1) := by decide +kernel
theorem dX6_comes_157 : decode cX6_comes 157 = .ok (.aload_n 0, 1) := by decide +kernel
theorem dX6_comes_158 : decode cX6_comes 158 = .ok (.getfield 7, 3) := by decide +kernel
theorem dX6_comes_161 : decode cX6_comes 161 = .ok (.iconst 4, 1) := by decide +kernel
theorem dX6_comes_162 : decode cX6_comes 162 = .ok (.dup2, 1) := by decide +kernel
theorem dX6_comes_163 : decode cX6_comes 163 = .ok (.iaload, 1) := by decide +kernel
theorem dX6_comes_164 : decode cX6_comes 164 = .ok (.iconst 1, 1) := by decide +kernel
theorem dX6_comes_165 : decode cX6_comes 165 = .ok (.iadd, 1) := by decide +kernel
theorem dX6_comes_166 : decode cX6_comes 166 = .ok (.iastore, 1) := by decide +kernel
theorem dX6_comes_167 : decode cX6_comes 167 = .ok (.return_, 1) := by decide +kernel
set_option maxRecDepth 20000 in
theorem ggX6_passes_X6_handsOver : GoodIn wsX6_passes wsX6_handsOver := goodIn_r _ [5, 6, 7, 4, 8, 9, 10, 11, 12, 13, 14] (by decide +kernel) (by decide +kernel)
set_option maxRecDepth 20000 in
theorem gX6_passes_X6_handsOver : GoodIn wsX6_passes (va_wsS RX6 50 yX6_handsOver wsX6_handsOver) := goodIn_app (goodIn_of _ (by decide +kernel)) ggX6_passes_X6_handsOver
set_option maxRecDepth 20000 in
theorem ggX6_passes_X6_comes : GoodIn wsX6_passes wsX6_comes := goodIn_r _ [18, 1, 19, 20, 21, 4, 22, 23, 24, 25, 26, 27, 28, 29, 30, 31, 32, 33, 34, 35, 36, 37, 38, 39, 40, 41, 42, 43, 44, 45, 46, 47, 48, 49, 50, 51, 52, 53, 54, 55, 56, 57, 58] (by decide +kernel) (by decide +kernel)
set_option maxRecDepth 20000 in
theorem gX6_passes_X6_comes : GoodIn wsX6_passes (wsV RX6 53 RX6 yX6_comes wsX6_comes) := goodIn_app (goodIn_of _ (by decide +kernel)) ggX6_passes_X6_comes
theorem dX6_passes_0 : decode cX6_passes 0 = .ok (.aload_n 0, 1) := by decide +kernel
theorem dX6_passes_1 : decode cX6_passes 1 = .ok (.getfield 7, 3) := by decide +kernel
theorem dX6_passes_4 : decode cX6_passes 4 = .ok (.iconst 1, 1) := by decide +kernel
theorem dX6_passes_5 : decode cX6_passes 5 = .ok (.iaload, 1) := by decide +kernel
theorem dX6_passes_6 : decode cX6_passes 6 = .ok (.istore_n 3, 1) := by decide +kernel
theorem dX6_passes_7 : decode cX6_passes 7 = .ok (.aload_n 0, 1) := by decide +kernel
theorem dX6_passes_8 : decode cX6_passes 8 = .ok (.getfield 7, 3) := by decide +kernel
theorem dX6_passes_11 : decode cX6_passes 11 = .ok (.bipush 50, 2) := by decide +kernel
theorem dX6_passes_13 : decode cX6_passes 13 = .ok (.iload_n 3, 1) := by decide +kernel
theorem dX6_passes_14 : decode cX6_passes 14 = .ok (.bipush 16, 2) := by decide +kernel
theorem dX6_passes_16 : decode cX6_passes 16 = .ok (.irem, 1) := by decide +kernel
theorem dX6_passes_17 : decode cX6_passes 17 = .ok (.iadd, 1) := by decide +kernel
theorem dX6_passes_18 : decode cX6_passes 18 = .ok (.iload_n 1, 1) := by decide +kernel
theorem dX6_passes_19 : decode cX6_passes 19 = .ok (.iastore, 1) := by decide +kernel
theorem dX6_passes_20 : decode cX6_passes 20 = .ok (.aload_n 0, 1) := by decide +kernel
theorem dX6_passes_21 : decode cX6_passes 21 = .ok (.getfield 7, 3) := by decide +kernel
theorem dX6_passes_24 : decode cX6_passes 24 = .ok (.bipush 66, 2) := by decide +kernel
theorem dX6_passes_26 : decode cX6_passes 26 = .ok (.iload_n 3, 1) := by decide +kernel
theorem dX6_passes_27 : decode cX6_passes 27 = .ok (.bipush 16, 2) := by decide +kernel
theorem dX6_passes_29 : decode cX6_passes 29 = .ok (.irem, 1) := by decide +kernel
theorem dX6_passes_30 : decode cX6_passes 30 = .ok (.iadd, 1) := by decide +kernel
theorem dX6_passes_31 : decode cX6_passes 31 = .ok (.iload_n 2, 1) := by decide +kernel
theorem dX6_passes_32 : decode cX6_passes 32 = .ok (.iastore, 1) := by decide +kernel
theorem dX6_passes_33 : decode cX6_passes 33 = .ok (.aload_n 0, 1) := by decide +kernel
theorem dX6_passes_34 : decode cX6_passes 34 = .ok (.getfield 7, 3) := by decide +kernel
theorem dX6_passes_37 : decode cX6_passes 37 = .ok (.iload_n 1, 1) := by decide +kernel
theorem dX6_passes_38 : decode cX6_passes 38 = .ok (.invokestatic 50, 3) := by decide +kernel
theorem dX6_passes_41 : decode cX6_passes 41 = .ok (.istore 4, 2) := by decide +kernel
theorem dX6_passes_43 : decode cX6_passes 43 = .ok (.aload_n 0, 1) := by decide +kernel
theorem dX6_passes_44 : decode cX6_passes 44 = .ok (.getfield 7, 3) := by decide +kernel
theorem dX6_passes_47 : decode cX6_passes 47 = .ok (.iconst 1, 1) := by decide +kernel
theorem dX6_passes_48 : decode cX6_passes 48 = .ok (.dup2, 1) := by decide +kernel
theorem dX6_passes_49 : decode cX6_passes 49 = .ok (.iaload, 1) := by decide +kernel
theorem dX6_passes_50 : decode cX6_passes 50 = .ok (.iconst 1, 1) := by decide +kernel
theorem dX6_passes_51 : decode cX6_passes 51 = .ok (.iadd, 1) := by decide +kernel
theorem dX6_passes_52 : decode cX6_passes 52 = .ok (.iastore, 1) := by decide +kernel
theorem dX6_passes_53 : decode cX6_passes 53 = .ok (.iload_n 3, 1) := by decide +kernel
theorem dX6_passes_54 : decode cX6_passes 54 = .ok (.aload_n 0, 1) := by decide +kernel
theorem dX6_passes_55 : decode cX6_passes 55 = .ok (.getfield 7, 3) := by decide +kernel
theorem dX6_passes_58 : decode cX6_passes 58 = .ok (.iconst 0, 1) := by decide +kernel
theorem dX6_passes_59 : decode cX6_passes 59 = .ok (.iaload, 1) := by decide +kernel
theorem dX6_passes_60 : decode cX6_passes 60 = .ok (.isub, 1) := by decide +kernel
theorem dX6_passes_61 : decode cX6_passes 61 = .ok (.istore 5, 2) := by decide +kernel
theorem dX6_passes_63 : decode cX6_passes 63 = .ok (.iload 5, 2) := by decide +kernel
theorem dX6_passes_65 : decode cX6_passes 65 = .ok (.ifCond .lt 36, 3) := by decide +kernel
theorem dX6_passes_68 : decode cX6_passes 68 = .ok (.aload_n 0, 1) := by decide +kernel
theorem dX6_passes_69 : decode cX6_passes 69 = .ok (.iload_n 3, 1) := by decide +kernel
theorem dX6_passes_70 : decode cX6_passes 70 = .ok (.aload_n 0, 1) := by decide +kernel
theorem dX6_passes_71 : decode cX6_passes 71 = .ok (.getfield 7, 3) := by decide +kernel
theorem dX6_passes_74 : decode cX6_passes 74 = .ok (.bipush 50, 2) := by decide +kernel
theorem dX6_passes_76 : decode cX6_passes 76 = .ok (.iload 5, 2) := by decide +kernel
theorem dX6_passes_78 : decode cX6_passes 78 = .ok (.bipush 16, 2) := by decide +kernel
theorem dX6_passes_80 : decode cX6_passes 80 = .ok (.irem, 1) := by decide +kernel
theorem dX6_passes_81 : decode cX6_passes 81 = .ok (.iadd, 1) := by decide +kernel
theorem dX6_passes_82 : decode cX6_passes 82 = .ok (.iaload, 1) := by decide +kernel
theorem dX6_passes_83 : decode cX6_passes 83 = .ok (.aload_n 0, 1) := by decide +kernel
theorem dX6_passes_84 : decode cX6_passes 84 = .ok (.getfield 7, 3) := by decide +kernel
theorem dX6_passes_87 : decode cX6_passes 87 = .ok (.bipush 66, 2) := by decide +kernel
theorem dX6_passes_89 : decode cX6_passes 89 = .ok (.iload 5, 2) := by decide +kernel
theorem dX6_passes_91 : decode cX6_passes 91 = .ok (.bipush 16, 2) := by decide +kernel
theorem dX6_passes_93 : decode cX6_passes 93 = .ok (.irem, 1) := by decide +kernel
theorem dX6_passes_94 : decode cX6_passes 94 = .ok (.iadd, 1) := by decide +kernel
theorem dX6_passes_95 : decode cX6_passes 95 = .ok (.iaload, 1) := by decide +kernel
theorem dX6_passes_96 : decode cX6_passes 96 = .ok (.iload 4, 2) := by decide +kernel
theorem dX6_passes_98 : decode cX6_passes 98 = .ok (.invokevirtual 53, 3) := by decide +kernel
theorem dX6_passes_101 : decode cX6_passes 101 = .ok (.return_, 1) := by decide +kernel
theorem dX6_isDue_0 : decode cX6_isDue 0 = .ok (.aload_n 0, 1) := by decide +kernel
theorem dX6_isDue_1 : decode cX6_isDue 1 = .ok (.getfield 7, 3) := by decide +kernel
theorem dX6_isDue_4 : decode cX6_isDue 4 = .ok (.bipush 6, 2) := by decide +kernel
theorem dX6_isDue_6 : decode cX6_isDue 6 = .ok (.iaload, 1) := by decide +kernel
theorem dX6_isDue_7 : decode cX6_isDue 7 = .ok (.ifCond .le 19, 3) := by decide +kernel
theorem dX6_isDue_10 : decode cX6_isDue 10 = .ok (.iload_n 1, 1) := by decide +kernel
theorem dX6_isDue_11 : decode cX6_isDue 11 = .ok (.aload_n 0, 1) := by decide +kernel
theorem dX6_isDue_12 : decode cX6_isDue 12 = .ok (.getfield 7, 3) := by decide +kernel
theorem dX6_isDue_15 : decode cX6_isDue 15 = .ok (.bipush 6, 2) := by decide +kernel
theorem dX6_isDue_17 : decode cX6_isDue 17 = .ok (.iaload, 1) := by decide +kernel
theorem dX6_isDue_18 : decode cX6_isDue 18 = .ok (.irem, 1) := by decide +kernel
theorem dX6_isDue_19 : decode cX6_isDue 19 = .ok (.ifCond .ne 7, 3) := by decide +kernel
theorem dX6_isDue_22 : decode cX6_isDue 22 = .ok (.iconst 1, 1) := by decide +kernel
theorem dX6_isDue_23 : decode cX6_isDue 23 = .ok (.goto 4, 3) := by decide +kernel
theorem dX6_isDue_26 : decode cX6_isDue 26 = .ok (.iconst 0, 1) := by decide +kernel
theorem dX6_isDue_27 : decode cX6_isDue 27 = .ok (.ireturn, 1) := by decide +kernel
set_option maxRecDepth 20000 in
theorem ggX6_gives_X6_isDue : GoodIn wsX6_gives wsX6_isDue := goodIn_r _ [6, 1, 54, 55, 56, 57, 58, 59, 60, 61, 62, 63, 64, 65, 66] (by decide +kernel) (by decide +kernel)
set_option maxRecDepth 20000 in
theorem gX6_gives_X6_isDue : GoodIn wsX6_gives (wsV RX6 57 RX6 yX6_isDue wsX6_isDue) := goodIn_app (goodIn_of _ (by decide +kernel)) ggX6_gives_X6_isDue
set_option maxRecDepth 20000 in
theorem ggX6_gives_X6_passes : GoodIn wsX6_gives wsX6_passes := goodIn_r _ [10, 1, 11, 12, 5, 13, 14, 15, 16, 17, 18, 19, 20, 21, 22, 23, 24, 25, 26, 27, 28, 29, 30, 31, 32, 33, 34, 35, 36, 37, 38, 39, 40, 41, 42, 43, 44, 45, 46, 47, 48, 49, 50, 51, 52, 53, 54, 55, 56, 57, 58, 59, 60, 61, 62, 63, 64, 65, 66] (by decide +kernel) (by decide +kernel)
set_option maxRecDepth 20000 in
theorem gX6_gives_X6_passes : GoodIn wsX6_gives (wsV RX6 61 RX6 yX6_passes wsX6_passes) := goodIn_app (goodIn_of _ (by decide +kernel)) ggX6_gives_X6_passes
theorem dX6_gives_0 : decode cX6_gives 0 = .ok (.aload_n 0, 1) := by decide +kernel
theorem dX6_gives_1 : decode cX6_gives 1 = .ok (.aload_n 0, 1) := by decide +kernel
theorem dX6_gives_2 : decode cX6_gives 2 = .ok (.getfield 7, 3) := by decide +kernel
theorem dX6_gives_5 : decode cX6_gives 5 = .ok (.iconst 1, 1) := by decide +kernel
theorem dX6_gives_6 : decode cX6_gives 6 = .ok (.iaload, 1) := by decide +kernel
theorem dX6_gives_7 : decode cX6_gives 7 = .ok (.invokevirtual 57, 3) := by decide +kernel
theorem dX6_gives_10 : decode cX6_gives 10 = .ok (.ifCond .eq 45, 3) := by decide +kernel
theorem dX6_gives_13 : decode cX6_gives 13 = .ok (.aload_n 0, 1) := by decide +kernel
theorem dX6_gives_14 : decode cX6_gives 14 = .ok (.getfield 7, 3) := by decide +kernel
theorem dX6_gives_17 : decode cX6_gives 17 = .ok (.iconst 2, 1) := by decide +kernel
theorem dX6_gives_18 : decode cX6_gives 18 = .ok (.iaload, 1) := by decide +kernel
theorem dX6_gives_19 : decode cX6_gives 19 = .ok (.istore_n 2, 1) := by decide +kernel
theorem dX6_gives_20 : decode cX6_gives 20 = .ok (.aload_n 0, 1) := by decide +kernel
theorem dX6_gives_21 : decode cX6_gives 21 = .ok (.getfield 7, 3) := by decide +kernel
theorem dX6_gives_24 : decode cX6_gives 24 = .ok (.iconst 2, 1) := by decide +kernel
theorem dX6_gives_25 : decode cX6_gives 25 = .ok (.iload_n 2, 1) := by decide +kernel
theorem dX6_gives_26 : decode cX6_gives 26 = .ok (.iconst 1, 1) := by decide +kernel
theorem dX6_gives_27 : decode cX6_gives 27 = .ok (.iadd, 1) := by decide +kernel
theorem dX6_gives_28 : decode cX6_gives 28 = .ok (.iconst 3, 1) := by decide +kernel
theorem dX6_gives_29 : decode cX6_gives 29 = .ok (.irem, 1) := by decide +kernel
theorem dX6_gives_30 : decode cX6_gives 30 = .ok (.iastore, 1) := by decide +kernel
theorem dX6_gives_31 : decode cX6_gives 31 = .ok (.aload_n 0, 1) := by decide +kernel
theorem dX6_gives_32 : decode cX6_gives 32 = .ok (.getfield 7, 3) := by decide +kernel
theorem dX6_gives_35 : decode cX6_gives 35 = .ok (.iconst 3, 1) := by decide +kernel
theorem dX6_gives_36 : decode cX6_gives 36 = .ok (.dup2, 1) := by decide +kernel
theorem dX6_gives_37 : decode cX6_gives 37 = .ok (.iaload, 1) := by decide +kernel
theorem dX6_gives_38 : decode cX6_gives 38 = .ok (.iconst 1, 1) := by decide +kernel
theorem dX6_gives_39 : decode cX6_gives 39 = .ok (.iadd, 1) := by decide +kernel
theorem dX6_gives_40 : decode cX6_gives 40 = .ok (.iastore, 1) := by decide +kernel
theorem dX6_gives_41 : decode cX6_gives 41 = .ok (.aload_n 0, 1) := by decide +kernel
theorem dX6_gives_42 : decode cX6_gives 42 = .ok (.aload_n 0, 1) := by decide +kernel
theorem dX6_gives_43 : decode cX6_gives 43 = .ok (.getfield 7, 3) := by decide +kernel
theorem dX6_gives_46 : decode cX6_gives 46 = .ok (.bipush 7, 2) := by decide +kernel
theorem dX6_gives_48 : decode cX6_gives 48 = .ok (.iload_n 2, 1) := by decide +kernel
theorem dX6_gives_49 : decode cX6_gives 49 = .ok (.iadd, 1) := by decide +kernel
theorem dX6_gives_50 : decode cX6_gives 50 = .ok (.iaload, 1) := by decide +kernel
theorem dX6_gives_51 : decode cX6_gives 51 = .ok (.iload_n 2, 1) := by decide +kernel
theorem dX6_gives_52 : decode cX6_gives 52 = .ok (.invokevirtual 61, 3) := by decide +kernel
theorem dX6_gives_55 : decode cX6_gives 55 = .ok (.aload_n 0, 1) := by decide +kernel
theorem dX6_gives_56 : decode cX6_gives 56 = .ok (.iload_n 1, 1) := by decide +kernel
theorem dX6_gives_57 : decode cX6_gives 57 = .ok (.iconst (-1), 1) := by decide +kernel
theorem dX6_gives_58 : decode cX6_gives 58 = .ok (.invokevirtual 61, 3) := by decide +kernel
theorem dX6_gives_61 : decode cX6_gives 61 = .ok (.return_, 1) := by decide +kernel
set_option maxRecDepth 20000 in
theorem ggX6_handedBehind_X6_isDue : GoodIn wsX6_handedBehind wsX6_isDue := goodIn_r _ [6, 1, 7, 8, 9, 10, 11, 12, 13, 14, 15, 16, 17, 18, 19] (by decide +kernel) (by decide +kernel)
set_option maxRecDepth 20000 in
theorem gX6_handedBehind_X6_isDue : GoodIn wsX6_handedBehind (wsV RX6 57 RX6 yX6_isDue wsX6_isDue) := goodIn_app (goodIn_of _ (by decide +kernel)) ggX6_handedBehind_X6_isDue
theorem dX6_handedBehind_0 : decode cX6_handedBehind 0 = .ok (.aload_n 0, 1) := by decide +kernel
theorem dX6_handedBehind_1 : decode cX6_handedBehind 1 = .ok (.getfield 7, 3) := by decide +kernel
theorem dX6_handedBehind_4 : decode cX6_handedBehind 4 = .ok (.iconst 1, 1) := by decide +kernel
theorem dX6_handedBehind_5 : decode cX6_handedBehind 5 = .ok (.iaload, 1) := by decide +kernel
theorem dX6_handedBehind_6 : decode cX6_handedBehind 6 = .ok (.istore_n 2, 1) := by decide +kernel
theorem dX6_handedBehind_7 : decode cX6_handedBehind 7 = .ok (.iconst 0, 1) := by decide +kernel
theorem dX6_handedBehind_8 : decode cX6_handedBehind 8 = .ok (.istore_n 3, 1) := by decide +kernel
theorem dX6_handedBehind_9 : decode cX6_handedBehind 9 = .ok (.iload_n 3, 1) := by decide +kernel
theorem dX6_handedBehind_10 : decode cX6_handedBehind 10 = .ok (.iload_n 1, 1) := by decide +kernel
theorem dX6_handedBehind_11 : decode cX6_handedBehind 11 = .ok (.if_icmp .ge 25, 3) := by decide +kernel
theorem dX6_handedBehind_14 : decode cX6_handedBehind 14 = .ok (.iload_n 2, 1) := by decide +kernel
theorem dX6_handedBehind_15 : decode cX6_handedBehind 15 = .ok (.aload_n 0, 1) := by decide +kernel
theorem dX6_handedBehind_16 : decode cX6_handedBehind 16 = .ok (.iload_n 2, 1) := by decide +kernel
theorem dX6_handedBehind_17 : decode cX6_handedBehind 17 = .ok (.invokevirtual 57, 3) := by decide +kernel
theorem dX6_handedBehind_20 : decode cX6_handedBehind 20 = .ok (.ifCond .eq 7, 3) := by decide +kernel
theorem dX6_handedBehind_23 : decode cX6_handedBehind 23 = .ok (.iconst 2, 1) := by decide +kernel
theorem dX6_handedBehind_24 : decode cX6_handedBehind 24 = .ok (.goto 4, 3) := by decide +kernel
theorem dX6_handedBehind_27 : decode cX6_handedBehind 27 = .ok (.iconst 1, 1) := by decide +kernel
theorem dX6_handedBehind_28 : decode cX6_handedBehind 28 = .ok (.iadd, 1) := by decide +kernel
theorem dX6_handedBehind_29 : decode cX6_handedBehind 29 = .ok (.istore_n 2, 1) := by decide +kernel
theorem dX6_handedBehind_30 : decode cX6_handedBehind 30 = .ok (.iinc 3 1, 3) := by decide +kernel
theorem dX6_handedBehind_33 : decode cX6_handedBehind 33 = .ok (.goto (-24), 3) := by decide +kernel
theorem dX6_handedBehind_36 : decode cX6_handedBehind 36 = .ok (.iload_n 2, 1) := by decide +kernel
theorem dX6_handedBehind_37 : decode cX6_handedBehind 37 = .ok (.ireturn, 1) := by decide +kernel
set_option maxRecDepth 20000 in
theorem ggX6_isStage_X6_in : GoodIn wsX6_isStage wsX6_in := goodIn_r _ [5] (by decide +kernel) (by decide +kernel)
set_option maxRecDepth 20000 in
theorem gX6_isStage_X6_in : GoodIn wsX6_isStage (va_wsS RX6 65 yX6_in wsX6_in) := goodIn_app (goodIn_of _ (by decide +kernel)) ggX6_isStage_X6_in
theorem dX6_isStage_0 : decode cX6_isStage 0 = .ok (.iload_n 1, 1) := by decide +kernel
theorem dX6_isStage_1 : decode cX6_isStage 1 = .ok (.iconst 0, 1) := by decide +kernel
theorem dX6_isStage_2 : decode cX6_isStage 2 = .ok (.aload_n 0, 1) := by decide +kernel
theorem dX6_isStage_3 : decode cX6_isStage 3 = .ok (.getfield 7, 3) := by decide +kernel
theorem dX6_isStage_6 : decode cX6_isStage 6 = .ok (.iconst 0, 1) := by decide +kernel
theorem dX6_isStage_7 : decode cX6_isStage 7 = .ok (.iaload, 1) := by decide +kernel
theorem dX6_isStage_8 : decode cX6_isStage 8 = .ok (.iconst 1, 1) := by decide +kernel
theorem dX6_isStage_9 : decode cX6_isStage 9 = .ok (.isub, 1) := by decide +kernel
theorem dX6_isStage_10 : decode cX6_isStage 10 = .ok (.invokestatic 65, 3) := by decide +kernel
theorem dX6_isStage_13 : decode cX6_isStage 13 = .ok (.ireturn, 1) := by decide +kernel
set_option maxRecDepth 20000 in
theorem ggX6_begin_X6_in : GoodIn wsX6_begin wsX6_in := goodIn_r _ [6] (by decide +kernel) (by decide +kernel)
set_option maxRecDepth 20000 in
theorem gX6_begin_X6_in : GoodIn wsX6_begin (va_wsS RX6 65 yX6_in wsX6_in) := goodIn_app (goodIn_of _ (by decide +kernel)) ggX6_begin_X6_in
set_option maxRecDepth 20000 in
theorem ggX6_begin_X6_records : GoodIn wsX6_begin wsX6_records := goodIn_r _ [10, 11, 12, 2, 17, 18, 19, 20, 21, 22, 23, 24, 25, 26, 27, 28, 29] (by decide +kernel) (by decide +kernel)
set_option maxRecDepth 20000 in
theorem gX6_begin_X6_records : GoodIn wsX6_begin (wsV RX6 70 RX6 yX6_records wsX6_records) := goodIn_app (goodIn_of _ (by decide +kernel)) ggX6_begin_X6_records
set_option maxRecDepth 20000 in
theorem ggX6_begin_X6_begins : GoodIn wsX6_begin wsX6_begins := goodIn_r _ [16, 2, 17, 18, 19, 20, 21, 22, 23, 24, 25, 26, 27, 28, 29] (by decide +kernel) (by decide +kernel)
set_option maxRecDepth 20000 in
theorem gX6_begin_X6_begins : GoodIn wsX6_begin (wsV RX6 28 RX6 yX6_begins wsX6_begins) := goodIn_app (goodIn_of _ (by decide +kernel)) ggX6_begin_X6_begins
theorem dX6_begin_0 : decode cX6_begin 0 = .ok (.iload_n 1, 1) := by decide +kernel
theorem dX6_begin_1 : decode cX6_begin 1 = .ok (.iconst 2, 1) := by decide +kernel
theorem dX6_begin_2 : decode cX6_begin 2 = .ok (.bipush 10, 2) := by decide +kernel
theorem dX6_begin_4 : decode cX6_begin 4 = .ok (.invokestatic 65, 3) := by decide +kernel
theorem dX6_begin_7 : decode cX6_begin 7 = .ok (.ifCond .ne 6, 3) := by decide +kernel
theorem dX6_begin_10 : decode cX6_begin 10 = .ok (.ldc 69, 2) := by decide +kernel
theorem dX6_begin_12 : decode cX6_begin 12 = .ok (.ireturn, 1) := by decide +kernel
theorem dX6_begin_13 : decode cX6_begin 13 = .ok (.aload_n 0, 1) := by decide +kernel
theorem dX6_begin_14 : decode cX6_begin 14 = .ok (.invokevirtual 70, 3) := by decide +kernel
theorem dX6_begin_17 : decode cX6_begin 17 = .ok (.aload_n 0, 1) := by decide +kernel
theorem dX6_begin_18 : decode cX6_begin 18 = .ok (.getfield 7, 3) := by decide +kernel
theorem dX6_begin_21 : decode cX6_begin 21 = .ok (.iconst 1, 1) := by decide +kernel
theorem dX6_begin_22 : decode cX6_begin 22 = .ok (.iaload, 1) := by decide +kernel
theorem dX6_begin_23 : decode cX6_begin 23 = .ok (.istore_n 2, 1) := by decide +kernel
theorem dX6_begin_24 : decode cX6_begin 24 = .ok (.aload_n 0, 1) := by decide +kernel
theorem dX6_begin_25 : decode cX6_begin 25 = .ok (.getfield 7, 3) := by decide +kernel
theorem dX6_begin_28 : decode cX6_begin 28 = .ok (.iconst 0, 1) := by decide +kernel
theorem dX6_begin_29 : decode cX6_begin 29 = .ok (.iaload, 1) := by decide +kernel
theorem dX6_begin_30 : decode cX6_begin 30 = .ok (.istore_n 3, 1) := by decide +kernel
theorem dX6_begin_31 : decode cX6_begin 31 = .ok (.iload_n 3, 1) := by decide +kernel
theorem dX6_begin_32 : decode cX6_begin 32 = .ok (.iload_n 1, 1) := by decide +kernel
theorem dX6_begin_33 : decode cX6_begin 33 = .ok (.if_icmp .ge 29, 3) := by decide +kernel
theorem dX6_begin_36 : decode cX6_begin 36 = .ok (.aload_n 0, 1) := by decide +kernel
theorem dX6_begin_37 : decode cX6_begin 37 = .ok (.getfield 7, 3) := by decide +kernel
theorem dX6_begin_40 : decode cX6_begin 40 = .ok (.bipush 20, 2) := by decide +kernel
theorem dX6_begin_42 : decode cX6_begin 42 = .ok (.iload_n 3, 1) := by decide +kernel
theorem dX6_begin_43 : decode cX6_begin 43 = .ok (.iadd, 1) := by decide +kernel
theorem dX6_begin_44 : decode cX6_begin 44 = .ok (.iconst 0, 1) := by decide +kernel
theorem dX6_begin_45 : decode cX6_begin 45 = .ok (.iastore, 1) := by decide +kernel
theorem dX6_begin_46 : decode cX6_begin 46 = .ok (.aload_n 0, 1) := by decide +kernel
theorem dX6_begin_47 : decode cX6_begin 47 = .ok (.getfield 7, 3) := by decide +kernel
theorem dX6_begin_50 : decode cX6_begin 50 = .ok (.bipush 30, 2) := by decide +kernel
theorem dX6_begin_52 : decode cX6_begin 52 = .ok (.iload_n 3, 1) := by decide +kernel
theorem dX6_begin_53 : decode cX6_begin 53 = .ok (.iadd, 1) := by decide +kernel
theorem dX6_begin_54 : decode cX6_begin 54 = .ok (.iconst 0, 1) := by decide +kernel
theorem dX6_begin_55 : decode cX6_begin 55 = .ok (.iastore, 1) := by decide +kernel
theorem dX6_begin_56 : decode cX6_begin 56 = .ok (.iinc 3 1, 3) := by decide +kernel
theorem dX6_begin_59 : decode cX6_begin 59 = .ok (.goto (-28), 3) := by decide +kernel
theorem dX6_begin_62 : decode cX6_begin 62 = .ok (.aload_n 0, 1) := by decide +kernel
theorem dX6_begin_63 : decode cX6_begin 63 = .ok (.getfield 7, 3) := by decide +kernel
theorem dX6_begin_66 : decode cX6_begin 66 = .ok (.iconst 0, 1) := by decide +kernel
theorem dX6_begin_67 : decode cX6_begin 67 = .ok (.iload_n 1, 1) := by decide +kernel
theorem dX6_begin_68 : decode cX6_begin 68 = .ok (.iastore, 1) := by decide +kernel
theorem dX6_begin_69 : decode cX6_begin 69 = .ok (.aload_n 0, 1) := by decide +kernel
theorem dX6_begin_70 : decode cX6_begin 70 = .ok (.invokevirtual 28, 3) := by decide +kernel
theorem dX6_begin_73 : decode cX6_begin 73 = .ok (.iload_n 2, 1) := by decide +kernel
theorem dX6_begin_74 : decode cX6_begin 74 = .ok (.ireturn, 1) := by decide +kernel
theorem dX6_shares_0 : decode cX6_shares 0 = .ok (.sipush 1000, 3) := by decide +kernel
theorem dX6_shares_3 : decode cX6_shares 3 = .ok (.aload_n 0, 1) := by decide +kernel
theorem dX6_shares_4 : decode cX6_shares 4 = .ok (.getfield 7, 3) := by decide +kernel
theorem dX6_shares_7 : decode cX6_shares 7 = .ok (.bipush 20, 2) := by decide +kernel
theorem dX6_shares_9 : decode cX6_shares 9 = .ok (.iload_n 1, 1) := by decide +kernel
theorem dX6_shares_10 : decode cX6_shares 10 = .ok (.iadd, 1) := by decide +kernel
theorem dX6_shares_11 : decode cX6_shares 11 = .ok (.iaload, 1) := by decide +kernel
theorem dX6_shares_12 : decode cX6_shares 12 = .ok (.imul, 1) := by decide +kernel
theorem dX6_shares_13 : decode cX6_shares 13 = .ok (.aload_n 0, 1) := by decide +kernel
theorem dX6_shares_14 : decode cX6_shares 14 = .ok (.getfield 7, 3) := by decide +kernel
theorem dX6_shares_17 : decode cX6_shares 17 = .ok (.bipush 30, 2) := by decide +kernel
theorem dX6_shares_19 : decode cX6_shares 19 = .ok (.iload_n 1, 1) := by decide +kernel
theorem dX6_shares_20 : decode cX6_shares 20 = .ok (.iadd, 1) := by decide +kernel
theorem dX6_shares_21 : decode cX6_shares 21 = .ok (.iaload, 1) := by decide +kernel
theorem dX6_shares_22 : decode cX6_shares 22 = .ok (.iadd, 1) := by decide +kernel
theorem dX6_shares_23 : decode cX6_shares 23 = .ok (.istore 4, 2) := by decide +kernel
theorem dX6_shares_25 : decode cX6_shares 25 = .ok (.aload_n 0, 1) := by decide +kernel
theorem dX6_shares_26 : decode cX6_shares 26 = .ok (.getfield 7, 3) := by decide +kernel
theorem dX6_shares_29 : decode cX6_shares 29 = .ok (.bipush 20, 2) := by decide +kernel
theorem dX6_shares_31 : decode cX6_shares 31 = .ok (.iload_n 1, 1) := by decide +kernel
theorem dX6_shares_32 : decode cX6_shares 32 = .ok (.iadd, 1) := by decide +kernel
theorem dX6_shares_33 : decode cX6_shares 33 = .ok (.iload_n 2, 1) := by decide +kernel
theorem dX6_shares_34 : decode cX6_shares 34 = .ok (.iastore, 1) := by decide +kernel
theorem dX6_shares_35 : decode cX6_shares 35 = .ok (.aload_n 0, 1) := by decide +kernel
theorem dX6_shares_36 : decode cX6_shares 36 = .ok (.getfield 7, 3) := by decide +kernel
theorem dX6_shares_39 : decode cX6_shares 39 = .ok (.bipush 30, 2) := by decide +kernel
theorem dX6_shares_41 : decode cX6_shares 41 = .ok (.iload_n 1, 1) := by decide +kernel
theorem dX6_shares_42 : decode cX6_shares 42 = .ok (.iadd, 1) := by decide +kernel
theorem dX6_shares_43 : decode cX6_shares 43 = .ok (.iload_n 3, 1) := by decide +kernel
theorem dX6_shares_44 : decode cX6_shares 44 = .ok (.iastore, 1) := by decide +kernel
theorem dX6_shares_45 : decode cX6_shares 45 = .ok (.iload 4, 2) := by decide +kernel
theorem dX6_shares_47 : decode cX6_shares 47 = .ok (.ireturn, 1) := by decide +kernel
set_option maxRecDepth 20000 in
theorem ggX6_stage_X6_isStage : GoodIn wsX6_stage wsX6_isStage := goodIn_r _ [6, 7, 8, 9, 5, 10, 21, 22, 23, 24, 25, 26, 27, 28, 29, 30, 31, 32, 33] (by decide +kernel) (by decide +kernel)
set_option maxRecDepth 20000 in
theorem gX6_stage_X6_isStage : GoodIn wsX6_stage (wsV RX6 73 RX6 yX6_isStage wsX6_isStage) := goodIn_app (goodIn_of _ (by decide +kernel)) ggX6_stage_X6_isStage
set_option maxRecDepth 20000 in
theorem ggX6_stage_X6_in : GoodIn wsX6_stage wsX6_in := goodIn_r _ [10] (by decide +kernel) (by decide +kernel)
set_option maxRecDepth 20000 in
theorem gX6_stage_X6_in : GoodIn wsX6_stage (va_wsS RX6 65 yX6_in wsX6_in) := goodIn_app (goodIn_of _ (by decide +kernel)) ggX6_stage_X6_in
set_option maxRecDepth 20000 in
theorem ggX6_stage_X6_records : GoodIn wsX6_stage wsX6_records := goodIn_r _ [14, 15, 16, 7, 21, 22, 23, 24, 25, 26, 27, 28, 29, 30, 31, 32, 33] (by decide +kernel) (by decide +kernel)
set_option maxRecDepth 20000 in
theorem gX6_stage_X6_records : GoodIn wsX6_stage (wsV RX6 70 RX6 yX6_records wsX6_records) := goodIn_app (goodIn_of _ (by decide +kernel)) ggX6_stage_X6_records
set_option maxRecDepth 20000 in
theorem ggX6_stage_X6_shares : GoodIn wsX6_stage wsX6_shares := goodIn_r _ [20, 7, 21, 22, 23, 24, 25, 26, 27, 28, 29, 30, 31, 32, 33] (by decide +kernel) (by decide +kernel)
set_option maxRecDepth 20000 in
theorem gX6_stage_X6_shares : GoodIn wsX6_stage (wsV RX6 76 RX6 yX6_shares wsX6_shares) := goodIn_app (goodIn_of _ (by decide +kernel)) ggX6_stage_X6_shares
theorem dX6_stage_0 : decode cX6_stage 0 = .ok (.aload_n 0, 1) := by decide +kernel
theorem dX6_stage_1 : decode cX6_stage 1 = .ok (.iload_n 1, 1) := by decide +kernel
theorem dX6_stage_2 : decode cX6_stage 2 = .ok (.invokevirtual 73, 3) := by decide +kernel
theorem dX6_stage_5 : decode cX6_stage 5 = .ok (.ifCond .eq 25, 3) := by decide +kernel
theorem dX6_stage_8 : decode cX6_stage 8 = .ok (.iload_n 2, 1) := by decide +kernel
theorem dX6_stage_9 : decode cX6_stage 9 = .ok (.iconst 0, 1) := by decide +kernel
theorem dX6_stage_10 : decode cX6_stage 10 = .ok (.sipush 300, 3) := by decide +kernel
theorem dX6_stage_13 : decode cX6_stage 13 = .ok (.invokestatic 65, 3) := by decide +kernel
theorem dX6_stage_16 : decode cX6_stage 16 = .ok (.ifCond .eq 14, 3) := by decide +kernel
theorem dX6_stage_19 : decode cX6_stage 19 = .ok (.iload_n 3, 1) := by decide +kernel
theorem dX6_stage_20 : decode cX6_stage 20 = .ok (.iconst 0, 1) := by decide +kernel
theorem dX6_stage_21 : decode cX6_stage 21 = .ok (.sipush 300, 3) := by decide +kernel
theorem dX6_stage_24 : decode cX6_stage 24 = .ok (.invokestatic 65, 3) := by decide +kernel
theorem dX6_stage_27 : decode cX6_stage 27 = .ok (.ifCond .ne 6, 3) := by decide +kernel
theorem dX6_stage_30 : decode cX6_stage 30 = .ok (.ldc 69, 2) := by decide +kernel
theorem dX6_stage_32 : decode cX6_stage 32 = .ok (.ireturn, 1) := by decide +kernel
theorem dX6_stage_33 : decode cX6_stage 33 = .ok (.aload_n 0, 1) := by decide +kernel
theorem dX6_stage_34 : decode cX6_stage 34 = .ok (.invokevirtual 70, 3) := by decide +kernel
theorem dX6_stage_37 : decode cX6_stage 37 = .ok (.aload_n 0, 1) := by decide +kernel
theorem dX6_stage_38 : decode cX6_stage 38 = .ok (.iload_n 1, 1) := by decide +kernel
theorem dX6_stage_39 : decode cX6_stage 39 = .ok (.iload_n 2, 1) := by decide +kernel
theorem dX6_stage_40 : decode cX6_stage 40 = .ok (.iload_n 3, 1) := by decide +kernel
theorem dX6_stage_41 : decode cX6_stage 41 = .ok (.invokevirtual 76, 3) := by decide +kernel
theorem dX6_stage_44 : decode cX6_stage 44 = .ok (.ireturn, 1) := by decide +kernel
set_option maxRecDepth 20000 in
theorem ggX6_isSetting_X6_in : GoodIn wsX6_isSetting wsX6_in := goodIn_r _ [5] (by decide +kernel) (by decide +kernel)
set_option maxRecDepth 20000 in
theorem gX6_isSetting_X6_in : GoodIn wsX6_isSetting (va_wsS RX6 65 yX6_in wsX6_in) := goodIn_app (goodIn_of _ (by decide +kernel)) ggX6_isSetting_X6_in
theorem dX6_isSetting_0 : decode cX6_isSetting 0 = .ok (.iload_n 0, 1) := by decide +kernel
theorem dX6_isSetting_1 : decode cX6_isSetting 1 = .ok (.ifCond .ne 15, 3) := by decide +kernel
theorem dX6_isSetting_4 : decode cX6_isSetting 4 = .ok (.iload_n 1, 1) := by decide +kernel
theorem dX6_isSetting_5 : decode cX6_isSetting 5 = .ok (.sipush 1000, 3) := by decide +kernel
theorem dX6_isSetting_8 : decode cX6_isSetting 8 = .ok (.ldc 80, 2) := by decide +kernel
theorem dX6_isSetting_10 : decode cX6_isSetting 10 = .ok (.invokestatic 65, 3) := by decide +kernel
theorem dX6_isSetting_13 : decode cX6_isSetting 13 = .ok (.goto 43, 3) := by decide +kernel
theorem dX6_isSetting_16 : decode cX6_isSetting 16 = .ok (.iload_n 0, 1) := by decide +kernel
theorem dX6_isSetting_17 : decode cX6_isSetting 17 = .ok (.iconst 1, 1) := by decide +kernel
theorem dX6_isSetting_18 : decode cX6_isSetting 18 = .ok (.if_icmp .ne 13, 3) := by decide +kernel
theorem dX6_isSetting_21 : decode cX6_isSetting 21 = .ok (.iload_n 1, 1) := by decide +kernel
theorem dX6_isSetting_22 : decode cX6_isSetting 22 = .ok (.iconst 0, 1) := by decide +kernel
theorem dX6_isSetting_23 : decode cX6_isSetting 23 = .ok (.bipush 12, 2) := by decide +kernel
theorem dX6_isSetting_25 : decode cX6_isSetting 25 = .ok (.invokestatic 65, 3) := by decide +kernel
theorem dX6_isSetting_28 : decode cX6_isSetting 28 = .ok (.goto 28, 3) := by decide +kernel
theorem dX6_isSetting_31 : decode cX6_isSetting 31 = .ok (.iload_n 0, 1) := by decide +kernel
theorem dX6_isSetting_32 : decode cX6_isSetting 32 = .ok (.iconst 2, 1) := by decide +kernel
theorem dX6_isSetting_33 : decode cX6_isSetting 33 = .ok (.iconst 4, 1) := by decide +kernel
theorem dX6_isSetting_34 : decode cX6_isSetting 34 = .ok (.invokestatic 65, 3) := by decide +kernel
theorem dX6_isSetting_37 : decode cX6_isSetting 37 = .ok (.ifCond .eq 18, 3) := by decide +kernel
theorem dX6_isSetting_40 : decode cX6_isSetting 40 = .ok (.iload_n 1, 1) := by decide +kernel
theorem dX6_isSetting_41 : decode cX6_isSetting 41 = .ok (.iconst 1, 1) := by decide +kernel
theorem dX6_isSetting_42 : decode cX6_isSetting 42 = .ok (.sipush 10000, 3) := by decide +kernel
theorem dX6_isSetting_45 : decode cX6_isSetting 45 = .ok (.invokestatic 65, 3) := by decide +kernel
theorem dX6_isSetting_48 : decode cX6_isSetting 48 = .ok (.ifCond .eq 7, 3) := by decide +kernel
theorem dX6_isSetting_51 : decode cX6_isSetting 51 = .ok (.iconst 1, 1) := by decide +kernel
theorem dX6_isSetting_52 : decode cX6_isSetting 52 = .ok (.goto 4, 3) := by decide +kernel
theorem dX6_isSetting_55 : decode cX6_isSetting 55 = .ok (.iconst 0, 1) := by decide +kernel
theorem dX6_isSetting_56 : decode cX6_isSetting 56 = .ok (.ireturn, 1) := by decide +kernel
set_option maxRecDepth 20000 in
theorem ggX6_set_X6_isSetting : GoodIn wsX6_set wsX6_isSetting := goodIn_r _ [6, 7, 8, 9, 5, 10] (by decide +kernel) (by decide +kernel)
set_option maxRecDepth 20000 in
theorem gX6_set_X6_isSetting : GoodIn wsX6_set (va_wsS RX6 81 yX6_isSetting wsX6_isSetting) := goodIn_app (goodIn_of _ (by decide +kernel)) ggX6_set_X6_isSetting
set_option maxRecDepth 20000 in
theorem ggX6_set_X6_records : GoodIn wsX6_set wsX6_records := goodIn_r _ [14, 15, 16, 2, 17, 18, 19, 20, 21, 22, 23, 24, 25, 26, 27, 28, 29] (by decide +kernel) (by decide +kernel)
set_option maxRecDepth 20000 in
theorem gX6_set_X6_records : GoodIn wsX6_set (wsV RX6 70 RX6 yX6_records wsX6_records) := goodIn_app (goodIn_of _ (by decide +kernel)) ggX6_set_X6_records
theorem dX6_set_0 : decode cX6_set 0 = .ok (.iload_n 1, 1) := by decide +kernel
theorem dX6_set_1 : decode cX6_set 1 = .ok (.iload_n 2, 1) := by decide +kernel
theorem dX6_set_2 : decode cX6_set 2 = .ok (.invokestatic 81, 3) := by decide +kernel
theorem dX6_set_5 : decode cX6_set 5 = .ok (.ifCond .ne 6, 3) := by decide +kernel
theorem dX6_set_8 : decode cX6_set 8 = .ok (.ldc 69, 2) := by decide +kernel
theorem dX6_set_10 : decode cX6_set 10 = .ok (.ireturn, 1) := by decide +kernel
theorem dX6_set_11 : decode cX6_set 11 = .ok (.aload_n 0, 1) := by decide +kernel
theorem dX6_set_12 : decode cX6_set 12 = .ok (.invokevirtual 70, 3) := by decide +kernel
theorem dX6_set_15 : decode cX6_set 15 = .ok (.aload_n 0, 1) := by decide +kernel
theorem dX6_set_16 : decode cX6_set 16 = .ok (.getfield 7, 3) := by decide +kernel
theorem dX6_set_19 : decode cX6_set 19 = .ok (.iconst 5, 1) := by decide +kernel
theorem dX6_set_20 : decode cX6_set 20 = .ok (.iload_n 1, 1) := by decide +kernel
theorem dX6_set_21 : decode cX6_set 21 = .ok (.iadd, 1) := by decide +kernel
theorem dX6_set_22 : decode cX6_set 22 = .ok (.iaload, 1) := by decide +kernel
theorem dX6_set_23 : decode cX6_set 23 = .ok (.istore_n 3, 1) := by decide +kernel
theorem dX6_set_24 : decode cX6_set 24 = .ok (.aload_n 0, 1) := by decide +kernel
theorem dX6_set_25 : decode cX6_set 25 = .ok (.getfield 7, 3) := by decide +kernel
theorem dX6_set_28 : decode cX6_set 28 = .ok (.iconst 5, 1) := by decide +kernel
theorem dX6_set_29 : decode cX6_set 29 = .ok (.iload_n 1, 1) := by decide +kernel
theorem dX6_set_30 : decode cX6_set 30 = .ok (.iadd, 1) := by decide +kernel
theorem dX6_set_31 : decode cX6_set 31 = .ok (.iload_n 2, 1) := by decide +kernel
theorem dX6_set_32 : decode cX6_set 32 = .ok (.iastore, 1) := by decide +kernel
theorem dX6_set_33 : decode cX6_set 33 = .ok (.iload_n 3, 1) := by decide +kernel
theorem dX6_set_34 : decode cX6_set 34 = .ok (.ireturn, 1) := by decide +kernel
set_option maxRecDepth 20000 in
theorem ggX6_give_X6_in : GoodIn wsX6_give wsX6_in := goodIn_r _ [7] (by decide +kernel) (by decide +kernel)
set_option maxRecDepth 20000 in
theorem gX6_give_X6_in : GoodIn wsX6_give (va_wsS RX6 65 yX6_in wsX6_in) := goodIn_app (goodIn_of _ (by decide +kernel)) ggX6_give_X6_in
set_option maxRecDepth 20000 in
theorem ggX6_give_X6_handedBehind : GoodIn wsX6_give wsX6_handedBehind := goodIn_r _ [11, 3, 12, 13, 14, 6, 15, 73, 74, 75, 76, 77, 78, 79, 80, 81, 82, 83, 84, 85] (by decide +kernel) (by decide +kernel)
set_option maxRecDepth 20000 in
theorem gX6_give_X6_handedBehind : GoodIn wsX6_give (wsV RX6 85 RX6 yX6_handedBehind wsX6_handedBehind) := goodIn_app (goodIn_of _ (by decide +kernel)) ggX6_give_X6_handedBehind
set_option maxRecDepth 20000 in
theorem ggX6_give_X6_records : GoodIn wsX6_give wsX6_records := goodIn_r _ [19, 20, 21, 3, 73, 74, 75, 76, 77, 78, 79, 80, 81, 82, 83, 84, 85] (by decide +kernel) (by decide +kernel)
set_option maxRecDepth 20000 in
theorem gX6_give_X6_records : GoodIn wsX6_give (wsV RX6 70 RX6 yX6_records wsX6_records) := goodIn_app (goodIn_of _ (by decide +kernel)) ggX6_give_X6_records
set_option maxRecDepth 20000 in
theorem ggX6_give_X6_gives : GoodIn wsX6_give wsX6_gives := goodIn_r _ [25, 3, 12, 13, 14, 6, 15, 26, 27, 28, 29, 30, 31, 32, 33, 34, 35, 36, 37, 38, 39, 40, 41, 42, 43, 44, 45, 46, 47, 48, 49, 50, 51, 52, 53, 54, 55, 56, 57, 58, 59, 60, 61, 62, 63, 64, 65, 66, 67, 68, 69, 70, 71, 72, 73, 74, 75, 76, 77, 78, 79, 80, 81, 82, 83, 84, 85] (by decide +kernel) (by decide +kernel)
set_option maxRecDepth 20000 in
theorem gX6_give_X6_gives : GoodIn wsX6_give (wsV RX6 89 RX6 yX6_gives wsX6_gives) := goodIn_app (goodIn_of _ (by decide +kernel)) ggX6_give_X6_gives
theorem dX6_give_0 : decode cX6_give 0 = .ok (.iload_n 1, 1) := by decide +kernel
theorem dX6_give_1 : decode cX6_give 1 = .ok (.iconst 0, 1) := by decide +kernel
theorem dX6_give_2 : decode cX6_give 2 = .ok (.sipush 10000, 3) := by decide +kernel
theorem dX6_give_5 : decode cX6_give 5 = .ok (.invokestatic 65, 3) := by decide +kernel
theorem dX6_give_8 : decode cX6_give 8 = .ok (.ifCond .ne 6, 3) := by decide +kernel
theorem dX6_give_11 : decode cX6_give 11 = .ok (.ldc 69, 2) := by decide +kernel
theorem dX6_give_13 : decode cX6_give 13 = .ok (.ireturn, 1) := by decide +kernel
theorem dX6_give_14 : decode cX6_give 14 = .ok (.aload_n 0, 1) := by decide +kernel
theorem dX6_give_15 : decode cX6_give 15 = .ok (.iconst 1, 1) := by decide +kernel
theorem dX6_give_16 : decode cX6_give 16 = .ok (.invokevirtual 85, 3) := by decide +kernel
theorem dX6_give_19 : decode cX6_give 19 = .ok (.istore_n 2, 1) := by decide +kernel
theorem dX6_give_20 : decode cX6_give 20 = .ok (.iload_n 2, 1) := by decide +kernel
theorem dX6_give_21 : decode cX6_give 21 = .ok (.sipush 999, 3) := by decide +kernel
theorem dX6_give_24 : decode cX6_give 24 = .ok (.if_icmp .le 6, 3) := by decide +kernel
theorem dX6_give_27 : decode cX6_give 27 = .ok (.ldc 88, 2) := by decide +kernel
theorem dX6_give_29 : decode cX6_give 29 = .ok (.ireturn, 1) := by decide +kernel
theorem dX6_give_30 : decode cX6_give 30 = .ok (.iload_n 2, 1) := by decide +kernel
theorem dX6_give_31 : decode cX6_give 31 = .ok (.aload_n 0, 1) := by decide +kernel
theorem dX6_give_32 : decode cX6_give 32 = .ok (.getfield 7, 3) := by decide +kernel
theorem dX6_give_35 : decode cX6_give 35 = .ok (.iconst 1, 1) := by decide +kernel
theorem dX6_give_36 : decode cX6_give 36 = .ok (.iaload, 1) := by decide +kernel
theorem dX6_give_37 : decode cX6_give 37 = .ok (.isub, 1) := by decide +kernel
theorem dX6_give_38 : decode cX6_give 38 = .ok (.istore_n 3, 1) := by decide +kernel
theorem dX6_give_39 : decode cX6_give 39 = .ok (.aload_n 0, 1) := by decide +kernel
theorem dX6_give_40 : decode cX6_give 40 = .ok (.invokevirtual 70, 3) := by decide +kernel
theorem dX6_give_43 : decode cX6_give 43 = .ok (.aload_n 0, 1) := by decide +kernel
theorem dX6_give_44 : decode cX6_give 44 = .ok (.iload_n 1, 1) := by decide +kernel
theorem dX6_give_45 : decode cX6_give 45 = .ok (.invokevirtual 89, 3) := by decide +kernel
theorem dX6_give_48 : decode cX6_give 48 = .ok (.iload_n 3, 1) := by decide +kernel
theorem dX6_give_49 : decode cX6_give 49 = .ok (.ireturn, 1) := by decide +kernel
set_option maxRecDepth 20000 in
theorem ggX6_idle_X6_in : GoodIn wsX6_idle wsX6_in := goodIn_r _ [7] (by decide +kernel) (by decide +kernel)
set_option maxRecDepth 20000 in
theorem gX6_idle_X6_in : GoodIn wsX6_idle (va_wsS RX6 65 yX6_in wsX6_in) := goodIn_app (goodIn_of _ (by decide +kernel)) ggX6_idle_X6_in
set_option maxRecDepth 20000 in
theorem ggX6_idle_X6_handedBehind : GoodIn wsX6_idle wsX6_handedBehind := goodIn_r _ [11, 3, 12, 13, 14, 6, 15, 73, 74, 75, 76, 77, 78, 79, 80, 81, 82, 83, 84, 85] (by decide +kernel) (by decide +kernel)
set_option maxRecDepth 20000 in
theorem gX6_idle_X6_handedBehind : GoodIn wsX6_idle (wsV RX6 85 RX6 yX6_handedBehind wsX6_handedBehind) := goodIn_app (goodIn_of _ (by decide +kernel)) ggX6_idle_X6_handedBehind
set_option maxRecDepth 20000 in
theorem ggX6_idle_X6_records : GoodIn wsX6_idle wsX6_records := goodIn_r _ [19, 20, 21, 3, 73, 74, 75, 76, 77, 78, 79, 80, 81, 82, 83, 84, 85] (by decide +kernel) (by decide +kernel)
set_option maxRecDepth 20000 in
theorem gX6_idle_X6_records : GoodIn wsX6_idle (wsV RX6 70 RX6 yX6_records wsX6_records) := goodIn_app (goodIn_of _ (by decide +kernel)) ggX6_idle_X6_records
set_option maxRecDepth 20000 in
theorem ggX6_idle_X6_gives : GoodIn wsX6_idle wsX6_gives := goodIn_r _ [25, 3, 12, 13, 14, 6, 15, 26, 27, 28, 29, 30, 31, 32, 33, 34, 35, 36, 37, 38, 39, 40, 41, 42, 43, 44, 45, 46, 47, 48, 49, 50, 51, 52, 53, 54, 55, 56, 57, 58, 59, 60, 61, 62, 63, 64, 65, 66, 67, 68, 69, 70, 71, 72, 73, 74, 75, 76, 77, 78, 79, 80, 81, 82, 83, 84, 85] (by decide +kernel) (by decide +kernel)
set_option maxRecDepth 20000 in
theorem gX6_idle_X6_gives : GoodIn wsX6_idle (wsV RX6 89 RX6 yX6_gives wsX6_gives) := goodIn_app (goodIn_of _ (by decide +kernel)) ggX6_idle_X6_gives
theorem dX6_idle_0 : decode cX6_idle 0 = .ok (.iload_n 1, 1) := by decide +kernel
theorem dX6_idle_1 : decode cX6_idle 1 = .ok (.iconst 1, 1) := by decide +kernel
theorem dX6_idle_2 : decode cX6_idle 2 = .ok (.bipush 40, 2) := by decide +kernel
theorem dX6_idle_4 : decode cX6_idle 4 = .ok (.invokestatic 65, 3) := by decide +kernel
theorem dX6_idle_7 : decode cX6_idle 7 = .ok (.ifCond .ne 6, 3) := by decide +kernel
theorem dX6_idle_10 : decode cX6_idle 10 = .ok (.ldc 69, 2) := by decide +kernel
theorem dX6_idle_12 : decode cX6_idle 12 = .ok (.ireturn, 1) := by decide +kernel
theorem dX6_idle_13 : decode cX6_idle 13 = .ok (.aload_n 0, 1) := by decide +kernel
theorem dX6_idle_14 : decode cX6_idle 14 = .ok (.iload_n 1, 1) := by decide +kernel
theorem dX6_idle_15 : decode cX6_idle 15 = .ok (.invokevirtual 85, 3) := by decide +kernel
theorem dX6_idle_18 : decode cX6_idle 18 = .ok (.istore_n 2, 1) := by decide +kernel
theorem dX6_idle_19 : decode cX6_idle 19 = .ok (.iload_n 2, 1) := by decide +kernel
theorem dX6_idle_20 : decode cX6_idle 20 = .ok (.sipush 999, 3) := by decide +kernel
theorem dX6_idle_23 : decode cX6_idle 23 = .ok (.if_icmp .le 6, 3) := by decide +kernel
theorem dX6_idle_26 : decode cX6_idle 26 = .ok (.ldc 88, 2) := by decide +kernel
theorem dX6_idle_28 : decode cX6_idle 28 = .ok (.ireturn, 1) := by decide +kernel
theorem dX6_idle_29 : decode cX6_idle 29 = .ok (.iload_n 2, 1) := by decide +kernel
theorem dX6_idle_30 : decode cX6_idle 30 = .ok (.aload_n 0, 1) := by decide +kernel
theorem dX6_idle_31 : decode cX6_idle 31 = .ok (.getfield 7, 3) := by decide +kernel
theorem dX6_idle_34 : decode cX6_idle 34 = .ok (.iconst 1, 1) := by decide +kernel
theorem dX6_idle_35 : decode cX6_idle 35 = .ok (.iaload, 1) := by decide +kernel
theorem dX6_idle_36 : decode cX6_idle 36 = .ok (.isub, 1) := by decide +kernel
theorem dX6_idle_37 : decode cX6_idle 37 = .ok (.istore_n 3, 1) := by decide +kernel
theorem dX6_idle_38 : decode cX6_idle 38 = .ok (.aload_n 0, 1) := by decide +kernel
theorem dX6_idle_39 : decode cX6_idle 39 = .ok (.invokevirtual 70, 3) := by decide +kernel
theorem dX6_idle_42 : decode cX6_idle 42 = .ok (.iconst 0, 1) := by decide +kernel
theorem dX6_idle_43 : decode cX6_idle 43 = .ok (.istore 4, 2) := by decide +kernel
theorem dX6_idle_45 : decode cX6_idle 45 = .ok (.iload 4, 2) := by decide +kernel
theorem dX6_idle_47 : decode cX6_idle 47 = .ok (.iload_n 1, 1) := by decide +kernel
theorem dX6_idle_48 : decode cX6_idle 48 = .ok (.if_icmp .ge 14, 3) := by decide +kernel
theorem dX6_idle_51 : decode cX6_idle 51 = .ok (.aload_n 0, 1) := by decide +kernel
theorem dX6_idle_52 : decode cX6_idle 52 = .ok (.iconst 0, 1) := by decide +kernel
theorem dX6_idle_53 : decode cX6_idle 53 = .ok (.invokevirtual 89, 3) := by decide +kernel
theorem dX6_idle_56 : decode cX6_idle 56 = .ok (.iinc 4 1, 3) := by decide +kernel
theorem dX6_idle_59 : decode cX6_idle 59 = .ok (.goto (-14), 3) := by decide +kernel
theorem dX6_idle_62 : decode cX6_idle 62 = .ok (.iload_n 3, 1) := by decide +kernel
theorem dX6_idle_63 : decode cX6_idle 63 = .ok (.ireturn, 1) := by decide +kernel
theorem dX6_counts_0 : decode cX6_counts 0 = .ok (.aload_n 0, 1) := by decide +kernel
theorem dX6_counts_1 : decode cX6_counts 1 = .ok (.getfield 7, 3) := by decide +kernel
theorem dX6_counts_4 : decode cX6_counts 4 = .ok (.bipush 40, 2) := by decide +kernel
theorem dX6_counts_6 : decode cX6_counts 6 = .ok (.iload_n 1, 1) := by decide +kernel
theorem dX6_counts_7 : decode cX6_counts 7 = .ok (.iadd, 1) := by decide +kernel
theorem dX6_counts_8 : decode cX6_counts 8 = .ok (.iaload, 1) := by decide +kernel
theorem dX6_counts_9 : decode cX6_counts 9 = .ok (.ifCond .le 7, 3) := by decide +kernel
theorem dX6_counts_12 : decode cX6_counts 12 = .ok (.iconst 1, 1) := by decide +kernel
theorem dX6_counts_13 : decode cX6_counts 13 = .ok (.goto 4, 3) := by decide +kernel
theorem dX6_counts_16 : decode cX6_counts 16 = .ok (.iconst 0, 1) := by decide +kernel
theorem dX6_counts_17 : decode cX6_counts 17 = .ok (.istore_n 2, 1) := by decide +kernel
theorem dX6_counts_18 : decode cX6_counts 18 = .ok (.iconst 0, 1) := by decide +kernel
theorem dX6_counts_19 : decode cX6_counts 19 = .ok (.istore_n 3, 1) := by decide +kernel
theorem dX6_counts_20 : decode cX6_counts 20 = .ok (.iload_n 3, 1) := by decide +kernel
theorem dX6_counts_21 : decode cX6_counts 21 = .ok (.iload_n 1, 1) := by decide +kernel
theorem dX6_counts_22 : decode cX6_counts 22 = .ok (.if_icmp .ge 40, 3) := by decide +kernel
theorem dX6_counts_25 : decode cX6_counts 25 = .ok (.iload_n 2, 1) := by decide +kernel
theorem dX6_counts_26 : decode cX6_counts 26 = .ok (.ifCond .eq 28, 3) := by decide +kernel
theorem dX6_counts_29 : decode cX6_counts 29 = .ok (.aload_n 0, 1) := by decide +kernel
theorem dX6_counts_30 : decode cX6_counts 30 = .ok (.getfield 7, 3) := by decide +kernel
theorem dX6_counts_33 : decode cX6_counts 33 = .ok (.bipush 40, 2) := by decide +kernel
theorem dX6_counts_35 : decode cX6_counts 35 = .ok (.iload_n 3, 1) := by decide +kernel
theorem dX6_counts_36 : decode cX6_counts 36 = .ok (.iadd, 1) := by decide +kernel
theorem dX6_counts_37 : decode cX6_counts 37 = .ok (.iaload, 1) := by decide +kernel
theorem dX6_counts_38 : decode cX6_counts 38 = .ok (.aload_n 0, 1) := by decide +kernel
theorem dX6_counts_39 : decode cX6_counts 39 = .ok (.getfield 7, 3) := by decide +kernel
theorem dX6_counts_42 : decode cX6_counts 42 = .ok (.bipush 40, 2) := by decide +kernel
theorem dX6_counts_44 : decode cX6_counts 44 = .ok (.iload_n 1, 1) := by decide +kernel
theorem dX6_counts_45 : decode cX6_counts 45 = .ok (.iadd, 1) := by decide +kernel
theorem dX6_counts_46 : decode cX6_counts 46 = .ok (.iaload, 1) := by decide +kernel
theorem dX6_counts_47 : decode cX6_counts 47 = .ok (.if_icmp .eq 7, 3) := by decide +kernel
theorem dX6_counts_50 : decode cX6_counts 50 = .ok (.iconst 1, 1) := by decide +kernel
theorem dX6_counts_51 : decode cX6_counts 51 = .ok (.goto 4, 3) := by decide +kernel
theorem dX6_counts_54 : decode cX6_counts 54 = .ok (.iconst 0, 1) := by decide +kernel
theorem dX6_counts_55 : decode cX6_counts 55 = .ok (.istore_n 2, 1) := by decide +kernel
theorem dX6_counts_56 : decode cX6_counts 56 = .ok (.iinc 3 1, 3) := by decide +kernel
theorem dX6_counts_59 : decode cX6_counts 59 = .ok (.goto (-39), 3) := by decide +kernel
theorem dX6_counts_62 : decode cX6_counts 62 = .ok (.iload_n 2, 1) := by decide +kernel
theorem dX6_counts_63 : decode cX6_counts 63 = .ok (.ireturn, 1) := by decide +kernel
set_option maxRecDepth 20000 in
theorem ggX6_laysRow_X6_counts : GoodIn wsX6_laysRow wsX6_counts := goodIn_r _ [8, 2, 9, 10, 11, 12, 13, 14, 15, 16, 17, 18, 19, 20, 21] (by decide +kernel) (by decide +kernel)
set_option maxRecDepth 20000 in
theorem gX6_laysRow_X6_counts : GoodIn wsX6_laysRow (wsV RX6 96 RX6 yX6_counts wsX6_counts) := goodIn_app (goodIn_of _ (by decide +kernel)) ggX6_laysRow_X6_counts
theorem dX6_laysRow_0 : decode cX6_laysRow 0 = .ok (.aload_n 0, 1) := by decide +kernel
theorem dX6_laysRow_1 : decode cX6_laysRow 1 = .ok (.iconst 0, 1) := by decide +kernel
theorem dX6_laysRow_2 : decode cX6_laysRow 2 = .ok (.putfield 93, 3) := by decide +kernel
theorem dX6_laysRow_5 : decode cX6_laysRow 5 = .ok (.iconst 0, 1) := by decide +kernel
theorem dX6_laysRow_6 : decode cX6_laysRow 6 = .ok (.istore_n 1, 1) := by decide +kernel
theorem dX6_laysRow_7 : decode cX6_laysRow 7 = .ok (.iload_n 1, 1) := by decide +kernel
theorem dX6_laysRow_8 : decode cX6_laysRow 8 = .ok (.iconst 3, 1) := by decide +kernel
theorem dX6_laysRow_9 : decode cX6_laysRow 9 = .ok (.if_icmp .ge 91, 3) := by decide +kernel
theorem dX6_laysRow_12 : decode cX6_laysRow 12 = .ok (.aload_n 0, 1) := by decide +kernel
theorem dX6_laysRow_13 : decode cX6_laysRow 13 = .ok (.iload_n 1, 1) := by decide +kernel
theorem dX6_laysRow_14 : decode cX6_laysRow 14 = .ok (.invokevirtual 96, 3) := by decide +kernel
theorem dX6_laysRow_17 : decode cX6_laysRow 17 = .ok (.ifCond .eq 77, 3) := by decide +kernel
theorem dX6_laysRow_20 : decode cX6_laysRow 20 = .ok (.aload_n 0, 1) := by decide +kernel
theorem dX6_laysRow_21 : decode cX6_laysRow 21 = .ok (.getfield 93, 3) := by decide +kernel
theorem dX6_laysRow_24 : decode cX6_laysRow 24 = .ok (.istore_n 2, 1) := by decide +kernel
theorem dX6_laysRow_25 : decode cX6_laysRow 25 = .ok (.iload_n 2, 1) := by decide +kernel
theorem dX6_laysRow_26 : decode cX6_laysRow 26 = .ok (.ifCond .le 51, 3) := by decide +kernel
theorem dX6_laysRow_29 : decode cX6_laysRow 29 = .ok (.aload_n 0, 1) := by decide +kernel
theorem dX6_laysRow_30 : decode cX6_laysRow 30 = .ok (.getfield 7, 3) := by decide +kernel
theorem dX6_laysRow_33 : decode cX6_laysRow 33 = .ok (.bipush 40, 2) := by decide +kernel
theorem dX6_laysRow_35 : decode cX6_laysRow 35 = .ok (.aload_n 0, 1) := by decide +kernel
theorem dX6_laysRow_36 : decode cX6_laysRow 36 = .ok (.getfield 22, 3) := by decide +kernel
theorem dX6_laysRow_39 : decode cX6_laysRow 39 = .ok (.iload_n 2, 1) := by decide +kernel
theorem dX6_laysRow_40 : decode cX6_laysRow 40 = .ok (.iconst 1, 1) := by decide +kernel
theorem dX6_laysRow_41 : decode cX6_laysRow 41 = .ok (.isub, 1) := by decide +kernel
theorem dX6_laysRow_42 : decode cX6_laysRow 42 = .ok (.iaload, 1) := by decide +kernel
theorem dX6_laysRow_43 : decode cX6_laysRow 43 = .ok (.iadd, 1) := by decide +kernel
theorem dX6_laysRow_44 : decode cX6_laysRow 44 = .ok (.iaload, 1) := by decide +kernel
theorem dX6_laysRow_45 : decode cX6_laysRow 45 = .ok (.aload_n 0, 1) := by decide +kernel
theorem dX6_laysRow_46 : decode cX6_laysRow 46 = .ok (.getfield 7, 3) := by decide +kernel
theorem dX6_laysRow_49 : decode cX6_laysRow 49 = .ok (.bipush 40, 2) := by decide +kernel
theorem dX6_laysRow_51 : decode cX6_laysRow 51 = .ok (.iload_n 1, 1) := by decide +kernel
theorem dX6_laysRow_52 : decode cX6_laysRow 52 = .ok (.iadd, 1) := by decide +kernel
theorem dX6_laysRow_53 : decode cX6_laysRow 53 = .ok (.iaload, 1) := by decide +kernel
theorem dX6_laysRow_54 : decode cX6_laysRow 54 = .ok (.if_icmp .le 23, 3) := by decide +kernel
theorem dX6_laysRow_57 : decode cX6_laysRow 57 = .ok (.aload_n 0, 1) := by decide +kernel
theorem dX6_laysRow_58 : decode cX6_laysRow 58 = .ok (.getfield 22, 3) := by decide +kernel
theorem dX6_laysRow_61 : decode cX6_laysRow 61 = .ok (.iload_n 2, 1) := by decide +kernel
theorem dX6_laysRow_62 : decode cX6_laysRow 62 = .ok (.aload_n 0, 1) := by decide +kernel
theorem dX6_laysRow_63 : decode cX6_laysRow 63 = .ok (.getfield 22, 3) := by decide +kernel
theorem dX6_laysRow_66 : decode cX6_laysRow 66 = .ok (.iload_n 2, 1) := by decide +kernel
theorem dX6_laysRow_67 : decode cX6_laysRow 67 = .ok (.iconst 1, 1) := by decide +kernel
theorem dX6_laysRow_68 : decode cX6_laysRow 68 = .ok (.isub, 1) := by decide +kernel
theorem dX6_laysRow_69 : decode cX6_laysRow 69 = .ok (.iaload, 1) := by decide +kernel
theorem dX6_laysRow_70 : decode cX6_laysRow 70 = .ok (.iastore, 1) := by decide +kernel
theorem dX6_laysRow_71 : decode cX6_laysRow 71 = .ok (.iinc 2 (-1), 3) := by decide +kernel
theorem dX6_laysRow_74 : decode cX6_laysRow 74 = .ok (.goto (-49), 3) := by decide +kernel
theorem dX6_laysRow_77 : decode cX6_laysRow 77 = .ok (.aload_n 0, 1) := by decide +kernel
theorem dX6_laysRow_78 : decode cX6_laysRow 78 = .ok (.getfield 22, 3) := by decide +kernel
theorem dX6_laysRow_81 : decode cX6_laysRow 81 = .ok (.iload_n 2, 1) := by decide +kernel
theorem dX6_laysRow_82 : decode cX6_laysRow 82 = .ok (.iload_n 1, 1) := by decide +kernel
theorem dX6_laysRow_83 : decode cX6_laysRow 83 = .ok (.iastore, 1) := by decide +kernel
theorem dX6_laysRow_84 : decode cX6_laysRow 84 = .ok (.aload_n 0, 1) := by decide +kernel
theorem dX6_laysRow_85 : decode cX6_laysRow 85 = .ok (.dup, 1) := by decide +kernel
theorem dX6_laysRow_86 : decode cX6_laysRow 86 = .ok (.getfield 93, 3) := by decide +kernel
theorem dX6_laysRow_89 : decode cX6_laysRow 89 = .ok (.iconst 1, 1) := by decide +kernel
theorem dX6_laysRow_90 : decode cX6_laysRow 90 = .ok (.iadd, 1) := by decide +kernel
theorem dX6_laysRow_91 : decode cX6_laysRow 91 = .ok (.putfield 93, 3) := by decide +kernel
theorem dX6_laysRow_94 : decode cX6_laysRow 94 = .ok (.iinc 1 1, 3) := by decide +kernel
theorem dX6_laysRow_97 : decode cX6_laysRow 97 = .ok (.goto (-90), 3) := by decide +kernel
theorem dX6_laysRow_100 : decode cX6_laysRow 100 = .ok (.return_, 1) := by decide +kernel
theorem dX6_alone_0 : decode cX6_alone 0 = .ok (.iload_n 2, 1) := by decide +kernel
theorem dX6_alone_1 : decode cX6_alone 1 = .ok (.i2l, 1) := by decide +kernel
theorem dX6_alone_2 : decode cX6_alone 2 = .ok (.aload_n 0, 1) := by decide +kernel
theorem dX6_alone_3 : decode cX6_alone 3 = .ok (.getfield 7, 3) := by decide +kernel
theorem dX6_alone_6 : decode cX6_alone 6 = .ok (.bipush 43, 2) := by decide +kernel
theorem dX6_alone_8 : decode cX6_alone 8 = .ok (.iload_n 1, 1) := by decide +kernel
theorem dX6_alone_9 : decode cX6_alone 9 = .ok (.iadd, 1) := by decide +kernel
theorem dX6_alone_10 : decode cX6_alone 10 = .ok (.iaload, 1) := by decide +kernel
theorem dX6_alone_11 : decode cX6_alone 11 = .ok (.i2l, 1) := by decide +kernel
theorem dX6_alone_12 : decode cX6_alone 12 = .ok (.lmul, 1) := by decide +kernel
theorem dX6_alone_13 : decode cX6_alone 13 = .ok (.aload_n 0, 1) := by decide +kernel
theorem dX6_alone_14 : decode cX6_alone 14 = .ok (.getfield 7, 3) := by decide +kernel
theorem dX6_alone_17 : decode cX6_alone 17 = .ok (.bipush 40, 2) := by decide +kernel
theorem dX6_alone_19 : decode cX6_alone 19 = .ok (.iload_n 1, 1) := by decide +kernel
theorem dX6_alone_20 : decode cX6_alone 20 = .ok (.iadd, 1) := by decide +kernel
theorem dX6_alone_21 : decode cX6_alone 21 = .ok (.iaload, 1) := by decide +kernel
theorem dX6_alone_22 : decode cX6_alone 22 = .ok (.i2l, 1) := by decide +kernel
theorem dX6_alone_23 : decode cX6_alone 23 = .ok (.ldiv, 1) := by decide +kernel
theorem dX6_alone_24 : decode cX6_alone 24 = .ok (.lreturn, 1) := by decide +kernel
theorem dX6_down_0 : decode cX6_down 0 = .ok (.lload_n 0, 1) := by decide +kernel
theorem dX6_down_1 : decode cX6_down 1 = .ok (.lload_n 2, 1) := by decide +kernel
theorem dX6_down_2 : decode cX6_down 2 = .ok (.ldiv, 1) := by decide +kernel
theorem dX6_down_3 : decode cX6_down 3 = .ok (.lstore 4, 2) := by decide +kernel
theorem dX6_down_5 : decode cX6_down 5 = .ok (.lload 4, 2) := by decide +kernel
theorem dX6_down_7 : decode cX6_down 7 = .ok (.lload_n 2, 1) := by decide +kernel
theorem dX6_down_8 : decode cX6_down 8 = .ok (.lmul, 1) := by decide +kernel
theorem dX6_down_9 : decode cX6_down 9 = .ok (.lload_n 0, 1) := by decide +kernel
theorem dX6_down_10 : decode cX6_down 10 = .ok (.lcmp, 1) := by decide +kernel
theorem dX6_down_11 : decode cX6_down 11 = .ok (.ifCond .le 10, 3) := by decide +kernel
theorem dX6_down_14 : decode cX6_down 14 = .ok (.lload 4, 2) := by decide +kernel
theorem dX6_down_16 : decode cX6_down 16 = .ok (.lconst 1, 1) := by decide +kernel
theorem dX6_down_17 : decode cX6_down 17 = .ok (.lsub, 1) := by decide +kernel
theorem dX6_down_18 : decode cX6_down 18 = .ok (.goto 5, 3) := by decide +kernel
theorem dX6_down_21 : decode cX6_down 21 = .ok (.lload 4, 2) := by decide +kernel
theorem dX6_down_23 : decode cX6_down 23 = .ok (.lreturn, 1) := by decide +kernel
set_option maxRecDepth 20000 in
theorem ggX6_between_X6_down : GoodIn wsX6_between wsX6_down := goodIn_r _ [5] (by decide +kernel) (by decide +kernel)
set_option maxRecDepth 20000 in
theorem gX6_between_X6_down : GoodIn wsX6_between (va_wsS RX6 99 yX6_down wsX6_down) := goodIn_app (goodIn_of _ (by decide +kernel)) ggX6_between_X6_down
theorem dX6_between_0 : decode cX6_between 0 = .ok (.aload_n 0, 1) := by decide +kernel
theorem dX6_between_1 : decode cX6_between 1 = .ok (.getfield 7, 3) := by decide +kernel
theorem dX6_between_4 : decode cX6_between 4 = .ok (.bipush 40, 2) := by decide +kernel
theorem dX6_between_6 : decode cX6_between 6 = .ok (.iload_n 1, 1) := by decide +kernel
theorem dX6_between_7 : decode cX6_between 7 = .ok (.iadd, 1) := by decide +kernel
theorem dX6_between_8 : decode cX6_between 8 = .ok (.iaload, 1) := by decide +kernel
theorem dX6_between_9 : decode cX6_between 9 = .ok (.i2l, 1) := by decide +kernel
theorem dX6_between_10 : decode cX6_between 10 = .ok (.lstore 4, 2) := by decide +kernel
theorem dX6_between_12 : decode cX6_between 12 = .ok (.aload_n 0, 1) := by decide +kernel
theorem dX6_between_13 : decode cX6_between 13 = .ok (.getfield 7, 3) := by decide +kernel
theorem dX6_between_16 : decode cX6_between 16 = .ok (.bipush 40, 2) := by decide +kernel
theorem dX6_between_18 : decode cX6_between 18 = .ok (.iload_n 2, 1) := by decide +kernel
theorem dX6_between_19 : decode cX6_between 19 = .ok (.iadd, 1) := by decide +kernel
theorem dX6_between_20 : decode cX6_between 20 = .ok (.iaload, 1) := by decide +kernel
theorem dX6_between_21 : decode cX6_between 21 = .ok (.i2l, 1) := by decide +kernel
theorem dX6_between_22 : decode cX6_between 22 = .ok (.lstore 6, 2) := by decide +kernel
theorem dX6_between_24 : decode cX6_between 24 = .ok (.aload_n 0, 1) := by decide +kernel
theorem dX6_between_25 : decode cX6_between 25 = .ok (.getfield 7, 3) := by decide +kernel
theorem dX6_between_28 : decode cX6_between 28 = .ok (.bipush 43, 2) := by decide +kernel
theorem dX6_between_30 : decode cX6_between 30 = .ok (.iload_n 2, 1) := by decide +kernel
theorem dX6_between_31 : decode cX6_between 31 = .ok (.iadd, 1) := by decide +kernel
theorem dX6_between_32 : decode cX6_between 32 = .ok (.iaload, 1) := by decide +kernel
theorem dX6_between_33 : decode cX6_between 33 = .ok (.aload_n 0, 1) := by decide +kernel
theorem dX6_between_34 : decode cX6_between 34 = .ok (.getfield 7, 3) := by decide +kernel
theorem dX6_between_37 : decode cX6_between 37 = .ok (.bipush 43, 2) := by decide +kernel
theorem dX6_between_39 : decode cX6_between 39 = .ok (.iload_n 1, 1) := by decide +kernel
theorem dX6_between_40 : decode cX6_between 40 = .ok (.iadd, 1) := by decide +kernel
theorem dX6_between_41 : decode cX6_between 41 = .ok (.iaload, 1) := by decide +kernel
theorem dX6_between_42 : decode cX6_between 42 = .ok (.isub, 1) := by decide +kernel
theorem dX6_between_43 : decode cX6_between 43 = .ok (.i2l, 1) := by decide +kernel
theorem dX6_between_44 : decode cX6_between 44 = .ok (.lstore 8, 2) := by decide +kernel
theorem dX6_between_46 : decode cX6_between 46 = .ok (.aload_n 0, 1) := by decide +kernel
theorem dX6_between_47 : decode cX6_between 47 = .ok (.getfield 7, 3) := by decide +kernel
theorem dX6_between_50 : decode cX6_between 50 = .ok (.bipush 43, 2) := by decide +kernel
theorem dX6_between_52 : decode cX6_between 52 = .ok (.iload_n 1, 1) := by decide +kernel
theorem dX6_between_53 : decode cX6_between 53 = .ok (.iadd, 1) := by decide +kernel
theorem dX6_between_54 : decode cX6_between 54 = .ok (.iaload, 1) := by decide +kernel
theorem dX6_between_55 : decode cX6_between 55 = .ok (.i2l, 1) := by decide +kernel
theorem dX6_between_56 : decode cX6_between 56 = .ok (.iload_n 3, 1) := by decide +kernel
theorem dX6_between_57 : decode cX6_between 57 = .ok (.i2l, 1) := by decide +kernel
theorem dX6_between_58 : decode cX6_between 58 = .ok (.lload 4, 2) := by decide +kernel
theorem dX6_between_60 : decode cX6_between 60 = .ok (.lsub, 1) := by decide +kernel
theorem dX6_between_61 : decode cX6_between 61 = .ok (.lload 8, 2) := by decide +kernel
theorem dX6_between_63 : decode cX6_between 63 = .ok (.lmul, 1) := by decide +kernel
theorem dX6_between_64 : decode cX6_between 64 = .ok (.lload 6, 2) := by decide +kernel
theorem dX6_between_66 : decode cX6_between 66 = .ok (.lload 4, 2) := by decide +kernel
theorem dX6_between_68 : decode cX6_between 68 = .ok (.lsub, 1) := by decide +kernel
theorem dX6_between_69 : decode cX6_between 69 = .ok (.invokestatic 99, 3) := by decide +kernel
theorem dX6_between_72 : decode cX6_between 72 = .ok (.ladd, 1) := by decide +kernel
theorem dX6_between_73 : decode cX6_between 73 = .ok (.lreturn, 1) := by decide +kernel
set_option maxRecDepth 20000 in
theorem ggX6_mends_X6_laysRow : GoodIn wsX6_mends wsX6_laysRow := goodIn_r _ [10, 1, 3, 2, 11, 12, 13, 9, 14, 26, 27, 28, 29, 30, 31, 32, 33, 34, 35, 36, 37, 38] (by decide +kernel) (by decide +kernel)
set_option maxRecDepth 20000 in
theorem gX6_mends_X6_laysRow : GoodIn wsX6_mends (wsV RX6 103 RX6 yX6_laysRow wsX6_laysRow) := goodIn_app (goodIn_of _ (by decide +kernel)) ggX6_mends_X6_laysRow
set_option maxRecDepth 20000 in
theorem ggX6_mends_X6_alone : GoodIn wsX6_mends wsX6_alone := goodIn_r _ [18, 3, 26, 27, 28, 29, 30, 31, 32, 33, 34, 35, 36, 37, 38] (by decide +kernel) (by decide +kernel)
set_option maxRecDepth 20000 in
theorem gX6_mends_X6_alone : GoodIn wsX6_mends (wsV RX6 106 RX6 yX6_alone wsX6_alone) := goodIn_app (goodIn_of _ (by decide +kernel)) ggX6_mends_X6_alone
set_option maxRecDepth 20000 in
theorem ggX6_mends_X6_between : GoodIn wsX6_mends wsX6_between := goodIn_r _ [22, 3, 23, 24, 9, 25, 26, 27, 28, 29, 30, 31, 32, 33, 34, 35, 36, 37, 38] (by decide +kernel) (by decide +kernel)
set_option maxRecDepth 20000 in
theorem gX6_mends_X6_between : GoodIn wsX6_mends (wsV RX6 110 RX6 yX6_between wsX6_between) := goodIn_app (goodIn_of _ (by decide +kernel)) ggX6_mends_X6_between
theorem dX6_mends_0 : decode cX6_mends 0 = .ok (.aload_n 0, 1) := by decide +kernel
theorem dX6_mends_1 : decode cX6_mends 1 = .ok (.invokevirtual 103, 3) := by decide +kernel
theorem dX6_mends_4 : decode cX6_mends 4 = .ok (.aload_n 0, 1) := by decide +kernel
theorem dX6_mends_5 : decode cX6_mends 5 = .ok (.getfield 93, 3) := by decide +kernel
theorem dX6_mends_8 : decode cX6_mends 8 = .ok (.ifCond .ne 5, 3) := by decide +kernel
theorem dX6_mends_11 : decode cX6_mends 11 = .ok (.iconst (-1), 1) := by decide +kernel
theorem dX6_mends_12 : decode cX6_mends 12 = .ok (.ireturn, 1) := by decide +kernel
theorem dX6_mends_13 : decode cX6_mends 13 = .ok (.aload_n 0, 1) := by decide +kernel
theorem dX6_mends_14 : decode cX6_mends 14 = .ok (.getfield 22, 3) := by decide +kernel
theorem dX6_mends_17 : decode cX6_mends 17 = .ok (.aload_n 0, 1) := by decide +kernel
theorem dX6_mends_18 : decode cX6_mends 18 = .ok (.getfield 93, 3) := by decide +kernel
theorem dX6_mends_21 : decode cX6_mends 21 = .ok (.iconst 1, 1) := by decide +kernel
theorem dX6_mends_22 : decode cX6_mends 22 = .ok (.isub, 1) := by decide +kernel
theorem dX6_mends_23 : decode cX6_mends 23 = .ok (.iaload, 1) := by decide +kernel
theorem dX6_mends_24 : decode cX6_mends 24 = .ok (.istore_n 2, 1) := by decide +kernel
theorem dX6_mends_25 : decode cX6_mends 25 = .ok (.iload_n 1, 1) := by decide +kernel
theorem dX6_mends_26 : decode cX6_mends 26 = .ok (.aload_n 0, 1) := by decide +kernel
theorem dX6_mends_27 : decode cX6_mends 27 = .ok (.getfield 7, 3) := by decide +kernel
theorem dX6_mends_30 : decode cX6_mends 30 = .ok (.bipush 40, 2) := by decide +kernel
theorem dX6_mends_32 : decode cX6_mends 32 = .ok (.aload_n 0, 1) := by decide +kernel
theorem dX6_mends_33 : decode cX6_mends 33 = .ok (.getfield 22, 3) := by decide +kernel
theorem dX6_mends_36 : decode cX6_mends 36 = .ok (.iconst 0, 1) := by decide +kernel
theorem dX6_mends_37 : decode cX6_mends 37 = .ok (.iaload, 1) := by decide +kernel
theorem dX6_mends_38 : decode cX6_mends 38 = .ok (.iadd, 1) := by decide +kernel
theorem dX6_mends_39 : decode cX6_mends 39 = .ok (.iaload, 1) := by decide +kernel
theorem dX6_mends_40 : decode cX6_mends 40 = .ok (.if_icmp .lt 11, 3) := by decide +kernel
theorem dX6_mends_43 : decode cX6_mends 43 = .ok (.aload_n 0, 1) := by decide +kernel
theorem dX6_mends_44 : decode cX6_mends 44 = .ok (.getfield 93, 3) := by decide +kernel
theorem dX6_mends_47 : decode cX6_mends 47 = .ok (.iconst 1, 1) := by decide +kernel
theorem dX6_mends_48 : decode cX6_mends 48 = .ok (.if_icmp .ne 18, 3) := by decide +kernel
theorem dX6_mends_51 : decode cX6_mends 51 = .ok (.aload_n 0, 1) := by decide +kernel
theorem dX6_mends_52 : decode cX6_mends 52 = .ok (.aload_n 0, 1) := by decide +kernel
theorem dX6_mends_53 : decode cX6_mends 53 = .ok (.getfield 22, 3) := by decide +kernel
theorem dX6_mends_56 : decode cX6_mends 56 = .ok (.iconst 0, 1) := by decide +kernel
theorem dX6_mends_57 : decode cX6_mends 57 = .ok (.iaload, 1) := by decide +kernel
theorem dX6_mends_58 : decode cX6_mends 58 = .ok (.iload_n 1, 1) := by decide +kernel
theorem dX6_mends_59 : decode cX6_mends 59 = .ok (.invokevirtual 106, 3) := by decide +kernel
theorem dX6_mends_62 : decode cX6_mends 62 = .ok (.lstore_n 3, 1) := by decide +kernel
theorem dX6_mends_63 : decode cX6_mends 63 = .ok (.goto 76, 3) := by decide +kernel
theorem dX6_mends_66 : decode cX6_mends 66 = .ok (.iload_n 1, 1) := by decide +kernel
theorem dX6_mends_67 : decode cX6_mends 67 = .ok (.aload_n 0, 1) := by decide +kernel
theorem dX6_mends_68 : decode cX6_mends 68 = .ok (.getfield 7, 3) := by decide +kernel
theorem dX6_mends_71 : decode cX6_mends 71 = .ok (.bipush 40, 2) := by decide +kernel
theorem dX6_mends_73 : decode cX6_mends 73 = .ok (.iload_n 2, 1) := by decide +kernel
theorem dX6_mends_74 : decode cX6_mends 74 = .ok (.iadd, 1) := by decide +kernel
theorem dX6_mends_75 : decode cX6_mends 75 = .ok (.iaload, 1) := by decide +kernel
theorem dX6_mends_76 : decode cX6_mends 76 = .ok (.if_icmp .le 13, 3) := by decide +kernel
theorem dX6_mends_79 : decode cX6_mends 79 = .ok (.aload_n 0, 1) := by decide +kernel
theorem dX6_mends_80 : decode cX6_mends 80 = .ok (.iload_n 2, 1) := by decide +kernel
theorem dX6_mends_81 : decode cX6_mends 81 = .ok (.iload_n 1, 1) := by decide +kernel
theorem dX6_mends_82 : decode cX6_mends 82 = .ok (.invokevirtual 106, 3) := by decide +kernel
theorem dX6_mends_85 : decode cX6_mends 85 = .ok (.lstore_n 3, 1) := by decide +kernel
theorem dX6_mends_86 : decode cX6_mends 86 = .ok (.goto 53, 3) := by decide +kernel
theorem dX6_mends_89 : decode cX6_mends 89 = .ok (.iconst 1, 1) := by decide +kernel
theorem dX6_mends_90 : decode cX6_mends 90 = .ok (.istore 5, 2) := by decide +kernel
theorem dX6_mends_92 : decode cX6_mends 92 = .ok (.iload_n 1, 1) := by decide +kernel
theorem dX6_mends_93 : decode cX6_mends 93 = .ok (.aload_n 0, 1) := by decide +kernel
theorem dX6_mends_94 : decode cX6_mends 94 = .ok (.getfield 7, 3) := by decide +kernel
theorem dX6_mends_97 : decode cX6_mends 97 = .ok (.bipush 40, 2) := by decide +kernel
theorem dX6_mends_99 : decode cX6_mends 99 = .ok (.aload_n 0, 1) := by decide +kernel
theorem dX6_mends_100 : decode cX6_mends 100 = .ok (.getfield 22, 3) := by decide +kernel
theorem dX6_mends_103 : decode cX6_mends 103 = .ok (.iload 5, 2) := by decide +kernel
theorem dX6_mends_105 : decode cX6_mends 105 = .ok (.iaload, 1) := by decide +kernel
theorem dX6_mends_106 : decode cX6_mends 106 = .ok (.iadd, 1) := by decide +kernel
theorem dX6_mends_107 : decode cX6_mends 107 = .ok (.iaload, 1) := by decide +kernel
theorem dX6_mends_108 : decode cX6_mends 108 = .ok (.if_icmp .le 9, 3) := by decide +kernel
theorem dX6_mends_111 : decode cX6_mends 111 = .ok (.iinc 5 1, 3) := by decide +kernel
theorem dX6_mends_114 : decode cX6_mends 114 = .ok (.goto (-22), 3) := by decide +kernel
theorem dX6_mends_117 : decode cX6_mends 117 = .ok (.aload_n 0, 1) := by decide +kernel
theorem dX6_mends_118 : decode cX6_mends 118 = .ok (.aload_n 0, 1) := by decide +kernel
theorem dX6_mends_119 : decode cX6_mends 119 = .ok (.getfield 22, 3) := by decide +kernel
theorem dX6_mends_122 : decode cX6_mends 122 = .ok (.iload 5, 2) := by decide +kernel
theorem dX6_mends_124 : decode cX6_mends 124 = .ok (.iconst 1, 1) := by decide +kernel
theorem dX6_mends_125 : decode cX6_mends 125 = .ok (.isub, 1) := by decide +kernel
theorem dX6_mends_126 : decode cX6_mends 126 = .ok (.iaload, 1) := by decide +kernel
theorem dX6_mends_127 : decode cX6_mends 127 = .ok (.aload_n 0, 1) := by decide +kernel
theorem dX6_mends_128 : decode cX6_mends 128 = .ok (.getfield 22, 3) := by decide +kernel
theorem dX6_mends_131 : decode cX6_mends 131 = .ok (.iload 5, 2) := by decide +kernel
theorem dX6_mends_133 : decode cX6_mends 133 = .ok (.iaload, 1) := by decide +kernel
theorem dX6_mends_134 : decode cX6_mends 134 = .ok (.iload_n 1, 1) := by decide +kernel
theorem dX6_mends_135 : decode cX6_mends 135 = .ok (.invokevirtual 110, 3) := by decide +kernel
theorem dX6_mends_138 : decode cX6_mends 138 = .ok (.lstore_n 3, 1) := by decide +kernel
theorem dX6_mends_139 : decode cX6_mends 139 = .ok (.lload_n 3, 1) := by decide +kernel
theorem dX6_mends_140 : decode cX6_mends 140 = .ok (.ldc2_w 114, 3) := by decide +kernel
theorem dX6_mends_143 : decode cX6_mends 143 = .ok (.lcmp, 1) := by decide +kernel
theorem dX6_mends_144 : decode cX6_mends 144 = .ok (.ifCond .le 8, 3) := by decide +kernel
theorem dX6_mends_147 : decode cX6_mends 147 = .ok (.ldc 116, 2) := by decide +kernel
theorem dX6_mends_149 : decode cX6_mends 149 = .ok (.goto 5, 3) := by decide +kernel
theorem dX6_mends_152 : decode cX6_mends 152 = .ok (.lload_n 3, 1) := by decide +kernel
theorem dX6_mends_153 : decode cX6_mends 153 = .ok (.l2i, 1) := by decide +kernel
theorem dX6_mends_154 : decode cX6_mends 154 = .ok (.ireturn, 1) := by decide +kernel
set_option maxRecDepth 20000 in
theorem ggX6_mended_X6_in : GoodIn wsX6_mended wsX6_in := goodIn_r _ [7] (by decide +kernel) (by decide +kernel)
set_option maxRecDepth 20000 in
theorem gX6_mended_X6_in : GoodIn wsX6_mended (va_wsS RX6 65 yX6_in wsX6_in) := goodIn_app (goodIn_of _ (by decide +kernel)) ggX6_mended_X6_in
set_option maxRecDepth 20000 in
theorem ggX6_mended_X6_mends : GoodIn wsX6_mended wsX6_mends := goodIn_r _ [11, 12, 13, 14, 15, 16, 17, 18, 19, 6, 20, 21, 22, 23, 24, 25, 26, 27, 28, 29, 30, 31, 32, 33, 34, 35, 36, 37, 38, 39, 40, 41, 42, 43, 44, 45, 46, 47, 48] (by decide +kernel) (by decide +kernel)
set_option maxRecDepth 20000 in
theorem gX6_mended_X6_mends : GoodIn wsX6_mended (wsV RX6 46 RX6 yX6_mends wsX6_mends) := goodIn_app (goodIn_of _ (by decide +kernel)) ggX6_mended_X6_mends
theorem dX6_mended_0 : decode cX6_mended 0 = .ok (.iload_n 1, 1) := by decide +kernel
theorem dX6_mended_1 : decode cX6_mended 1 = .ok (.iconst 0, 1) := by decide +kernel
theorem dX6_mended_2 : decode cX6_mended 2 = .ok (.ldc 80, 2) := by decide +kernel
theorem dX6_mended_4 : decode cX6_mended 4 = .ok (.invokestatic 65, 3) := by decide +kernel
theorem dX6_mended_7 : decode cX6_mended 7 = .ok (.ifCond .ne 6, 3) := by decide +kernel
theorem dX6_mended_10 : decode cX6_mended 10 = .ok (.ldc 69, 2) := by decide +kernel
theorem dX6_mended_12 : decode cX6_mended 12 = .ok (.ireturn, 1) := by decide +kernel
theorem dX6_mended_13 : decode cX6_mended 13 = .ok (.aload_n 0, 1) := by decide +kernel
theorem dX6_mended_14 : decode cX6_mended 14 = .ok (.iload_n 1, 1) := by decide +kernel
theorem dX6_mended_15 : decode cX6_mended 15 = .ok (.invokevirtual 46, 3) := by decide +kernel
theorem dX6_mended_18 : decode cX6_mended 18 = .ok (.istore_n 2, 1) := by decide +kernel
theorem dX6_mended_19 : decode cX6_mended 19 = .ok (.iload_n 2, 1) := by decide +kernel
theorem dX6_mended_20 : decode cX6_mended 20 = .ok (.iconst (-1), 1) := by decide +kernel
theorem dX6_mended_21 : decode cX6_mended 21 = .ok (.if_icmp .ne 8, 3) := by decide +kernel
theorem dX6_mended_24 : decode cX6_mended 24 = .ok (.ldc 117, 2) := by decide +kernel
theorem dX6_mended_26 : decode cX6_mended 26 = .ok (.goto 4, 3) := by decide +kernel
theorem dX6_mended_29 : decode cX6_mended 29 = .ok (.iload_n 2, 1) := by decide +kernel
theorem dX6_mended_30 : decode cX6_mended 30 = .ok (.ireturn, 1) := by decide +kernel
set_option maxRecDepth 20000 in
theorem ggX6_pairOf_X6_in : GoodIn wsX6_pairOf wsX6_in := goodIn_r _ [7] (by decide +kernel) (by decide +kernel)
set_option maxRecDepth 20000 in
theorem gX6_pairOf_X6_in : GoodIn wsX6_pairOf (va_wsS RX6 65 yX6_in wsX6_in) := goodIn_app (goodIn_of _ (by decide +kernel)) ggX6_pairOf_X6_in
theorem dX6_pairOf_0 : decode cX6_pairOf 0 = .ok (.iload_n 1, 1) := by decide +kernel
theorem dX6_pairOf_1 : decode cX6_pairOf 1 = .ok (.iconst 0, 1) := by decide +kernel
theorem dX6_pairOf_2 : decode cX6_pairOf 2 = .ok (.iconst 2, 1) := by decide +kernel
theorem dX6_pairOf_3 : decode cX6_pairOf 3 = .ok (.invokestatic 65, 3) := by decide +kernel
theorem dX6_pairOf_6 : decode cX6_pairOf 6 = .ok (.ifCond .eq 12, 3) := by decide +kernel
theorem dX6_pairOf_9 : decode cX6_pairOf 9 = .ok (.iload_n 2, 1) := by decide +kernel
theorem dX6_pairOf_10 : decode cX6_pairOf 10 = .ok (.iconst 0, 1) := by decide +kernel
theorem dX6_pairOf_11 : decode cX6_pairOf 11 = .ok (.iconst 1, 1) := by decide +kernel
theorem dX6_pairOf_12 : decode cX6_pairOf 12 = .ok (.invokestatic 65, 3) := by decide +kernel
theorem dX6_pairOf_15 : decode cX6_pairOf 15 = .ok (.ifCond .ne 6, 3) := by decide +kernel
theorem dX6_pairOf_18 : decode cX6_pairOf 18 = .ok (.ldc 69, 2) := by decide +kernel
theorem dX6_pairOf_20 : decode cX6_pairOf 20 = .ok (.ireturn, 1) := by decide +kernel
theorem dX6_pairOf_21 : decode cX6_pairOf 21 = .ok (.aload_n 0, 1) := by decide +kernel
theorem dX6_pairOf_22 : decode cX6_pairOf 22 = .ok (.getfield 7, 3) := by decide +kernel
theorem dX6_pairOf_25 : decode cX6_pairOf 25 = .ok (.bipush 40, 2) := by decide +kernel
theorem dX6_pairOf_27 : decode cX6_pairOf 27 = .ok (.iload_n 1, 1) := by decide +kernel
theorem dX6_pairOf_28 : decode cX6_pairOf 28 = .ok (.iadd, 1) := by decide +kernel
theorem dX6_pairOf_29 : decode cX6_pairOf 29 = .ok (.iaload, 1) := by decide +kernel
theorem dX6_pairOf_30 : decode cX6_pairOf 30 = .ok (.iconst (-1), 1) := by decide +kernel
theorem dX6_pairOf_31 : decode cX6_pairOf 31 = .ok (.if_icmp .ne 8, 3) := by decide +kernel
theorem dX6_pairOf_34 : decode cX6_pairOf 34 = .ok (.ldc 117, 2) := by decide +kernel
theorem dX6_pairOf_36 : decode cX6_pairOf 36 = .ok (.goto 21, 3) := by decide +kernel
theorem dX6_pairOf_39 : decode cX6_pairOf 39 = .ok (.aload_n 0, 1) := by decide +kernel
theorem dX6_pairOf_40 : decode cX6_pairOf 40 = .ok (.getfield 7, 3) := by decide +kernel
theorem dX6_pairOf_43 : decode cX6_pairOf 43 = .ok (.iload_n 2, 1) := by decide +kernel
theorem dX6_pairOf_44 : decode cX6_pairOf 44 = .ok (.ifCond .ne 8, 3) := by decide +kernel
theorem dX6_pairOf_47 : decode cX6_pairOf 47 = .ok (.bipush 40, 2) := by decide +kernel
theorem dX6_pairOf_49 : decode cX6_pairOf 49 = .ok (.goto 5, 3) := by decide +kernel
theorem dX6_pairOf_52 : decode cX6_pairOf 52 = .ok (.bipush 43, 2) := by decide +kernel
theorem dX6_pairOf_54 : decode cX6_pairOf 54 = .ok (.iload_n 1, 1) := by decide +kernel
theorem dX6_pairOf_55 : decode cX6_pairOf 55 = .ok (.iadd, 1) := by decide +kernel
theorem dX6_pairOf_56 : decode cX6_pairOf 56 = .ok (.iaload, 1) := by decide +kernel
theorem dX6_pairOf_57 : decode cX6_pairOf 57 = .ok (.ireturn, 1) := by decide +kernel
set_option maxRecDepth 20000 in
theorem ggX6_stageOf_X6_isStage : GoodIn wsX6_stageOf wsX6_isStage := goodIn_r _ [7, 2, 8, 9, 6, 10, 20, 21, 22, 23, 24, 25, 26, 27, 28, 29, 30, 31, 32] (by decide +kernel) (by decide +kernel)
set_option maxRecDepth 20000 in
theorem gX6_stageOf_X6_isStage : GoodIn wsX6_stageOf (wsV RX6 73 RX6 yX6_isStage wsX6_isStage) := goodIn_app (goodIn_of _ (by decide +kernel)) ggX6_stageOf_X6_isStage
set_option maxRecDepth 20000 in
theorem ggX6_stageOf_X6_staying : GoodIn wsX6_stageOf wsX6_staying := goodIn_r _ [13] (by decide +kernel) (by decide +kernel)
set_option maxRecDepth 20000 in
theorem gX6_stageOf_X6_staying : GoodIn wsX6_stageOf (va_wsS RX6 36 yX6_staying wsX6_staying) := goodIn_app (goodIn_of _ (by decide +kernel)) ggX6_stageOf_X6_staying
set_option maxRecDepth 20000 in
theorem ggX6_stageOf_X6_leaking : GoodIn wsX6_stageOf wsX6_leaking := goodIn_r _ [16, 11, 12, 6, 13] (by decide +kernel) (by decide +kernel)
set_option maxRecDepth 20000 in
theorem gX6_stageOf_X6_leaking : GoodIn wsX6_stageOf (va_wsS RX6 40 yX6_leaking wsX6_leaking) := goodIn_app (goodIn_of _ (by decide +kernel)) ggX6_stageOf_X6_leaking
set_option maxRecDepth 20000 in
theorem ggX6_stageOf_X6_moving : GoodIn wsX6_stageOf wsX6_moving := goodIn_r _ [19, 11, 12, 6, 13, 14, 15, 16] (by decide +kernel) (by decide +kernel)
set_option maxRecDepth 20000 in
theorem gX6_stageOf_X6_moving : GoodIn wsX6_stageOf (va_wsS RX6 43 yX6_moving wsX6_moving) := goodIn_app (goodIn_of _ (by decide +kernel)) ggX6_stageOf_X6_moving
theorem dX6_stageOf_0 : decode cX6_stageOf 0 = .ok (.aload_n 0, 1) := by decide +kernel
theorem dX6_stageOf_1 : decode cX6_stageOf 1 = .ok (.iload_n 1, 1) := by decide +kernel
theorem dX6_stageOf_2 : decode cX6_stageOf 2 = .ok (.invokevirtual 73, 3) := by decide +kernel
theorem dX6_stageOf_5 : decode cX6_stageOf 5 = .ok (.ifCond .ne 6, 3) := by decide +kernel
theorem dX6_stageOf_8 : decode cX6_stageOf 8 = .ok (.ldc 69, 2) := by decide +kernel
theorem dX6_stageOf_10 : decode cX6_stageOf 10 = .ok (.ireturn, 1) := by decide +kernel
theorem dX6_stageOf_11 : decode cX6_stageOf 11 = .ok (.iload_n 2, 1) := by decide +kernel
theorem dX6_stageOf_12 : decode cX6_stageOf 12 = .ok (.tableswitch 97 0 5 #[40, 50, 60, 70, 79, 88], 40) := by decide +kernel
theorem dX6_stageOf_52 : decode cX6_stageOf 52 = .ok (.aload_n 0, 1) := by decide +kernel
theorem dX6_stageOf_53 : decode cX6_stageOf 53 = .ok (.getfield 7, 3) := by decide +kernel
theorem dX6_stageOf_56 : decode cX6_stageOf 56 = .ok (.bipush 10, 2) := by decide +kernel
theorem dX6_stageOf_58 : decode cX6_stageOf 58 = .ok (.iload_n 1, 1) := by decide +kernel
theorem dX6_stageOf_59 : decode cX6_stageOf 59 = .ok (.iadd, 1) := by decide +kernel
theorem dX6_stageOf_60 : decode cX6_stageOf 60 = .ok (.iaload, 1) := by decide +kernel
theorem dX6_stageOf_61 : decode cX6_stageOf 61 = .ok (.ireturn, 1) := by decide +kernel
theorem dX6_stageOf_62 : decode cX6_stageOf 62 = .ok (.aload_n 0, 1) := by decide +kernel
theorem dX6_stageOf_63 : decode cX6_stageOf 63 = .ok (.getfield 7, 3) := by decide +kernel
theorem dX6_stageOf_66 : decode cX6_stageOf 66 = .ok (.bipush 20, 2) := by decide +kernel
theorem dX6_stageOf_68 : decode cX6_stageOf 68 = .ok (.iload_n 1, 1) := by decide +kernel
theorem dX6_stageOf_69 : decode cX6_stageOf 69 = .ok (.iadd, 1) := by decide +kernel
theorem dX6_stageOf_70 : decode cX6_stageOf 70 = .ok (.iaload, 1) := by decide +kernel
theorem dX6_stageOf_71 : decode cX6_stageOf 71 = .ok (.ireturn, 1) := by decide +kernel
theorem dX6_stageOf_72 : decode cX6_stageOf 72 = .ok (.aload_n 0, 1) := by decide +kernel
theorem dX6_stageOf_73 : decode cX6_stageOf 73 = .ok (.getfield 7, 3) := by decide +kernel
theorem dX6_stageOf_76 : decode cX6_stageOf 76 = .ok (.bipush 30, 2) := by decide +kernel
theorem dX6_stageOf_78 : decode cX6_stageOf 78 = .ok (.iload_n 1, 1) := by decide +kernel
theorem dX6_stageOf_79 : decode cX6_stageOf 79 = .ok (.iadd, 1) := by decide +kernel
theorem dX6_stageOf_80 : decode cX6_stageOf 80 = .ok (.iaload, 1) := by decide +kernel
theorem dX6_stageOf_81 : decode cX6_stageOf 81 = .ok (.ireturn, 1) := by decide +kernel
theorem dX6_stageOf_82 : decode cX6_stageOf 82 = .ok (.aload_n 0, 1) := by decide +kernel
theorem dX6_stageOf_83 : decode cX6_stageOf 83 = .ok (.getfield 7, 3) := by decide +kernel
theorem dX6_stageOf_86 : decode cX6_stageOf 86 = .ok (.iload_n 1, 1) := by decide +kernel
theorem dX6_stageOf_87 : decode cX6_stageOf 87 = .ok (.invokestatic 36, 3) := by decide +kernel
theorem dX6_stageOf_90 : decode cX6_stageOf 90 = .ok (.ireturn, 1) := by decide +kernel
theorem dX6_stageOf_91 : decode cX6_stageOf 91 = .ok (.aload_n 0, 1) := by decide +kernel
theorem dX6_stageOf_92 : decode cX6_stageOf 92 = .ok (.getfield 7, 3) := by decide +kernel
theorem dX6_stageOf_95 : decode cX6_stageOf 95 = .ok (.iload_n 1, 1) := by decide +kernel
theorem dX6_stageOf_96 : decode cX6_stageOf 96 = .ok (.invokestatic 40, 3) := by decide +kernel
theorem dX6_stageOf_99 : decode cX6_stageOf 99 = .ok (.ireturn, 1) := by decide +kernel
theorem dX6_stageOf_100 : decode cX6_stageOf 100 = .ok (.aload_n 0, 1) := by decide +kernel
theorem dX6_stageOf_101 : decode cX6_stageOf 101 = .ok (.getfield 7, 3) := by decide +kernel
theorem dX6_stageOf_104 : decode cX6_stageOf 104 = .ok (.iload_n 1, 1) := by decide +kernel
theorem dX6_stageOf_105 : decode cX6_stageOf 105 = .ok (.invokestatic 43, 3) := by decide +kernel
theorem dX6_stageOf_108 : decode cX6_stageOf 108 = .ok (.ireturn, 1) := by decide +kernel
theorem dX6_stageOf_109 : decode cX6_stageOf 109 = .ok (.ldc 69, 2) := by decide +kernel
theorem dX6_stageOf_111 : decode cX6_stageOf 111 = .ok (.ireturn, 1) := by decide +kernel
theorem dX6_of_0 : decode cX6_of 0 = .ok (.aload_n 0, 1) := by decide +kernel
theorem dX6_of_1 : decode cX6_of 1 = .ok (.getfield 7, 3) := by decide +kernel
theorem dX6_of_4 : decode cX6_of 4 = .ok (.bipush 82, 2) := by decide +kernel
theorem dX6_of_6 : decode cX6_of 6 = .ok (.iconst 5, 1) := by decide +kernel
theorem dX6_of_7 : decode cX6_of 7 = .ok (.iload_n 1, 1) := by decide +kernel
theorem dX6_of_8 : decode cX6_of 8 = .ok (.imul, 1) := by decide +kernel
theorem dX6_of_9 : decode cX6_of 9 = .ok (.iadd, 1) := by decide +kernel
theorem dX6_of_10 : decode cX6_of 10 = .ok (.iload_n 2, 1) := by decide +kernel
theorem dX6_of_11 : decode cX6_of 11 = .ok (.iadd, 1) := by decide +kernel
theorem dX6_of_12 : decode cX6_of 12 = .ok (.iaload, 1) := by decide +kernel
theorem dX6_of_13 : decode cX6_of 13 = .ok (.ireturn, 1) := by decide +kernel
set_option maxRecDepth 20000 in
theorem ggX6_error_X6_of : GoodIn wsX6_error wsX6_of := goodIn_r _ [5, 6, 7, 8, 9, 10, 11, 12, 13, 14, 15, 16, 17, 18, 19] (by decide +kernel) (by decide +kernel)
set_option maxRecDepth 20000 in
theorem gX6_error_X6_of : GoodIn wsX6_error (wsV RX6 118 RX6 yX6_of wsX6_of) := goodIn_app (goodIn_of _ (by decide +kernel)) ggX6_error_X6_of
theorem dX6_error_0 : decode cX6_error 0 = .ok (.aload_n 0, 1) := by decide +kernel
theorem dX6_error_1 : decode cX6_error 1 = .ok (.iload_n 1, 1) := by decide +kernel
theorem dX6_error_2 : decode cX6_error 2 = .ok (.iconst 3, 1) := by decide +kernel
theorem dX6_error_3 : decode cX6_error 3 = .ok (.invokevirtual 118, 3) := by decide +kernel
theorem dX6_error_6 : decode cX6_error 6 = .ok (.iconst (-1), 1) := by decide +kernel
theorem dX6_error_7 : decode cX6_error 7 = .ok (.if_icmp .ne 12, 3) := by decide +kernel
theorem dX6_error_10 : decode cX6_error 10 = .ok (.aload_n 0, 1) := by decide +kernel
theorem dX6_error_11 : decode cX6_error 11 = .ok (.iload_n 1, 1) := by decide +kernel
theorem dX6_error_12 : decode cX6_error 12 = .ok (.iconst 2, 1) := by decide +kernel
theorem dX6_error_13 : decode cX6_error 13 = .ok (.invokevirtual 118, 3) := by decide +kernel
theorem dX6_error_16 : decode cX6_error 16 = .ok (.goto 9, 3) := by decide +kernel
theorem dX6_error_19 : decode cX6_error 19 = .ok (.aload_n 0, 1) := by decide +kernel
theorem dX6_error_20 : decode cX6_error 20 = .ok (.iload_n 1, 1) := by decide +kernel
theorem dX6_error_21 : decode cX6_error 21 = .ok (.iconst 3, 1) := by decide +kernel
theorem dX6_error_22 : decode cX6_error 22 = .ok (.invokevirtual 118, 3) := by decide +kernel
theorem dX6_error_25 : decode cX6_error 25 = .ok (.aload_n 0, 1) := by decide +kernel
theorem dX6_error_26 : decode cX6_error 26 = .ok (.iload_n 1, 1) := by decide +kernel
theorem dX6_error_27 : decode cX6_error 27 = .ok (.iconst 1, 1) := by decide +kernel
theorem dX6_error_28 : decode cX6_error 28 = .ok (.invokevirtual 118, 3) := by decide +kernel
theorem dX6_error_31 : decode cX6_error 31 = .ok (.isub, 1) := by decide +kernel
theorem dX6_error_32 : decode cX6_error 32 = .ok (.ireturn, 1) := by decide +kernel
set_option maxRecDepth 20000 in
theorem ggX6_outputOf_X6_in : GoodIn wsX6_outputOf wsX6_in := goodIn_r _ [7] (by decide +kernel) (by decide +kernel)
set_option maxRecDepth 20000 in
theorem gX6_outputOf_X6_in : GoodIn wsX6_outputOf (va_wsS RX6 65 yX6_in wsX6_in) := goodIn_app (goodIn_of _ (by decide +kernel)) ggX6_outputOf_X6_in
set_option maxRecDepth 20000 in
theorem ggX6_outputOf_X6_error : GoodIn wsX6_outputOf wsX6_error := goodIn_r _ [11, 12, 13, 14, 6, 15, 2, 16, 17, 18, 19, 20, 21, 22, 23, 24, 25, 26, 27, 28] (by decide +kernel) (by decide +kernel)
set_option maxRecDepth 20000 in
theorem gX6_outputOf_X6_error : GoodIn wsX6_outputOf (wsV RX6 122 RX6 yX6_error wsX6_error) := goodIn_app (goodIn_of _ (by decide +kernel)) ggX6_outputOf_X6_error
set_option maxRecDepth 20000 in
theorem ggX6_outputOf_X6_of : GoodIn wsX6_outputOf wsX6_of := goodIn_r _ [15, 2, 16, 17, 18, 19, 20, 21, 22, 23, 24, 25, 26, 27, 28] (by decide +kernel) (by decide +kernel)
set_option maxRecDepth 20000 in
theorem gX6_outputOf_X6_of : GoodIn wsX6_outputOf (wsV RX6 118 RX6 yX6_of wsX6_of) := goodIn_app (goodIn_of _ (by decide +kernel)) ggX6_outputOf_X6_of
theorem dX6_outputOf_0 : decode cX6_outputOf 0 = .ok (.iload_n 1, 1) := by decide +kernel
theorem dX6_outputOf_1 : decode cX6_outputOf 1 = .ok (.ifCond .lt 12, 3) := by decide +kernel
theorem dX6_outputOf_4 : decode cX6_outputOf 4 = .ok (.iload_n 2, 1) := by decide +kernel
theorem dX6_outputOf_5 : decode cX6_outputOf 5 = .ok (.iconst 0, 1) := by decide +kernel
theorem dX6_outputOf_6 : decode cX6_outputOf 6 = .ok (.iconst 5, 1) := by decide +kernel
theorem dX6_outputOf_7 : decode cX6_outputOf 7 = .ok (.invokestatic 65, 3) := by decide +kernel
theorem dX6_outputOf_10 : decode cX6_outputOf 10 = .ok (.ifCond .ne 6, 3) := by decide +kernel
theorem dX6_outputOf_13 : decode cX6_outputOf 13 = .ok (.ldc 69, 2) := by decide +kernel
theorem dX6_outputOf_15 : decode cX6_outputOf 15 = .ok (.ireturn, 1) := by decide +kernel
theorem dX6_outputOf_16 : decode cX6_outputOf 16 = .ok (.iload_n 1, 1) := by decide +kernel
theorem dX6_outputOf_17 : decode cX6_outputOf 17 = .ok (.aload_n 0, 1) := by decide +kernel
theorem dX6_outputOf_18 : decode cX6_outputOf 18 = .ok (.getfield 7, 3) := by decide +kernel
theorem dX6_outputOf_21 : decode cX6_outputOf 21 = .ok (.iconst 4, 1) := by decide +kernel
theorem dX6_outputOf_22 : decode cX6_outputOf 22 = .ok (.iaload, 1) := by decide +kernel
theorem dX6_outputOf_23 : decode cX6_outputOf 23 = .ok (.if_icmp .lt 6, 3) := by decide +kernel
theorem dX6_outputOf_26 : decode cX6_outputOf 26 = .ok (.ldc 117, 2) := by decide +kernel
theorem dX6_outputOf_28 : decode cX6_outputOf 28 = .ok (.ireturn, 1) := by decide +kernel
theorem dX6_outputOf_29 : decode cX6_outputOf 29 = .ok (.aload_n 0, 1) := by decide +kernel
theorem dX6_outputOf_30 : decode cX6_outputOf 30 = .ok (.getfield 7, 3) := by decide +kernel
theorem dX6_outputOf_33 : decode cX6_outputOf 33 = .ok (.iconst 4, 1) := by decide +kernel
theorem dX6_outputOf_34 : decode cX6_outputOf 34 = .ok (.iaload, 1) := by decide +kernel
theorem dX6_outputOf_35 : decode cX6_outputOf 35 = .ok (.iconst 1, 1) := by decide +kernel
theorem dX6_outputOf_36 : decode cX6_outputOf 36 = .ok (.isub, 1) := by decide +kernel
theorem dX6_outputOf_37 : decode cX6_outputOf 37 = .ok (.iload_n 1, 1) := by decide +kernel
theorem dX6_outputOf_38 : decode cX6_outputOf 38 = .ok (.isub, 1) := by decide +kernel
theorem dX6_outputOf_39 : decode cX6_outputOf 39 = .ok (.istore_n 3, 1) := by decide +kernel
theorem dX6_outputOf_40 : decode cX6_outputOf 40 = .ok (.iload_n 2, 1) := by decide +kernel
theorem dX6_outputOf_41 : decode cX6_outputOf 41 = .ok (.iconst 5, 1) := by decide +kernel
theorem dX6_outputOf_42 : decode cX6_outputOf 42 = .ok (.if_icmp .ne 11, 3) := by decide +kernel
theorem dX6_outputOf_45 : decode cX6_outputOf 45 = .ok (.aload_n 0, 1) := by decide +kernel
theorem dX6_outputOf_46 : decode cX6_outputOf 46 = .ok (.iload_n 3, 1) := by decide +kernel
theorem dX6_outputOf_47 : decode cX6_outputOf 47 = .ok (.invokevirtual 122, 3) := by decide +kernel
theorem dX6_outputOf_50 : decode cX6_outputOf 50 = .ok (.goto 29, 3) := by decide +kernel
theorem dX6_outputOf_53 : decode cX6_outputOf 53 = .ok (.iload_n 2, 1) := by decide +kernel
theorem dX6_outputOf_54 : decode cX6_outputOf 54 = .ok (.iconst 3, 1) := by decide +kernel
theorem dX6_outputOf_55 : decode cX6_outputOf 55 = .ok (.if_icmp .ne 18, 3) := by decide +kernel
theorem dX6_outputOf_58 : decode cX6_outputOf 58 = .ok (.aload_n 0, 1) := by decide +kernel
theorem dX6_outputOf_59 : decode cX6_outputOf 59 = .ok (.iload_n 3, 1) := by decide +kernel
theorem dX6_outputOf_60 : decode cX6_outputOf 60 = .ok (.iconst 3, 1) := by decide +kernel
theorem dX6_outputOf_61 : decode cX6_outputOf 61 = .ok (.invokevirtual 118, 3) := by decide +kernel
theorem dX6_outputOf_64 : decode cX6_outputOf 64 = .ok (.iconst (-1), 1) := by decide +kernel
theorem dX6_outputOf_65 : decode cX6_outputOf 65 = .ok (.if_icmp .ne 8, 3) := by decide +kernel
theorem dX6_outputOf_68 : decode cX6_outputOf 68 = .ok (.ldc 117, 2) := by decide +kernel
theorem dX6_outputOf_70 : decode cX6_outputOf 70 = .ok (.goto 9, 3) := by decide +kernel
theorem dX6_outputOf_73 : decode cX6_outputOf 73 = .ok (.aload_n 0, 1) := by decide +kernel
theorem dX6_outputOf_74 : decode cX6_outputOf 74 = .ok (.iload_n 3, 1) := by decide +kernel
theorem dX6_outputOf_75 : decode cX6_outputOf 75 = .ok (.iload_n 2, 1) := by decide +kernel
theorem dX6_outputOf_76 : decode cX6_outputOf 76 = .ok (.invokevirtual 118, 3) := by decide +kernel
theorem dX6_outputOf_79 : decode cX6_outputOf 79 = .ok (.ireturn, 1) := by decide +kernel
theorem dX6_size_0 : decode cX6_size 0 = .ok (.iload_n 0, 1) := by decide +kernel
theorem dX6_size_1 : decode cX6_size 1 = .ok (.ifCond .ge 8, 3) := by decide +kernel
theorem dX6_size_4 : decode cX6_size 4 = .ok (.iload_n 0, 1) := by decide +kernel
theorem dX6_size_5 : decode cX6_size 5 = .ok (.ineg, 1) := by decide +kernel
theorem dX6_size_6 : decode cX6_size 6 = .ok (.goto 4, 3) := by decide +kernel
theorem dX6_size_9 : decode cX6_size 9 = .ok (.iload_n 0, 1) := by decide +kernel
theorem dX6_size_10 : decode cX6_size 10 = .ok (.ireturn, 1) := by decide +kernel
set_option maxRecDepth 20000 in
theorem ggX6_errors_X6_in : GoodIn wsX6_errors wsX6_in := goodIn_r _ [8] (by decide +kernel) (by decide +kernel)
set_option maxRecDepth 20000 in
theorem gX6_errors_X6_in : GoodIn wsX6_errors (va_wsS RX6 65 yX6_in wsX6_in) := goodIn_app (goodIn_of _ (by decide +kernel)) ggX6_errors_X6_in
set_option maxRecDepth 20000 in
theorem ggX6_errors_X6_of : GoodIn wsX6_errors wsX6_of := goodIn_r _ [12, 2, 32, 33, 34, 35, 36, 37, 38, 39, 40, 41, 42, 43, 44] (by decide +kernel) (by decide +kernel)
set_option maxRecDepth 20000 in
theorem gX6_errors_X6_of : GoodIn wsX6_errors (wsV RX6 118 RX6 yX6_of wsX6_of) := goodIn_app (goodIn_of _ (by decide +kernel)) ggX6_errors_X6_of
set_option maxRecDepth 20000 in
theorem ggX6_errors_X6_error : GoodIn wsX6_errors wsX6_error := goodIn_r _ [16, 9, 10, 11, 7, 12, 2, 32, 33, 34, 35, 36, 37, 38, 39, 40, 41, 42, 43, 44] (by decide +kernel) (by decide +kernel)
set_option maxRecDepth 20000 in
theorem gX6_errors_X6_error : GoodIn wsX6_errors (wsV RX6 122 RX6 yX6_error wsX6_error) := goodIn_app (goodIn_of _ (by decide +kernel)) ggX6_errors_X6_error
set_option maxRecDepth 20000 in
theorem ggX6_errors_X6_size : GoodIn wsX6_errors wsX6_size := goodIn_r _ [19] (by decide +kernel) (by decide +kernel)
set_option maxRecDepth 20000 in
theorem gX6_errors_X6_size : GoodIn wsX6_errors (va_wsS RX6 125 yX6_size wsX6_size) := goodIn_app (goodIn_of _ (by decide +kernel)) ggX6_errors_X6_size
set_option maxRecDepth 20000 in
theorem ggX6_errors_Jxf58ca_floatToIntBits_5c35a : GoodIn wsX6_errors wsJxf58ca_floatToIntBits_5c35a := goodIn_r _ [23, 24, 25, 26, 27, 28, 29, 30, 22, 31] (by decide +kernel) (by decide +kernel)
set_option maxRecDepth 20000 in
theorem gX6_errors_Jxf58ca_floatToIntBits_5c35a : GoodIn wsX6_errors (va_wsS RX6 129 yJxf58ca_floatToIntBits_5c35a wsJxf58ca_floatToIntBits_5c35a) := goodIn_app (goodIn_of _ (by decide +kernel)) ggX6_errors_Jxf58ca_floatToIntBits_5c35a
theorem dX6_errors_0 : decode cX6_errors 0 = .ok (.iload_n 1, 1) := by decide +kernel
theorem dX6_errors_1 : decode cX6_errors 1 = .ok (.iconst 0, 1) := by decide +kernel
theorem dX6_errors_2 : decode cX6_errors 2 = .ok (.iconst 3, 1) := by decide +kernel
theorem dX6_errors_3 : decode cX6_errors 3 = .ok (.invokestatic 65, 3) := by decide +kernel
theorem dX6_errors_6 : decode cX6_errors 6 = .ok (.ifCond .ne 6, 3) := by decide +kernel
theorem dX6_errors_9 : decode cX6_errors 9 = .ok (.ldc 69, 2) := by decide +kernel
theorem dX6_errors_11 : decode cX6_errors 11 = .ok (.ireturn, 1) := by decide +kernel
theorem dX6_errors_12 : decode cX6_errors 12 = .ok (.iconst 0, 1) := by decide +kernel
theorem dX6_errors_13 : decode cX6_errors 13 = .ok (.istore_n 2, 1) := by decide +kernel
theorem dX6_errors_14 : decode cX6_errors 14 = .ok (.iconst 0, 1) := by decide +kernel
theorem dX6_errors_15 : decode cX6_errors 15 = .ok (.istore_n 3, 1) := by decide +kernel
theorem dX6_errors_16 : decode cX6_errors 16 = .ok (.iconst 0, 1) := by decide +kernel
theorem dX6_errors_17 : decode cX6_errors 17 = .ok (.istore 4, 2) := by decide +kernel
theorem dX6_errors_19 : decode cX6_errors 19 = .ok (.iconst 0, 1) := by decide +kernel
theorem dX6_errors_20 : decode cX6_errors 20 = .ok (.istore 5, 2) := by decide +kernel
theorem dX6_errors_22 : decode cX6_errors 22 = .ok (.iconst 0, 1) := by decide +kernel
theorem dX6_errors_23 : decode cX6_errors 23 = .ok (.istore 6, 2) := by decide +kernel
theorem dX6_errors_25 : decode cX6_errors 25 = .ok (.iload 6, 2) := by decide +kernel
theorem dX6_errors_27 : decode cX6_errors 27 = .ok (.aload_n 0, 1) := by decide +kernel
theorem dX6_errors_28 : decode cX6_errors 28 = .ok (.getfield 7, 3) := by decide +kernel
theorem dX6_errors_31 : decode cX6_errors 31 = .ok (.iconst 4, 1) := by decide +kernel
theorem dX6_errors_32 : decode cX6_errors 32 = .ok (.iaload, 1) := by decide +kernel
theorem dX6_errors_33 : decode cX6_errors 33 = .ok (.if_icmp .ge 74, 3) := by decide +kernel
theorem dX6_errors_36 : decode cX6_errors 36 = .ok (.aload_n 0, 1) := by decide +kernel
theorem dX6_errors_37 : decode cX6_errors 37 = .ok (.iload 6, 2) := by decide +kernel
theorem dX6_errors_39 : decode cX6_errors 39 = .ok (.iconst 4, 1) := by decide +kernel
theorem dX6_errors_40 : decode cX6_errors 40 = .ok (.invokevirtual 118, 3) := by decide +kernel
theorem dX6_errors_43 : decode cX6_errors 43 = .ok (.ifCond .ne 58, 3) := by decide +kernel
theorem dX6_errors_46 : decode cX6_errors 46 = .ok (.iinc 2 1, 3) := by decide +kernel
theorem dX6_errors_49 : decode cX6_errors 49 = .ok (.iload 4, 2) := by decide +kernel
theorem dX6_errors_51 : decode cX6_errors 51 = .ok (.aload_n 0, 1) := by decide +kernel
theorem dX6_errors_52 : decode cX6_errors 52 = .ok (.iload 6, 2) := by decide +kernel
theorem dX6_errors_54 : decode cX6_errors 54 = .ok (.invokevirtual 122, 3) := by decide +kernel
theorem dX6_errors_57 : decode cX6_errors 57 = .ok (.iadd, 1) := by decide +kernel
theorem dX6_errors_58 : decode cX6_errors 58 = .ok (.istore 4, 2) := by decide +kernel
theorem dX6_errors_60 : decode cX6_errors 60 = .ok (.iload 5, 2) := by decide +kernel
theorem dX6_errors_62 : decode cX6_errors 62 = .ok (.aload_n 0, 1) := by decide +kernel
theorem dX6_errors_63 : decode cX6_errors 63 = .ok (.iload 6, 2) := by decide +kernel
theorem dX6_errors_65 : decode cX6_errors 65 = .ok (.invokevirtual 122, 3) := by decide +kernel
theorem dX6_errors_68 : decode cX6_errors 68 = .ok (.invokestatic 125, 3) := by decide +kernel
theorem dX6_errors_71 : decode cX6_errors 71 = .ok (.iadd, 1) := by decide +kernel
theorem dX6_errors_72 : decode cX6_errors 72 = .ok (.istore 5, 2) := by decide +kernel
theorem dX6_errors_74 : decode cX6_errors 74 = .ok (.aload_n 0, 1) := by decide +kernel
theorem dX6_errors_75 : decode cX6_errors 75 = .ok (.iload 6, 2) := by decide +kernel
theorem dX6_errors_77 : decode cX6_errors 77 = .ok (.invokevirtual 122, 3) := by decide +kernel
theorem dX6_errors_80 : decode cX6_errors 80 = .ok (.invokestatic 125, 3) := by decide +kernel
theorem dX6_errors_83 : decode cX6_errors 83 = .ok (.iload_n 3, 1) := by decide +kernel
theorem dX6_errors_84 : decode cX6_errors 84 = .ok (.if_icmp .le 15, 3) := by decide +kernel
theorem dX6_errors_87 : decode cX6_errors 87 = .ok (.aload_n 0, 1) := by decide +kernel
theorem dX6_errors_88 : decode cX6_errors 88 = .ok (.iload 6, 2) := by decide +kernel
theorem dX6_errors_90 : decode cX6_errors 90 = .ok (.invokevirtual 122, 3) := by decide +kernel
theorem dX6_errors_93 : decode cX6_errors 93 = .ok (.invokestatic 125, 3) := by decide +kernel
theorem dX6_errors_96 : decode cX6_errors 96 = .ok (.goto 4, 3) := by decide +kernel
theorem dX6_errors_99 : decode cX6_errors 99 = .ok (.iload_n 3, 1) := by decide +kernel
theorem dX6_errors_100 : decode cX6_errors 100 = .ok (.istore_n 3, 1) := by decide +kernel
theorem dX6_errors_101 : decode cX6_errors 101 = .ok (.iinc 6 1, 3) := by decide +kernel
theorem dX6_errors_104 : decode cX6_errors 104 = .ok (.goto (-79), 3) := by decide +kernel
theorem dX6_errors_107 : decode cX6_errors 107 = .ok (.iload_n 1, 1) := by decide +kernel
theorem dX6_errors_108 : decode cX6_errors 108 = .ok (.ifCond .ne 5, 3) := by decide +kernel
theorem dX6_errors_111 : decode cX6_errors 111 = .ok (.iload_n 2, 1) := by decide +kernel
theorem dX6_errors_112 : decode cX6_errors 112 = .ok (.ireturn, 1) := by decide +kernel
theorem dX6_errors_113 : decode cX6_errors 113 = .ok (.iload_n 2, 1) := by decide +kernel
theorem dX6_errors_114 : decode cX6_errors 114 = .ok (.ifCond .ne 6, 3) := by decide +kernel
theorem dX6_errors_117 : decode cX6_errors 117 = .ok (.ldc 117, 2) := by decide +kernel
theorem dX6_errors_119 : decode cX6_errors 119 = .ok (.ireturn, 1) := by decide +kernel
theorem dX6_errors_120 : decode cX6_errors 120 = .ok (.iload_n 1, 1) := by decide +kernel
theorem dX6_errors_121 : decode cX6_errors 121 = .ok (.iconst 1, 1) := by decide +kernel
theorem dX6_errors_122 : decode cX6_errors 122 = .ok (.if_icmp .ne 7, 3) := by decide +kernel
theorem dX6_errors_125 : decode cX6_errors 125 = .ok (.iload_n 3, 1) := by decide +kernel
theorem dX6_errors_126 : decode cX6_errors 126 = .ok (.goto 25, 3) := by decide +kernel
theorem dX6_errors_129 : decode cX6_errors 129 = .ok (.iload_n 1, 1) := by decide +kernel
theorem dX6_errors_130 : decode cX6_errors 130 = .ok (.iconst 2, 1) := by decide +kernel
theorem dX6_errors_131 : decode cX6_errors 131 = .ok (.if_icmp .ne 11, 3) := by decide +kernel
theorem dX6_errors_134 : decode cX6_errors 134 = .ok (.iload 4, 2) := by decide +kernel
theorem dX6_errors_136 : decode cX6_errors 136 = .ok (.ldc 128, 2) := by decide +kernel
theorem dX6_errors_138 : decode cX6_errors 138 = .ok (.iadd, 1) := by decide +kernel
theorem dX6_errors_139 : decode cX6_errors 139 = .ok (.goto 12, 3) := by decide +kernel
theorem dX6_errors_142 : decode cX6_errors 142 = .ok (.iload 5, 2) := by decide +kernel
theorem dX6_errors_144 : decode cX6_errors 144 = .ok (.i2f, 1) := by decide +kernel
theorem dX6_errors_145 : decode cX6_errors 145 = .ok (.iload_n 2, 1) := by decide +kernel
theorem dX6_errors_146 : decode cX6_errors 146 = .ok (.i2f, 1) := by decide +kernel
theorem dX6_errors_147 : decode cX6_errors 147 = .ok (.fdiv, 1) := by decide +kernel
theorem dX6_errors_148 : decode cX6_errors 148 = .ok (.invokestatic 129, 3) := by decide +kernel
theorem dX6_errors_151 : decode cX6_errors 151 = .ok (.ireturn, 1) := by decide +kernel
theorem dX6_inStages_0 : decode cX6_inStages 0 = .ok (.iconst 0, 1) := by decide +kernel
theorem dX6_inStages_1 : decode cX6_inStages 1 = .ok (.istore_n 1, 1) := by decide +kernel
theorem dX6_inStages_2 : decode cX6_inStages 2 = .ok (.iconst 0, 1) := by decide +kernel
theorem dX6_inStages_3 : decode cX6_inStages 3 = .ok (.istore_n 2, 1) := by decide +kernel
theorem dX6_inStages_4 : decode cX6_inStages 4 = .ok (.iload_n 2, 1) := by decide +kernel
theorem dX6_inStages_5 : decode cX6_inStages 5 = .ok (.aload_n 0, 1) := by decide +kernel
theorem dX6_inStages_6 : decode cX6_inStages 6 = .ok (.iconst 0, 1) := by decide +kernel
theorem dX6_inStages_7 : decode cX6_inStages 7 = .ok (.iaload, 1) := by decide +kernel
theorem dX6_inStages_8 : decode cX6_inStages 8 = .ok (.if_icmp .ge 18, 3) := by decide +kernel
theorem dX6_inStages_11 : decode cX6_inStages 11 = .ok (.iload_n 1, 1) := by decide +kernel
theorem dX6_inStages_12 : decode cX6_inStages 12 = .ok (.aload_n 0, 1) := by decide +kernel
theorem dX6_inStages_13 : decode cX6_inStages 13 = .ok (.bipush 10, 2) := by decide +kernel
theorem dX6_inStages_15 : decode cX6_inStages 15 = .ok (.iload_n 2, 1) := by decide +kernel
theorem dX6_inStages_16 : decode cX6_inStages 16 = .ok (.iadd, 1) := by decide +kernel
theorem dX6_inStages_17 : decode cX6_inStages 17 = .ok (.iaload, 1) := by decide +kernel
theorem dX6_inStages_18 : decode cX6_inStages 18 = .ok (.iadd, 1) := by decide +kernel
theorem dX6_inStages_19 : decode cX6_inStages 19 = .ok (.istore_n 1, 1) := by decide +kernel
theorem dX6_inStages_20 : decode cX6_inStages 20 = .ok (.iinc 2 1, 3) := by decide +kernel
theorem dX6_inStages_23 : decode cX6_inStages 23 = .ok (.goto (-19), 3) := by decide +kernel
theorem dX6_inStages_26 : decode cX6_inStages 26 = .ok (.iload_n 1, 1) := by decide +kernel
theorem dX6_inStages_27 : decode cX6_inStages 27 = .ok (.ireturn, 1) := by decide +kernel
set_option maxRecDepth 20000 in
theorem ggX6_account_X6_in : GoodIn wsX6_account wsX6_in := goodIn_r _ [6] (by decide +kernel) (by decide +kernel)
set_option maxRecDepth 20000 in
theorem gX6_account_X6_in : GoodIn wsX6_account (va_wsS RX6 65 yX6_in wsX6_in) := goodIn_app (goodIn_of _ (by decide +kernel)) ggX6_account_X6_in
set_option maxRecDepth 20000 in
theorem ggX6_account_X6_inStages : GoodIn wsX6_account wsX6_inStages := goodIn_r _ [9] (by decide +kernel) (by decide +kernel)
set_option maxRecDepth 20000 in
theorem gX6_account_X6_inStages : GoodIn wsX6_account (va_wsS RX6 135 yX6_inStages wsX6_inStages) := goodIn_app (goodIn_of _ (by decide +kernel)) ggX6_account_X6_inStages
theorem dX6_account_0 : decode cX6_account 0 = .ok (.iload_n 1, 1) := by decide +kernel
theorem dX6_account_1 : decode cX6_account 1 = .ok (.iconst 0, 1) := by decide +kernel
theorem dX6_account_2 : decode cX6_account 2 = .ok (.iconst 4, 1) := by decide +kernel
theorem dX6_account_3 : decode cX6_account 3 = .ok (.invokestatic 65, 3) := by decide +kernel
theorem dX6_account_6 : decode cX6_account 6 = .ok (.ifCond .ne 6, 3) := by decide +kernel
theorem dX6_account_9 : decode cX6_account 9 = .ok (.ldc 69, 2) := by decide +kernel
theorem dX6_account_11 : decode cX6_account 11 = .ok (.ireturn, 1) := by decide +kernel
theorem dX6_account_12 : decode cX6_account 12 = .ok (.iload_n 1, 1) := by decide +kernel
theorem dX6_account_13 : decode cX6_account 13 = .ok (.iconst 4, 1) := by decide +kernel
theorem dX6_account_14 : decode cX6_account 14 = .ok (.if_icmp .ge 15, 3) := by decide +kernel
theorem dX6_account_17 : decode cX6_account 17 = .ok (.aload_n 0, 1) := by decide +kernel
theorem dX6_account_18 : decode cX6_account 18 = .ok (.getfield 7, 3) := by decide +kernel
theorem dX6_account_21 : decode cX6_account 21 = .ok (.bipush 46, 2) := by decide +kernel
theorem dX6_account_23 : decode cX6_account 23 = .ok (.iload_n 1, 1) := by decide +kernel
theorem dX6_account_24 : decode cX6_account 24 = .ok (.iadd, 1) := by decide +kernel
theorem dX6_account_25 : decode cX6_account 25 = .ok (.iaload, 1) := by decide +kernel
theorem dX6_account_26 : decode cX6_account 26 = .ok (.goto 10, 3) := by decide +kernel
theorem dX6_account_29 : decode cX6_account 29 = .ok (.aload_n 0, 1) := by decide +kernel
theorem dX6_account_30 : decode cX6_account 30 = .ok (.getfield 7, 3) := by decide +kernel
theorem dX6_account_33 : decode cX6_account 33 = .ok (.invokestatic 135, 3) := by decide +kernel
theorem dX6_account_36 : decode cX6_account 36 = .ok (.ireturn, 1) := by decide +kernel
theorem dX6_tries_0 : decode cX6_tries 0 = .ok (.iconst 0, 1) := by decide +kernel
theorem dX6_tries_1 : decode cX6_tries 1 = .ok (.istore_n 2, 1) := by decide +kernel
theorem dX6_tries_2 : decode cX6_tries 2 = .ok (.iload_n 2, 1) := by decide +kernel
theorem dX6_tries_3 : decode cX6_tries 3 = .ok (.sipush 162, 3) := by decide +kernel
theorem dX6_tries_6 : decode cX6_tries 6 = .ok (.if_icmp .ge 21, 3) := by decide +kernel
theorem dX6_tries_9 : decode cX6_tries 9 = .ok (.aload_n 0, 1) := by decide +kernel
theorem dX6_tries_10 : decode cX6_tries 10 = .ok (.getfield 13, 3) := by decide +kernel
theorem dX6_tries_13 : decode cX6_tries 13 = .ok (.iload_n 2, 1) := by decide +kernel
theorem dX6_tries_14 : decode cX6_tries 14 = .ok (.aload_n 0, 1) := by decide +kernel
theorem dX6_tries_15 : decode cX6_tries 15 = .ok (.getfield 7, 3) := by decide +kernel
theorem dX6_tries_18 : decode cX6_tries 18 = .ok (.iload_n 2, 1) := by decide +kernel
theorem dX6_tries_19 : decode cX6_tries 19 = .ok (.iaload, 1) := by decide +kernel
theorem dX6_tries_20 : decode cX6_tries 20 = .ok (.iastore, 1) := by decide +kernel
theorem dX6_tries_21 : decode cX6_tries 21 = .ok (.iinc 2 1, 3) := by decide +kernel
theorem dX6_tries_24 : decode cX6_tries 24 = .ok (.goto (-22), 3) := by decide +kernel
theorem dX6_tries_27 : decode cX6_tries 27 = .ok (.aload_n 0, 1) := by decide +kernel
theorem dX6_tries_28 : decode cX6_tries 28 = .ok (.getfield 13, 3) := by decide +kernel
theorem dX6_tries_31 : decode cX6_tries 31 = .ok (.bipush 49, 2) := by decide +kernel
theorem dX6_tries_33 : decode cX6_tries 33 = .ok (.iconst 0, 1) := by decide +kernel
theorem dX6_tries_34 : decode cX6_tries 34 = .ok (.iastore, 1) := by decide +kernel
theorem dX6_tries_35 : decode cX6_tries 35 = .ok (.iconst 0, 1) := by decide +kernel
theorem dX6_tries_36 : decode cX6_tries 36 = .ok (.istore_n 2, 1) := by decide +kernel
theorem dX6_tries_37 : decode cX6_tries 37 = .ok (.iload_n 2, 1) := by decide +kernel
theorem dX6_tries_38 : decode cX6_tries 38 = .ok (.aload_n 0, 1) := by decide +kernel
theorem dX6_tries_39 : decode cX6_tries 39 = .ok (.getfield 7, 3) := by decide +kernel
theorem dX6_tries_42 : decode cX6_tries 42 = .ok (.iconst 0, 1) := by decide +kernel
theorem dX6_tries_43 : decode cX6_tries 43 = .ok (.iaload, 1) := by decide +kernel
theorem dX6_tries_44 : decode cX6_tries 44 = .ok (.if_icmp .ge 23, 3) := by decide +kernel
theorem dX6_tries_47 : decode cX6_tries 47 = .ok (.iload_n 1, 1) := by decide +kernel
theorem dX6_tries_48 : decode cX6_tries 48 = .ok (.ifCond .eq 19, 3) := by decide +kernel
theorem dX6_tries_51 : decode cX6_tries 51 = .ok (.aload_n 0, 1) := by decide +kernel
theorem dX6_tries_52 : decode cX6_tries 52 = .ok (.getfield 13, 3) := by decide +kernel
theorem dX6_tries_55 : decode cX6_tries 55 = .ok (.bipush 10, 2) := by decide +kernel
theorem dX6_tries_57 : decode cX6_tries 57 = .ok (.iload_n 2, 1) := by decide +kernel
theorem dX6_tries_58 : decode cX6_tries 58 = .ok (.iadd, 1) := by decide +kernel
theorem dX6_tries_59 : decode cX6_tries 59 = .ok (.iconst 0, 1) := by decide +kernel
theorem dX6_tries_60 : decode cX6_tries 60 = .ok (.iastore, 1) := by decide +kernel
theorem dX6_tries_61 : decode cX6_tries 61 = .ok (.iinc 2 1, 3) := by decide +kernel
theorem dX6_tries_64 : decode cX6_tries 64 = .ok (.goto (-27), 3) := by decide +kernel
theorem dX6_tries_67 : decode cX6_tries 67 = .ok (.return_, 1) := by decide +kernel
set_option maxRecDepth 20000 in
theorem ggX6_echoes_X6_handsOver : GoodIn wsX6_echoes wsX6_handsOver := goodIn_r _ [5, 6, 7, 4, 8, 9, 10, 11, 12, 13, 14] (by decide +kernel) (by decide +kernel)
set_option maxRecDepth 20000 in
theorem gX6_echoes_X6_handsOver : GoodIn wsX6_echoes (va_wsS RX6 50 yX6_handsOver wsX6_handsOver) := goodIn_app (goodIn_of _ (by decide +kernel)) ggX6_echoes_X6_handsOver
theorem dX6_echoes_0 : decode cX6_echoes 0 = .ok (.aload_n 0, 1) := by decide +kernel
theorem dX6_echoes_1 : decode cX6_echoes 1 = .ok (.getfield 13, 3) := by decide +kernel
theorem dX6_echoes_4 : decode cX6_echoes 4 = .ok (.iload_n 1, 1) := by decide +kernel
theorem dX6_echoes_5 : decode cX6_echoes 5 = .ok (.invokestatic 50, 3) := by decide +kernel
theorem dX6_echoes_8 : decode cX6_echoes 8 = .ok (.istore_n 3, 1) := by decide +kernel
theorem dX6_echoes_9 : decode cX6_echoes 9 = .ok (.iconst 0, 1) := by decide +kernel
theorem dX6_echoes_10 : decode cX6_echoes 10 = .ok (.istore 4, 2) := by decide +kernel
theorem dX6_echoes_12 : decode cX6_echoes 12 = .ok (.iload 4, 2) := by decide +kernel
theorem dX6_echoes_14 : decode cX6_echoes 14 = .ok (.iload_n 2, 1) := by decide +kernel
theorem dX6_echoes_15 : decode cX6_echoes 15 = .ok (.if_icmp .ge 18, 3) := by decide +kernel
theorem dX6_echoes_18 : decode cX6_echoes 18 = .ok (.aload_n 0, 1) := by decide +kernel
theorem dX6_echoes_19 : decode cX6_echoes 19 = .ok (.getfield 13, 3) := by decide +kernel
theorem dX6_echoes_22 : decode cX6_echoes 22 = .ok (.iconst 0, 1) := by decide +kernel
theorem dX6_echoes_23 : decode cX6_echoes 23 = .ok (.invokestatic 50, 3) := by decide +kernel
theorem dX6_echoes_26 : decode cX6_echoes 26 = .ok (.istore_n 3, 1) := by decide +kernel
theorem dX6_echoes_27 : decode cX6_echoes 27 = .ok (.iinc 4 1, 3) := by decide +kernel
theorem dX6_echoes_30 : decode cX6_echoes 30 = .ok (.goto (-18), 3) := by decide +kernel
theorem dX6_echoes_33 : decode cX6_echoes 33 = .ok (.iload_n 3, 1) := by decide +kernel
theorem dX6_echoes_34 : decode cX6_echoes 34 = .ok (.ireturn, 1) := by decide +kernel
set_option maxRecDepth 20000 in
theorem ggX6_echo_X6_in : GoodIn wsX6_echo wsX6_in := goodIn_r _ [5] (by decide +kernel) (by decide +kernel)
set_option maxRecDepth 20000 in
theorem gX6_echo_X6_in : GoodIn wsX6_echo (va_wsS RX6 65 yX6_in wsX6_in) := goodIn_app (goodIn_of _ (by decide +kernel)) ggX6_echo_X6_in
set_option maxRecDepth 20000 in
theorem ggX6_echo_X6_tries : GoodIn wsX6_echo wsX6_tries := goodIn_r _ [9, 10, 11, 28, 29, 30, 31, 32, 33, 34, 35, 36, 37, 38, 39, 40] (by decide +kernel) (by decide +kernel)
set_option maxRecDepth 20000 in
theorem gX6_echo_X6_tries : GoodIn wsX6_echo (wsV RX6 139 RX6 yX6_tries wsX6_tries) := goodIn_app (goodIn_of _ (by decide +kernel)) ggX6_echo_X6_tries
set_option maxRecDepth 20000 in
theorem ggX6_echo_X6_echoes : GoodIn wsX6_echo wsX6_echoes := goodIn_r _ [15, 10, 16, 17, 4, 18, 19, 20, 21, 22, 23, 24, 25, 26, 27, 28, 29, 30, 31, 32, 33, 34, 35, 36, 37, 38, 39, 40] (by decide +kernel) (by decide +kernel)
set_option maxRecDepth 20000 in
theorem gX6_echo_X6_echoes : GoodIn wsX6_echo (wsV RX6 143 RX6 yX6_echoes wsX6_echoes) := goodIn_app (goodIn_of _ (by decide +kernel)) ggX6_echo_X6_echoes
theorem dX6_echo_0 : decode cX6_echo 0 = .ok (.iload_n 1, 1) := by decide +kernel
theorem dX6_echo_1 : decode cX6_echo 1 = .ok (.iconst 0, 1) := by decide +kernel
theorem dX6_echo_2 : decode cX6_echo 2 = .ok (.sipush 10000, 3) := by decide +kernel
theorem dX6_echo_5 : decode cX6_echo 5 = .ok (.invokestatic 65, 3) := by decide +kernel
theorem dX6_echo_8 : decode cX6_echo 8 = .ok (.ifCond .eq 13, 3) := by decide +kernel
theorem dX6_echo_11 : decode cX6_echo 11 = .ok (.iload_n 2, 1) := by decide +kernel
theorem dX6_echo_12 : decode cX6_echo 12 = .ok (.iconst 1, 1) := by decide +kernel
theorem dX6_echo_13 : decode cX6_echo 13 = .ok (.bipush 40, 2) := by decide +kernel
theorem dX6_echo_15 : decode cX6_echo 15 = .ok (.invokestatic 65, 3) := by decide +kernel
theorem dX6_echo_18 : decode cX6_echo 18 = .ok (.ifCond .ne 6, 3) := by decide +kernel
theorem dX6_echo_21 : decode cX6_echo 21 = .ok (.ldc 69, 2) := by decide +kernel
theorem dX6_echo_23 : decode cX6_echo 23 = .ok (.ireturn, 1) := by decide +kernel
theorem dX6_echo_24 : decode cX6_echo 24 = .ok (.aload_n 0, 1) := by decide +kernel
theorem dX6_echo_25 : decode cX6_echo 25 = .ok (.iconst 1, 1) := by decide +kernel
theorem dX6_echo_26 : decode cX6_echo 26 = .ok (.invokevirtual 139, 3) := by decide +kernel
theorem dX6_echo_29 : decode cX6_echo 29 = .ok (.aload_n 0, 1) := by decide +kernel
theorem dX6_echo_30 : decode cX6_echo 30 = .ok (.iload_n 1, 1) := by decide +kernel
theorem dX6_echo_31 : decode cX6_echo 31 = .ok (.iload_n 2, 1) := by decide +kernel
theorem dX6_echo_32 : decode cX6_echo 32 = .ok (.invokevirtual 143, 3) := by decide +kernel
theorem dX6_echo_35 : decode cX6_echo 35 = .ok (.ireturn, 1) := by decide +kernel
set_option maxRecDepth 20000 in
theorem ggX6_emptyAfter_X6_tries : GoodIn wsX6_emptyAfter wsX6_tries := goodIn_r _ [7, 1, 8, 24, 25, 26, 27, 28, 29, 30, 31, 32, 33, 34, 35, 36] (by decide +kernel) (by decide +kernel)
set_option maxRecDepth 20000 in
theorem gX6_emptyAfter_X6_tries : GoodIn wsX6_emptyAfter (wsV RX6 139 RX6 yX6_tries wsX6_tries) := goodIn_app (goodIn_of _ (by decide +kernel)) ggX6_emptyAfter_X6_tries
set_option maxRecDepth 20000 in
theorem ggX6_emptyAfter_X6_inStages : GoodIn wsX6_emptyAfter wsX6_inStages := goodIn_r _ [11] (by decide +kernel) (by decide +kernel)
set_option maxRecDepth 20000 in
theorem gX6_emptyAfter_X6_inStages : GoodIn wsX6_emptyAfter (va_wsS RX6 135 yX6_inStages wsX6_inStages) := goodIn_app (goodIn_of _ (by decide +kernel)) ggX6_emptyAfter_X6_inStages
set_option maxRecDepth 20000 in
theorem ggX6_emptyAfter_X6_handsOver : GoodIn wsX6_emptyAfter wsX6_handsOver := goodIn_r _ [14, 15, 16, 6, 17, 18, 19, 20, 21, 22, 23] (by decide +kernel) (by decide +kernel)
set_option maxRecDepth 20000 in
theorem gX6_emptyAfter_X6_handsOver : GoodIn wsX6_emptyAfter (va_wsS RX6 50 yX6_handsOver wsX6_handsOver) := goodIn_app (goodIn_of _ (by decide +kernel)) ggX6_emptyAfter_X6_handsOver
theorem dX6_emptyAfter_0 : decode cX6_emptyAfter 0 = .ok (.aload_n 0, 1) := by decide +kernel
theorem dX6_emptyAfter_1 : decode cX6_emptyAfter 1 = .ok (.iconst 0, 1) := by decide +kernel
theorem dX6_emptyAfter_2 : decode cX6_emptyAfter 2 = .ok (.invokevirtual 139, 3) := by decide +kernel
theorem dX6_emptyAfter_5 : decode cX6_emptyAfter 5 = .ok (.iconst 0, 1) := by decide +kernel
theorem dX6_emptyAfter_6 : decode cX6_emptyAfter 6 = .ok (.istore_n 1, 1) := by decide +kernel
theorem dX6_emptyAfter_7 : decode cX6_emptyAfter 7 = .ok (.iload_n 1, 1) := by decide +kernel
theorem dX6_emptyAfter_8 : decode cX6_emptyAfter 8 = .ok (.sipush 400, 3) := by decide +kernel
theorem dX6_emptyAfter_11 : decode cX6_emptyAfter 11 = .ok (.if_icmp .ge 28, 3) := by decide +kernel
theorem dX6_emptyAfter_14 : decode cX6_emptyAfter 14 = .ok (.aload_n 0, 1) := by decide +kernel
theorem dX6_emptyAfter_15 : decode cX6_emptyAfter 15 = .ok (.getfield 13, 3) := by decide +kernel
theorem dX6_emptyAfter_18 : decode cX6_emptyAfter 18 = .ok (.invokestatic 135, 3) := by decide +kernel
theorem dX6_emptyAfter_21 : decode cX6_emptyAfter 21 = .ok (.ifCond .le 18, 3) := by decide +kernel
theorem dX6_emptyAfter_24 : decode cX6_emptyAfter 24 = .ok (.aload_n 0, 1) := by decide +kernel
theorem dX6_emptyAfter_25 : decode cX6_emptyAfter 25 = .ok (.getfield 13, 3) := by decide +kernel
theorem dX6_emptyAfter_28 : decode cX6_emptyAfter 28 = .ok (.iconst 0, 1) := by decide +kernel
theorem dX6_emptyAfter_29 : decode cX6_emptyAfter 29 = .ok (.invokestatic 50, 3) := by decide +kernel
theorem dX6_emptyAfter_32 : decode cX6_emptyAfter 32 = .ok (.pop, 1) := by decide +kernel
theorem dX6_emptyAfter_33 : decode cX6_emptyAfter 33 = .ok (.iinc 1 1, 3) := by decide +kernel
theorem dX6_emptyAfter_36 : decode cX6_emptyAfter 36 = .ok (.goto (-29), 3) := by decide +kernel
theorem dX6_emptyAfter_39 : decode cX6_emptyAfter 39 = .ok (.aload_n 0, 1) := by decide +kernel
theorem dX6_emptyAfter_40 : decode cX6_emptyAfter 40 = .ok (.getfield 13, 3) := by decide +kernel
theorem dX6_emptyAfter_43 : decode cX6_emptyAfter 43 = .ok (.invokestatic 135, 3) := by decide +kernel
theorem dX6_emptyAfter_46 : decode cX6_emptyAfter 46 = .ok (.ifCond .le 8, 3) := by decide +kernel
theorem dX6_emptyAfter_49 : decode cX6_emptyAfter 49 = .ok (.ldc 117, 2) := by decide +kernel
theorem dX6_emptyAfter_51 : decode cX6_emptyAfter 51 = .ok (.goto 4, 3) := by decide +kernel
theorem dX6_emptyAfter_54 : decode cX6_emptyAfter 54 = .ok (.iload_n 1, 1) := by decide +kernel
theorem dX6_emptyAfter_55 : decode cX6_emptyAfter 55 = .ok (.ireturn, 1) := by decide +kernel
set_option maxRecDepth 20000 in
theorem ggX6_worn_X6_in : GoodIn wsX6_worn wsX6_in := goodIn_r _ [7] (by decide +kernel) (by decide +kernel)
set_option maxRecDepth 20000 in
theorem gX6_worn_X6_in : GoodIn wsX6_worn (va_wsS RX6 65 yX6_in wsX6_in) := goodIn_app (goodIn_of _ (by decide +kernel)) ggX6_worn_X6_in
set_option maxRecDepth 20000 in
theorem ggX6_worn_X6_tries : GoodIn wsX6_worn wsX6_tries := goodIn_r _ [11, 3, 2, 28, 29, 30, 31, 32, 33, 34, 35, 36, 37, 38, 39, 40] (by decide +kernel) (by decide +kernel)
set_option maxRecDepth 20000 in
theorem gX6_worn_X6_tries : GoodIn wsX6_worn (wsV RX6 139 RX6 yX6_tries wsX6_tries) := goodIn_app (goodIn_of _ (by decide +kernel)) ggX6_worn_X6_tries
set_option maxRecDepth 20000 in
theorem ggX6_worn_X6_echoes : GoodIn wsX6_worn wsX6_echoes := goodIn_r _ [15, 3, 16, 17, 6, 18, 19, 20, 21, 22, 23, 24, 25, 26, 27, 28, 29, 30, 31, 32, 33, 34, 35, 36, 37, 38, 39, 40] (by decide +kernel) (by decide +kernel)
set_option maxRecDepth 20000 in
theorem gX6_worn_X6_echoes : GoodIn wsX6_worn (wsV RX6 143 RX6 yX6_echoes wsX6_echoes) := goodIn_app (goodIn_of _ (by decide +kernel)) ggX6_worn_X6_echoes
theorem dX6_worn_0 : decode cX6_worn 0 = .ok (.iload_n 1, 1) := by decide +kernel
theorem dX6_worn_1 : decode cX6_worn 1 = .ok (.iconst 0, 1) := by decide +kernel
theorem dX6_worn_2 : decode cX6_worn 2 = .ok (.iconst 1, 1) := by decide +kernel
theorem dX6_worn_3 : decode cX6_worn 3 = .ok (.invokestatic 65, 3) := by decide +kernel
theorem dX6_worn_6 : decode cX6_worn 6 = .ok (.ifCond .ne 6, 3) := by decide +kernel
theorem dX6_worn_9 : decode cX6_worn 9 = .ok (.ldc 69, 2) := by decide +kernel
theorem dX6_worn_11 : decode cX6_worn 11 = .ok (.ireturn, 1) := by decide +kernel
theorem dX6_worn_12 : decode cX6_worn 12 = .ok (.iconst 0, 1) := by decide +kernel
theorem dX6_worn_13 : decode cX6_worn 13 = .ok (.istore_n 2, 1) := by decide +kernel
theorem dX6_worn_14 : decode cX6_worn 14 = .ok (.iconst (-1), 1) := by decide +kernel
theorem dX6_worn_15 : decode cX6_worn 15 = .ok (.istore_n 3, 1) := by decide +kernel
theorem dX6_worn_16 : decode cX6_worn 16 = .ok (.iconst 0, 1) := by decide +kernel
theorem dX6_worn_17 : decode cX6_worn 17 = .ok (.istore 4, 2) := by decide +kernel
theorem dX6_worn_19 : decode cX6_worn 19 = .ok (.iload 4, 2) := by decide +kernel
theorem dX6_worn_21 : decode cX6_worn 21 = .ok (.aload_n 0, 1) := by decide +kernel
theorem dX6_worn_22 : decode cX6_worn 22 = .ok (.getfield 7, 3) := by decide +kernel
theorem dX6_worn_25 : decode cX6_worn 25 = .ok (.iconst 0, 1) := by decide +kernel
theorem dX6_worn_26 : decode cX6_worn 26 = .ok (.iaload, 1) := by decide +kernel
theorem dX6_worn_27 : decode cX6_worn 27 = .ok (.if_icmp .ge 77, 3) := by decide +kernel
theorem dX6_worn_30 : decode cX6_worn 30 = .ok (.aload_n 0, 1) := by decide +kernel
theorem dX6_worn_31 : decode cX6_worn 31 = .ok (.iconst 1, 1) := by decide +kernel
theorem dX6_worn_32 : decode cX6_worn 32 = .ok (.invokevirtual 139, 3) := by decide +kernel
theorem dX6_worn_35 : decode cX6_worn 35 = .ok (.aload_n 0, 1) := by decide +kernel
theorem dX6_worn_36 : decode cX6_worn 36 = .ok (.getfield 13, 3) := by decide +kernel
theorem dX6_worn_39 : decode cX6_worn 39 = .ok (.bipush 20, 2) := by decide +kernel
theorem dX6_worn_41 : decode cX6_worn 41 = .ok (.iload 4, 2) := by decide +kernel
theorem dX6_worn_43 : decode cX6_worn 43 = .ok (.iadd, 1) := by decide +kernel
theorem dX6_worn_44 : decode cX6_worn 44 = .ok (.iconst 0, 1) := by decide +kernel
theorem dX6_worn_45 : decode cX6_worn 45 = .ok (.iastore, 1) := by decide +kernel
theorem dX6_worn_46 : decode cX6_worn 46 = .ok (.aload_n 0, 1) := by decide +kernel
theorem dX6_worn_47 : decode cX6_worn 47 = .ok (.getfield 13, 3) := by decide +kernel
theorem dX6_worn_50 : decode cX6_worn 50 = .ok (.bipush 30, 2) := by decide +kernel
theorem dX6_worn_52 : decode cX6_worn 52 = .ok (.iload 4, 2) := by decide +kernel
theorem dX6_worn_54 : decode cX6_worn 54 = .ok (.iadd, 1) := by decide +kernel
theorem dX6_worn_55 : decode cX6_worn 55 = .ok (.iconst 0, 1) := by decide +kernel
theorem dX6_worn_56 : decode cX6_worn 56 = .ok (.iastore, 1) := by decide +kernel
theorem dX6_worn_57 : decode cX6_worn 57 = .ok (.aload_n 0, 1) := by decide +kernel
theorem dX6_worn_58 : decode cX6_worn 58 = .ok (.sipush 10000, 3) := by decide +kernel
theorem dX6_worn_61 : decode cX6_worn 61 = .ok (.aload_n 0, 1) := by decide +kernel
theorem dX6_worn_62 : decode cX6_worn 62 = .ok (.getfield 7, 3) := by decide +kernel
theorem dX6_worn_65 : decode cX6_worn 65 = .ok (.iconst 0, 1) := by decide +kernel
theorem dX6_worn_66 : decode cX6_worn 66 = .ok (.iaload, 1) := by decide +kernel
theorem dX6_worn_67 : decode cX6_worn 67 = .ok (.invokevirtual 143, 3) := by decide +kernel
theorem dX6_worn_70 : decode cX6_worn 70 = .ok (.istore 5, 2) := by decide +kernel
theorem dX6_worn_72 : decode cX6_worn 72 = .ok (.iload 5, 2) := by decide +kernel
theorem dX6_worn_74 : decode cX6_worn 74 = .ok (.iload_n 3, 1) := by decide +kernel
theorem dX6_worn_75 : decode cX6_worn 75 = .ok (.if_icmp .le 8, 3) := by decide +kernel
theorem dX6_worn_78 : decode cX6_worn 78 = .ok (.iload 4, 2) := by decide +kernel
theorem dX6_worn_80 : decode cX6_worn 80 = .ok (.goto 4, 3) := by decide +kernel
theorem dX6_worn_83 : decode cX6_worn 83 = .ok (.iload_n 2, 1) := by decide +kernel
theorem dX6_worn_84 : decode cX6_worn 84 = .ok (.istore_n 2, 1) := by decide +kernel
theorem dX6_worn_85 : decode cX6_worn 85 = .ok (.iload 5, 2) := by decide +kernel
theorem dX6_worn_87 : decode cX6_worn 87 = .ok (.iload_n 3, 1) := by decide +kernel
theorem dX6_worn_88 : decode cX6_worn 88 = .ok (.if_icmp .le 8, 3) := by decide +kernel
theorem dX6_worn_91 : decode cX6_worn 91 = .ok (.iload 5, 2) := by decide +kernel
theorem dX6_worn_93 : decode cX6_worn 93 = .ok (.goto 4, 3) := by decide +kernel
theorem dX6_worn_96 : decode cX6_worn 96 = .ok (.iload_n 3, 1) := by decide +kernel
theorem dX6_worn_97 : decode cX6_worn 97 = .ok (.istore_n 3, 1) := by decide +kernel
theorem dX6_worn_98 : decode cX6_worn 98 = .ok (.iinc 4 1, 3) := by decide +kernel
theorem dX6_worn_101 : decode cX6_worn 101 = .ok (.goto (-82), 3) := by decide +kernel
theorem dX6_worn_104 : decode cX6_worn 104 = .ok (.iload_n 1, 1) := by decide +kernel
theorem dX6_worn_105 : decode cX6_worn 105 = .ok (.ifCond .ne 7, 3) := by decide +kernel
theorem dX6_worn_108 : decode cX6_worn 108 = .ok (.iload_n 2, 1) := by decide +kernel
theorem dX6_worn_109 : decode cX6_worn 109 = .ok (.goto 4, 3) := by decide +kernel
theorem dX6_worn_112 : decode cX6_worn 112 = .ok (.iload_n 3, 1) := by decide +kernel
theorem dX6_worn_113 : decode cX6_worn 113 = .ok (.ireturn, 1) := by decide +kernel
set_option maxRecDepth 20000 in
theorem ggX6_isSafe_X6_tries : GoodIn wsX6_isSafe wsX6_tries := goodIn_r _ [6, 1, 7, 20, 21, 22, 23, 24, 25, 26, 27, 28, 29, 30, 31, 32] (by decide +kernel) (by decide +kernel)
set_option maxRecDepth 20000 in
theorem gX6_isSafe_X6_tries : GoodIn wsX6_isSafe (wsV RX6 139 RX6 yX6_tries wsX6_tries) := goodIn_app (goodIn_of _ (by decide +kernel)) ggX6_isSafe_X6_tries
set_option maxRecDepth 20000 in
theorem ggX6_isSafe_X6_handsOver : GoodIn wsX6_isSafe wsX6_handsOver := goodIn_r _ [10, 11, 12, 5, 13, 14, 15, 16, 17, 18, 19] (by decide +kernel) (by decide +kernel)
set_option maxRecDepth 20000 in
theorem gX6_isSafe_X6_handsOver : GoodIn wsX6_isSafe (va_wsS RX6 50 yX6_handsOver wsX6_handsOver) := goodIn_app (goodIn_of _ (by decide +kernel)) ggX6_isSafe_X6_handsOver
theorem dX6_isSafe_0 : decode cX6_isSafe 0 = .ok (.aload_n 0, 1) := by decide +kernel
theorem dX6_isSafe_1 : decode cX6_isSafe 1 = .ok (.iconst 1, 1) := by decide +kernel
theorem dX6_isSafe_2 : decode cX6_isSafe 2 = .ok (.invokevirtual 139, 3) := by decide +kernel
theorem dX6_isSafe_5 : decode cX6_isSafe 5 = .ok (.iconst 0, 1) := by decide +kernel
theorem dX6_isSafe_6 : decode cX6_isSafe 6 = .ok (.istore_n 2, 1) := by decide +kernel
theorem dX6_isSafe_7 : decode cX6_isSafe 7 = .ok (.iload_n 2, 1) := by decide +kernel
theorem dX6_isSafe_8 : decode cX6_isSafe 8 = .ok (.bipush 40, 2) := by decide +kernel
theorem dX6_isSafe_10 : decode cX6_isSafe 10 = .ok (.if_icmp .ge 18, 3) := by decide +kernel
theorem dX6_isSafe_13 : decode cX6_isSafe 13 = .ok (.aload_n 0, 1) := by decide +kernel
theorem dX6_isSafe_14 : decode cX6_isSafe 14 = .ok (.getfield 13, 3) := by decide +kernel
theorem dX6_isSafe_17 : decode cX6_isSafe 17 = .ok (.iload_n 1, 1) := by decide +kernel
theorem dX6_isSafe_18 : decode cX6_isSafe 18 = .ok (.invokestatic 50, 3) := by decide +kernel
theorem dX6_isSafe_21 : decode cX6_isSafe 21 = .ok (.pop, 1) := by decide +kernel
theorem dX6_isSafe_22 : decode cX6_isSafe 22 = .ok (.iinc 2 1, 3) := by decide +kernel
theorem dX6_isSafe_25 : decode cX6_isSafe 25 = .ok (.goto (-18), 3) := by decide +kernel
theorem dX6_isSafe_28 : decode cX6_isSafe 28 = .ok (.aload_n 0, 1) := by decide +kernel
theorem dX6_isSafe_29 : decode cX6_isSafe 29 = .ok (.getfield 13, 3) := by decide +kernel
theorem dX6_isSafe_32 : decode cX6_isSafe 32 = .ok (.bipush 49, 2) := by decide +kernel
theorem dX6_isSafe_34 : decode cX6_isSafe 34 = .ok (.iaload, 1) := by decide +kernel
theorem dX6_isSafe_35 : decode cX6_isSafe 35 = .ok (.ifCond .ne 7, 3) := by decide +kernel
theorem dX6_isSafe_38 : decode cX6_isSafe 38 = .ok (.iconst 1, 1) := by decide +kernel
theorem dX6_isSafe_39 : decode cX6_isSafe 39 = .ok (.goto 4, 3) := by decide +kernel
theorem dX6_isSafe_42 : decode cX6_isSafe 42 = .ok (.iconst 0, 1) := by decide +kernel
theorem dX6_isSafe_43 : decode cX6_isSafe 43 = .ok (.ireturn, 1) := by decide +kernel
set_option maxRecDepth 20000 in
theorem ggX6_safe_X6_isSafe : GoodIn wsX6_safe wsX6_isSafe := goodIn_r _ [5, 6, 7, 8, 9, 4, 10, 11, 12, 13, 14, 15, 16, 17, 18, 19, 20, 21, 22, 23, 24, 25, 26, 27, 28, 29, 30, 31, 32, 33, 34, 35, 36] (by decide +kernel) (by decide +kernel)
set_option maxRecDepth 20000 in
theorem gX6_safe_X6_isSafe : GoodIn wsX6_safe (wsV RX6 146 RX6 yX6_isSafe wsX6_isSafe) := goodIn_app (goodIn_of _ (by decide +kernel)) ggX6_safe_X6_isSafe
theorem dX6_safe_0 : decode cX6_safe 0 = .ok (.iconst 0, 1) := by decide +kernel
theorem dX6_safe_1 : decode cX6_safe 1 = .ok (.istore_n 1, 1) := by decide +kernel
theorem dX6_safe_2 : decode cX6_safe 2 = .ok (.sipush 10000, 3) := by decide +kernel
theorem dX6_safe_5 : decode cX6_safe 5 = .ok (.istore_n 2, 1) := by decide +kernel
theorem dX6_safe_6 : decode cX6_safe 6 = .ok (.iload_n 1, 1) := by decide +kernel
theorem dX6_safe_7 : decode cX6_safe 7 = .ok (.iload_n 2, 1) := by decide +kernel
theorem dX6_safe_8 : decode cX6_safe 8 = .ok (.if_icmp .ge 31, 3) := by decide +kernel
theorem dX6_safe_11 : decode cX6_safe 11 = .ok (.iload_n 1, 1) := by decide +kernel
theorem dX6_safe_12 : decode cX6_safe 12 = .ok (.iload_n 2, 1) := by decide +kernel
theorem dX6_safe_13 : decode cX6_safe 13 = .ok (.iadd, 1) := by decide +kernel
theorem dX6_safe_14 : decode cX6_safe 14 = .ok (.iconst 1, 1) := by decide +kernel
theorem dX6_safe_15 : decode cX6_safe 15 = .ok (.iadd, 1) := by decide +kernel
theorem dX6_safe_16 : decode cX6_safe 16 = .ok (.iconst 2, 1) := by decide +kernel
theorem dX6_safe_17 : decode cX6_safe 17 = .ok (.idiv, 1) := by decide +kernel
theorem dX6_safe_18 : decode cX6_safe 18 = .ok (.istore_n 3, 1) := by decide +kernel
theorem dX6_safe_19 : decode cX6_safe 19 = .ok (.aload_n 0, 1) := by decide +kernel
theorem dX6_safe_20 : decode cX6_safe 20 = .ok (.iload_n 3, 1) := by decide +kernel
theorem dX6_safe_21 : decode cX6_safe 21 = .ok (.invokevirtual 146, 3) := by decide +kernel
theorem dX6_safe_24 : decode cX6_safe 24 = .ok (.ifCond .eq 8, 3) := by decide +kernel
theorem dX6_safe_27 : decode cX6_safe 27 = .ok (.iload_n 3, 1) := by decide +kernel
theorem dX6_safe_28 : decode cX6_safe 28 = .ok (.istore_n 1, 1) := by decide +kernel
theorem dX6_safe_29 : decode cX6_safe 29 = .ok (.goto 7, 3) := by decide +kernel
theorem dX6_safe_32 : decode cX6_safe 32 = .ok (.iload_n 3, 1) := by decide +kernel
theorem dX6_safe_33 : decode cX6_safe 33 = .ok (.iconst 1, 1) := by decide +kernel
theorem dX6_safe_34 : decode cX6_safe 34 = .ok (.isub, 1) := by decide +kernel
theorem dX6_safe_35 : decode cX6_safe 35 = .ok (.istore_n 2, 1) := by decide +kernel
theorem dX6_safe_36 : decode cX6_safe 36 = .ok (.goto (-30), 3) := by decide +kernel
theorem dX6_safe_39 : decode cX6_safe 39 = .ok (.iload_n 1, 1) := by decide +kernel
theorem dX6_safe_40 : decode cX6_safe 40 = .ok (.ireturn, 1) := by decide +kernel
theorem dX6_pairs_0 : decode cX6_pairs 0 = .ok (.iconst 0, 1) := by decide +kernel
theorem dX6_pairs_1 : decode cX6_pairs 1 = .ok (.istore_n 1, 1) := by decide +kernel
theorem dX6_pairs_2 : decode cX6_pairs 2 = .ok (.iconst 0, 1) := by decide +kernel
theorem dX6_pairs_3 : decode cX6_pairs 3 = .ok (.istore_n 2, 1) := by decide +kernel
theorem dX6_pairs_4 : decode cX6_pairs 4 = .ok (.iload_n 2, 1) := by decide +kernel
theorem dX6_pairs_5 : decode cX6_pairs 5 = .ok (.iconst 3, 1) := by decide +kernel
theorem dX6_pairs_6 : decode cX6_pairs 6 = .ok (.if_icmp .ge 30, 3) := by decide +kernel
theorem dX6_pairs_9 : decode cX6_pairs 9 = .ok (.iload_n 1, 1) := by decide +kernel
theorem dX6_pairs_10 : decode cX6_pairs 10 = .ok (.aload_n 0, 1) := by decide +kernel
theorem dX6_pairs_11 : decode cX6_pairs 11 = .ok (.getfield 7, 3) := by decide +kernel
theorem dX6_pairs_14 : decode cX6_pairs 14 = .ok (.bipush 40, 2) := by decide +kernel
theorem dX6_pairs_16 : decode cX6_pairs 16 = .ok (.iload_n 2, 1) := by decide +kernel
theorem dX6_pairs_17 : decode cX6_pairs 17 = .ok (.iadd, 1) := by decide +kernel
theorem dX6_pairs_18 : decode cX6_pairs 18 = .ok (.iaload, 1) := by decide +kernel
theorem dX6_pairs_19 : decode cX6_pairs 19 = .ok (.iconst (-1), 1) := by decide +kernel
theorem dX6_pairs_20 : decode cX6_pairs 20 = .ok (.if_icmp .ne 7, 3) := by decide +kernel
theorem dX6_pairs_23 : decode cX6_pairs 23 = .ok (.iconst 0, 1) := by decide +kernel
theorem dX6_pairs_24 : decode cX6_pairs 24 = .ok (.goto 4, 3) := by decide +kernel
theorem dX6_pairs_27 : decode cX6_pairs 27 = .ok (.iconst 1, 1) := by decide +kernel
theorem dX6_pairs_28 : decode cX6_pairs 28 = .ok (.iadd, 1) := by decide +kernel
theorem dX6_pairs_29 : decode cX6_pairs 29 = .ok (.istore_n 1, 1) := by decide +kernel
theorem dX6_pairs_30 : decode cX6_pairs 30 = .ok (.iinc 2 1, 3) := by decide +kernel
theorem dX6_pairs_33 : decode cX6_pairs 33 = .ok (.goto (-29), 3) := by decide +kernel
theorem dX6_pairs_36 : decode cX6_pairs 36 = .ok (.iload_n 1, 1) := by decide +kernel
theorem dX6_pairs_37 : decode cX6_pairs 37 = .ok (.ireturn, 1) := by decide +kernel
set_option maxRecDepth 20000 in
theorem ggX6_count_X6_pairs : GoodIn wsX6_count wsX6_pairs := goodIn_r _ [9, 1, 17, 18, 19, 20, 21, 22, 23, 24, 25, 26, 27, 28, 29] (by decide +kernel) (by decide +kernel)
set_option maxRecDepth 20000 in
theorem gX6_count_X6_pairs : GoodIn wsX6_count (wsV RX6 149 RX6 yX6_pairs wsX6_pairs) := goodIn_app (goodIn_of _ (by decide +kernel)) ggX6_count_X6_pairs
set_option maxRecDepth 20000 in
theorem ggX6_count_X6_isDue : GoodIn wsX6_count wsX6_isDue := goodIn_r _ [13, 1, 17, 18, 19, 20, 21, 22, 23, 24, 25, 26, 27, 28, 29] (by decide +kernel) (by decide +kernel)
set_option maxRecDepth 20000 in
theorem gX6_count_X6_isDue : GoodIn wsX6_count (wsV RX6 57 RX6 yX6_isDue wsX6_isDue) := goodIn_app (goodIn_of _ (by decide +kernel)) ggX6_count_X6_isDue
set_option maxRecDepth 20000 in
theorem ggX6_count_X6_in : GoodIn wsX6_count wsX6_in := goodIn_r _ [16] (by decide +kernel) (by decide +kernel)
set_option maxRecDepth 20000 in
theorem gX6_count_X6_in : GoodIn wsX6_count (va_wsS RX6 65 yX6_in wsX6_in) := goodIn_app (goodIn_of _ (by decide +kernel)) ggX6_count_X6_in
theorem dX6_count_0 : decode cX6_count 0 = .ok (.iload_n 1, 1) := by decide +kernel
theorem dX6_count_1 : decode cX6_count 1 = .ok (.tableswitch 120 0 8 #[51, 58, 65, 72, 79, 84, 91, 110, 115], 51) := by decide +kernel
theorem dX6_count_52 : decode cX6_count 52 = .ok (.aload_n 0, 1) := by decide +kernel
theorem dX6_count_53 : decode cX6_count 53 = .ok (.getfield 7, 3) := by decide +kernel
theorem dX6_count_56 : decode cX6_count 56 = .ok (.iconst 0, 1) := by decide +kernel
theorem dX6_count_57 : decode cX6_count 57 = .ok (.iaload, 1) := by decide +kernel
theorem dX6_count_58 : decode cX6_count 58 = .ok (.ireturn, 1) := by decide +kernel
theorem dX6_count_59 : decode cX6_count 59 = .ok (.aload_n 0, 1) := by decide +kernel
theorem dX6_count_60 : decode cX6_count 60 = .ok (.getfield 7, 3) := by decide +kernel
theorem dX6_count_63 : decode cX6_count 63 = .ok (.iconst 1, 1) := by decide +kernel
theorem dX6_count_64 : decode cX6_count 64 = .ok (.iaload, 1) := by decide +kernel
theorem dX6_count_65 : decode cX6_count 65 = .ok (.ireturn, 1) := by decide +kernel
theorem dX6_count_66 : decode cX6_count 66 = .ok (.aload_n 0, 1) := by decide +kernel
theorem dX6_count_67 : decode cX6_count 67 = .ok (.getfield 7, 3) := by decide +kernel
theorem dX6_count_70 : decode cX6_count 70 = .ok (.iconst 4, 1) := by decide +kernel
theorem dX6_count_71 : decode cX6_count 71 = .ok (.iaload, 1) := by decide +kernel
theorem dX6_count_72 : decode cX6_count 72 = .ok (.ireturn, 1) := by decide +kernel
theorem dX6_count_73 : decode cX6_count 73 = .ok (.aload_n 0, 1) := by decide +kernel
theorem dX6_count_74 : decode cX6_count 74 = .ok (.getfield 7, 3) := by decide +kernel
theorem dX6_count_77 : decode cX6_count 77 = .ok (.iconst 3, 1) := by decide +kernel
theorem dX6_count_78 : decode cX6_count 78 = .ok (.iaload, 1) := by decide +kernel
theorem dX6_count_79 : decode cX6_count 79 = .ok (.ireturn, 1) := by decide +kernel
theorem dX6_count_80 : decode cX6_count 80 = .ok (.aload_n 0, 1) := by decide +kernel
theorem dX6_count_81 : decode cX6_count 81 = .ok (.invokevirtual 149, 3) := by decide +kernel
theorem dX6_count_84 : decode cX6_count 84 = .ok (.ireturn, 1) := by decide +kernel
theorem dX6_count_85 : decode cX6_count 85 = .ok (.aload_n 0, 1) := by decide +kernel
theorem dX6_count_86 : decode cX6_count 86 = .ok (.getfield 7, 3) := by decide +kernel
theorem dX6_count_89 : decode cX6_count 89 = .ok (.iconst 2, 1) := by decide +kernel
theorem dX6_count_90 : decode cX6_count 90 = .ok (.iaload, 1) := by decide +kernel
theorem dX6_count_91 : decode cX6_count 91 = .ok (.ireturn, 1) := by decide +kernel
theorem dX6_count_92 : decode cX6_count 92 = .ok (.aload_n 0, 1) := by decide +kernel
theorem dX6_count_93 : decode cX6_count 93 = .ok (.aload_n 0, 1) := by decide +kernel
theorem dX6_count_94 : decode cX6_count 94 = .ok (.getfield 7, 3) := by decide +kernel
theorem dX6_count_97 : decode cX6_count 97 = .ok (.iconst 1, 1) := by decide +kernel
theorem dX6_count_98 : decode cX6_count 98 = .ok (.iaload, 1) := by decide +kernel
theorem dX6_count_99 : decode cX6_count 99 = .ok (.invokevirtual 57, 3) := by decide +kernel
theorem dX6_count_102 : decode cX6_count 102 = .ok (.ifCond .eq 7, 3) := by decide +kernel
theorem dX6_count_105 : decode cX6_count 105 = .ok (.iconst 1, 1) := by decide +kernel
theorem dX6_count_106 : decode cX6_count 106 = .ok (.goto 4, 3) := by decide +kernel
theorem dX6_count_109 : decode cX6_count 109 = .ok (.iconst 0, 1) := by decide +kernel
theorem dX6_count_110 : decode cX6_count 110 = .ok (.ireturn, 1) := by decide +kernel
theorem dX6_count_111 : decode cX6_count 111 = .ok (.aload_n 0, 1) := by decide +kernel
theorem dX6_count_112 : decode cX6_count 112 = .ok (.getfield 31, 3) := by decide +kernel
theorem dX6_count_115 : decode cX6_count 115 = .ok (.ireturn, 1) := by decide +kernel
theorem dX6_count_116 : decode cX6_count 116 = .ok (.aload_n 0, 1) := by decide +kernel
theorem dX6_count_117 : decode cX6_count 117 = .ok (.getfield 153, 3) := by decide +kernel
theorem dX6_count_120 : decode cX6_count 120 = .ok (.ireturn, 1) := by decide +kernel
theorem dX6_count_121 : decode cX6_count 121 = .ok (.iload_n 1, 1) := by decide +kernel
theorem dX6_count_122 : decode cX6_count 122 = .ok (.bipush 20, 2) := by decide +kernel
theorem dX6_count_124 : decode cX6_count 124 = .ok (.bipush 24, 2) := by decide +kernel
theorem dX6_count_126 : decode cX6_count 126 = .ok (.invokestatic 65, 3) := by decide +kernel
theorem dX6_count_129 : decode cX6_count 129 = .ok (.ifCond .eq 17, 3) := by decide +kernel
theorem dX6_count_132 : decode cX6_count 132 = .ok (.aload_n 0, 1) := by decide +kernel
theorem dX6_count_133 : decode cX6_count 133 = .ok (.getfield 7, 3) := by decide +kernel
theorem dX6_count_136 : decode cX6_count 136 = .ok (.iconst 5, 1) := by decide +kernel
theorem dX6_count_137 : decode cX6_count 137 = .ok (.iload_n 1, 1) := by decide +kernel
theorem dX6_count_138 : decode cX6_count 138 = .ok (.iadd, 1) := by decide +kernel
theorem dX6_count_139 : decode cX6_count 139 = .ok (.bipush 20, 2) := by decide +kernel
theorem dX6_count_141 : decode cX6_count 141 = .ok (.isub, 1) := by decide +kernel
theorem dX6_count_142 : decode cX6_count 142 = .ok (.iaload, 1) := by decide +kernel
theorem dX6_count_143 : decode cX6_count 143 = .ok (.goto 5, 3) := by decide +kernel
theorem dX6_count_146 : decode cX6_count 146 = .ok (.ldc 69, 2) := by decide +kernel
theorem dX6_count_148 : decode cX6_count 148 = .ok (.ireturn, 1) := by decide +kernel
set_option maxRecDepth 20000 in
theorem ggX6_type_X6_in : GoodIn wsX6_type wsX6_in := goodIn_r _ [8] (by decide +kernel) (by decide +kernel)
set_option maxRecDepth 20000 in
theorem gX6_type_X6_in : GoodIn wsX6_type (va_wsS RX6 65 yX6_in wsX6_in) := goodIn_app (goodIn_of _ (by decide +kernel)) ggX6_type_X6_in
theorem dX6_type_0 : decode cX6_type 0 = .ok (.iload_n 1, 1) := by decide +kernel
theorem dX6_type_1 : decode cX6_type 1 = .ok (.bipush 32, 2) := by decide +kernel
theorem dX6_type_3 : decode cX6_type 3 = .ok (.bipush 126, 2) := by decide +kernel
theorem dX6_type_5 : decode cX6_type 5 = .ok (.invokestatic 65, 3) := by decide +kernel
theorem dX6_type_8 : decode cX6_type 8 = .ok (.ifCond .ne 6, 3) := by decide +kernel
theorem dX6_type_11 : decode cX6_type 11 = .ok (.ldc 69, 2) := by decide +kernel
theorem dX6_type_13 : decode cX6_type 13 = .ok (.ireturn, 1) := by decide +kernel
theorem dX6_type_14 : decode cX6_type 14 = .ok (.aload_n 0, 1) := by decide +kernel
theorem dX6_type_15 : decode cX6_type 15 = .ok (.getfield 153, 3) := by decide +kernel
theorem dX6_type_18 : decode cX6_type 18 = .ok (.bipush 60, 2) := by decide +kernel
theorem dX6_type_20 : decode cX6_type 20 = .ok (.if_icmp .ne 6, 3) := by decide +kernel
theorem dX6_type_23 : decode cX6_type 23 = .ok (.ldc 88, 2) := by decide +kernel
theorem dX6_type_25 : decode cX6_type 25 = .ok (.ireturn, 1) := by decide +kernel
theorem dX6_type_26 : decode cX6_type 26 = .ok (.aload_n 0, 1) := by decide +kernel
theorem dX6_type_27 : decode cX6_type 27 = .ok (.getfield 19, 3) := by decide +kernel
theorem dX6_type_30 : decode cX6_type 30 = .ok (.aload_n 0, 1) := by decide +kernel
theorem dX6_type_31 : decode cX6_type 31 = .ok (.getfield 153, 3) := by decide +kernel
theorem dX6_type_34 : decode cX6_type 34 = .ok (.iload_n 1, 1) := by decide +kernel
theorem dX6_type_35 : decode cX6_type 35 = .ok (.iastore, 1) := by decide +kernel
theorem dX6_type_36 : decode cX6_type 36 = .ok (.aload_n 0, 1) := by decide +kernel
theorem dX6_type_37 : decode cX6_type 37 = .ok (.dup, 1) := by decide +kernel
theorem dX6_type_38 : decode cX6_type 38 = .ok (.getfield 153, 3) := by decide +kernel
theorem dX6_type_41 : decode cX6_type 41 = .ok (.iconst 1, 1) := by decide +kernel
theorem dX6_type_42 : decode cX6_type 42 = .ok (.iadd, 1) := by decide +kernel
theorem dX6_type_43 : decode cX6_type 43 = .ok (.putfield 153, 3) := by decide +kernel
theorem dX6_type_46 : decode cX6_type 46 = .ok (.aload_n 0, 1) := by decide +kernel
theorem dX6_type_47 : decode cX6_type 47 = .ok (.getfield 153, 3) := by decide +kernel
theorem dX6_type_50 : decode cX6_type 50 = .ok (.ireturn, 1) := by decide +kernel
theorem dX6_clearText_0 : decode cX6_clearText 0 = .ok (.aload_n 0, 1) := by decide +kernel
theorem dX6_clearText_1 : decode cX6_clearText 1 = .ok (.getfield 153, 3) := by decide +kernel
theorem dX6_clearText_4 : decode cX6_clearText 4 = .ok (.istore_n 1, 1) := by decide +kernel
theorem dX6_clearText_5 : decode cX6_clearText 5 = .ok (.aload_n 0, 1) := by decide +kernel
theorem dX6_clearText_6 : decode cX6_clearText 6 = .ok (.iconst 0, 1) := by decide +kernel
theorem dX6_clearText_7 : decode cX6_clearText 7 = .ok (.putfield 153, 3) := by decide +kernel
theorem dX6_clearText_10 : decode cX6_clearText 10 = .ok (.iload_n 1, 1) := by decide +kernel
theorem dX6_clearText_11 : decode cX6_clearText 11 = .ok (.ireturn, 1) := by decide +kernel
theorem dX6_takes_0 : decode cX6_takes 0 = .ok (.aload_n 0, 1) := by decide +kernel
theorem dX6_takes_1 : decode cX6_takes 1 = .ok (.getfield 156, 3) := by decide +kernel
theorem dX6_takes_4 : decode cX6_takes 4 = .ok (.aload_n 0, 1) := by decide +kernel
theorem dX6_takes_5 : decode cX6_takes 5 = .ok (.getfield 153, 3) := by decide +kernel
theorem dX6_takes_8 : decode cX6_takes 8 = .ok (.if_icmp .ge 20, 3) := by decide +kernel
theorem dX6_takes_11 : decode cX6_takes 11 = .ok (.aload_n 0, 1) := by decide +kernel
theorem dX6_takes_12 : decode cX6_takes 12 = .ok (.getfield 19, 3) := by decide +kernel
theorem dX6_takes_15 : decode cX6_takes 15 = .ok (.aload_n 0, 1) := by decide +kernel
theorem dX6_takes_16 : decode cX6_takes 16 = .ok (.getfield 156, 3) := by decide +kernel
theorem dX6_takes_19 : decode cX6_takes 19 = .ok (.iaload, 1) := by decide +kernel
theorem dX6_takes_20 : decode cX6_takes 20 = .ok (.iload_n 1, 1) := by decide +kernel
theorem dX6_takes_21 : decode cX6_takes 21 = .ok (.if_icmp .ne 7, 3) := by decide +kernel
theorem dX6_takes_24 : decode cX6_takes 24 = .ok (.iconst 1, 1) := by decide +kernel
theorem dX6_takes_25 : decode cX6_takes 25 = .ok (.goto 4, 3) := by decide +kernel
theorem dX6_takes_28 : decode cX6_takes 28 = .ok (.iconst 0, 1) := by decide +kernel
theorem dX6_takes_29 : decode cX6_takes 29 = .ok (.istore_n 2, 1) := by decide +kernel
theorem dX6_takes_30 : decode cX6_takes 30 = .ok (.aload_n 0, 1) := by decide +kernel
theorem dX6_takes_31 : decode cX6_takes 31 = .ok (.dup, 1) := by decide +kernel
theorem dX6_takes_32 : decode cX6_takes 32 = .ok (.getfield 156, 3) := by decide +kernel
theorem dX6_takes_35 : decode cX6_takes 35 = .ok (.iload_n 2, 1) := by decide +kernel
theorem dX6_takes_36 : decode cX6_takes 36 = .ok (.ifCond .eq 7, 3) := by decide +kernel
theorem dX6_takes_39 : decode cX6_takes 39 = .ok (.iconst 1, 1) := by decide +kernel
theorem dX6_takes_40 : decode cX6_takes 40 = .ok (.goto 4, 3) := by decide +kernel
theorem dX6_takes_43 : decode cX6_takes 43 = .ok (.iconst 0, 1) := by decide +kernel
theorem dX6_takes_44 : decode cX6_takes 44 = .ok (.iadd, 1) := by decide +kernel
theorem dX6_takes_45 : decode cX6_takes 45 = .ok (.putfield 156, 3) := by decide +kernel
theorem dX6_takes_48 : decode cX6_takes 48 = .ok (.iload_n 2, 1) := by decide +kernel
theorem dX6_takes_49 : decode cX6_takes 49 = .ok (.ireturn, 1) := by decide +kernel
set_option maxRecDepth 20000 in
theorem ggX6_takesNumber_X6_in : GoodIn wsX6_takesNumber wsX6_in := goodIn_r _ [8] (by decide +kernel) (by decide +kernel)
set_option maxRecDepth 20000 in
theorem gX6_takesNumber_X6_in : GoodIn wsX6_takesNumber (va_wsS RX6 65 yX6_in wsX6_in) := goodIn_app (goodIn_of _ (by decide +kernel)) ggX6_takesNumber_X6_in
theorem dX6_takesNumber_0 : decode cX6_takesNumber 0 = .ok (.iconst 0, 1) := by decide +kernel
theorem dX6_takesNumber_1 : decode cX6_takesNumber 1 = .ok (.istore_n 3, 1) := by decide +kernel
theorem dX6_takesNumber_2 : decode cX6_takesNumber 2 = .ok (.iconst 0, 1) := by decide +kernel
theorem dX6_takesNumber_3 : decode cX6_takesNumber 3 = .ok (.istore 4, 2) := by decide +kernel
theorem dX6_takesNumber_5 : decode cX6_takesNumber 5 = .ok (.iload 4, 2) := by decide +kernel
theorem dX6_takesNumber_7 : decode cX6_takesNumber 7 = .ok (.iload_n 2, 1) := by decide +kernel
theorem dX6_takesNumber_8 : decode cX6_takesNumber 8 = .ok (.if_icmp .ge 67, 3) := by decide +kernel
theorem dX6_takesNumber_11 : decode cX6_takesNumber 11 = .ok (.aload_n 0, 1) := by decide +kernel
theorem dX6_takesNumber_12 : decode cX6_takesNumber 12 = .ok (.getfield 156, 3) := by decide +kernel
theorem dX6_takesNumber_15 : decode cX6_takesNumber 15 = .ok (.aload_n 0, 1) := by decide +kernel
theorem dX6_takesNumber_16 : decode cX6_takesNumber 16 = .ok (.getfield 153, 3) := by decide +kernel
theorem dX6_takesNumber_19 : decode cX6_takesNumber 19 = .ok (.if_icmp .ge 56, 3) := by decide +kernel
theorem dX6_takesNumber_22 : decode cX6_takesNumber 22 = .ok (.aload_n 0, 1) := by decide +kernel
theorem dX6_takesNumber_23 : decode cX6_takesNumber 23 = .ok (.getfield 19, 3) := by decide +kernel
theorem dX6_takesNumber_26 : decode cX6_takesNumber 26 = .ok (.aload_n 0, 1) := by decide +kernel
theorem dX6_takesNumber_27 : decode cX6_takesNumber 27 = .ok (.getfield 156, 3) := by decide +kernel
theorem dX6_takesNumber_30 : decode cX6_takesNumber 30 = .ok (.iaload, 1) := by decide +kernel
theorem dX6_takesNumber_31 : decode cX6_takesNumber 31 = .ok (.bipush 48, 2) := by decide +kernel
theorem dX6_takesNumber_33 : decode cX6_takesNumber 33 = .ok (.bipush 57, 2) := by decide +kernel
theorem dX6_takesNumber_35 : decode cX6_takesNumber 35 = .ok (.invokestatic 65, 3) := by decide +kernel
theorem dX6_takesNumber_38 : decode cX6_takesNumber 38 = .ok (.ifCond .eq 37, 3) := by decide +kernel
theorem dX6_takesNumber_41 : decode cX6_takesNumber 41 = .ok (.bipush 10, 2) := by decide +kernel
theorem dX6_takesNumber_43 : decode cX6_takesNumber 43 = .ok (.iload_n 3, 1) := by decide +kernel
theorem dX6_takesNumber_44 : decode cX6_takesNumber 44 = .ok (.imul, 1) := by decide +kernel
theorem dX6_takesNumber_45 : decode cX6_takesNumber 45 = .ok (.aload_n 0, 1) := by decide +kernel
theorem dX6_takesNumber_46 : decode cX6_takesNumber 46 = .ok (.getfield 19, 3) := by decide +kernel
theorem dX6_takesNumber_49 : decode cX6_takesNumber 49 = .ok (.aload_n 0, 1) := by decide +kernel
theorem dX6_takesNumber_50 : decode cX6_takesNumber 50 = .ok (.getfield 156, 3) := by decide +kernel
theorem dX6_takesNumber_53 : decode cX6_takesNumber 53 = .ok (.iaload, 1) := by decide +kernel
theorem dX6_takesNumber_54 : decode cX6_takesNumber 54 = .ok (.iadd, 1) := by decide +kernel
theorem dX6_takesNumber_55 : decode cX6_takesNumber 55 = .ok (.bipush 48, 2) := by decide +kernel
theorem dX6_takesNumber_57 : decode cX6_takesNumber 57 = .ok (.isub, 1) := by decide +kernel
theorem dX6_takesNumber_58 : decode cX6_takesNumber 58 = .ok (.istore_n 3, 1) := by decide +kernel
theorem dX6_takesNumber_59 : decode cX6_takesNumber 59 = .ok (.aload_n 0, 1) := by decide +kernel
theorem dX6_takesNumber_60 : decode cX6_takesNumber 60 = .ok (.dup, 1) := by decide +kernel
theorem dX6_takesNumber_61 : decode cX6_takesNumber 61 = .ok (.getfield 156, 3) := by decide +kernel
theorem dX6_takesNumber_64 : decode cX6_takesNumber 64 = .ok (.iconst 1, 1) := by decide +kernel
theorem dX6_takesNumber_65 : decode cX6_takesNumber 65 = .ok (.iadd, 1) := by decide +kernel
theorem dX6_takesNumber_66 : decode cX6_takesNumber 66 = .ok (.putfield 156, 3) := by decide +kernel
theorem dX6_takesNumber_69 : decode cX6_takesNumber 69 = .ok (.iinc 4 1, 3) := by decide +kernel
theorem dX6_takesNumber_72 : decode cX6_takesNumber 72 = .ok (.goto (-67), 3) := by decide +kernel
theorem dX6_takesNumber_75 : decode cX6_takesNumber 75 = .ok (.aload_n 0, 1) := by decide +kernel
theorem dX6_takesNumber_76 : decode cX6_takesNumber 76 = .ok (.getfield 25, 3) := by decide +kernel
theorem dX6_takesNumber_79 : decode cX6_takesNumber 79 = .ok (.iload_n 1, 1) := by decide +kernel
theorem dX6_takesNumber_80 : decode cX6_takesNumber 80 = .ok (.iload_n 3, 1) := by decide +kernel
theorem dX6_takesNumber_81 : decode cX6_takesNumber 81 = .ok (.iastore, 1) := by decide +kernel
theorem dX6_takesNumber_82 : decode cX6_takesNumber 82 = .ok (.iload 4, 2) := by decide +kernel
theorem dX6_takesNumber_84 : decode cX6_takesNumber 84 = .ok (.ifCond .le 7, 3) := by decide +kernel
theorem dX6_takesNumber_87 : decode cX6_takesNumber 87 = .ok (.iconst 1, 1) := by decide +kernel
theorem dX6_takesNumber_88 : decode cX6_takesNumber 88 = .ok (.goto 4, 3) := by decide +kernel
theorem dX6_takesNumber_91 : decode cX6_takesNumber 91 = .ok (.iconst 0, 1) := by decide +kernel
theorem dX6_takesNumber_92 : decode cX6_takesNumber 92 = .ok (.ireturn, 1) := by decide +kernel
set_option maxRecDepth 20000 in
theorem ggX6_hasForm_X6_takes : GoodIn wsX6_hasForm wsX6_takes := goodIn_r _ [9, 1, 2, 3, 18, 19, 20, 21, 22, 23, 24, 25, 26, 27, 28, 29, 30] (by decide +kernel) (by decide +kernel)
set_option maxRecDepth 20000 in
theorem gX6_hasForm_X6_takes : GoodIn wsX6_hasForm (wsV RX6 162 RX6 yX6_takes wsX6_takes) := goodIn_app (goodIn_of _ (by decide +kernel)) ggX6_hasForm_X6_takes
set_option maxRecDepth 20000 in
theorem ggX6_hasForm_X6_takesNumber : GoodIn wsX6_hasForm wsX6_takesNumber := goodIn_r _ [13, 1, 2, 3, 14, 15, 16, 8, 17, 18, 19, 20, 21, 22, 23, 24, 25, 26, 27, 28, 29, 30] (by decide +kernel) (by decide +kernel)
set_option maxRecDepth 20000 in
theorem gX6_hasForm_X6_takesNumber : GoodIn wsX6_hasForm (wsV RX6 165 RX6 yX6_takesNumber wsX6_takesNumber) := goodIn_app (goodIn_of _ (by decide +kernel)) ggX6_hasForm_X6_takesNumber
theorem dX6_hasForm_0 : decode cX6_hasForm 0 = .ok (.aload_n 0, 1) := by decide +kernel
theorem dX6_hasForm_1 : decode cX6_hasForm 1 = .ok (.aload_n 0, 1) := by decide +kernel
theorem dX6_hasForm_2 : decode cX6_hasForm 2 = .ok (.getfield 156, 3) := by decide +kernel
theorem dX6_hasForm_5 : decode cX6_hasForm 5 = .ok (.aload_n 0, 1) := by decide +kernel
theorem dX6_hasForm_6 : decode cX6_hasForm 6 = .ok (.getfield 153, 3) := by decide +kernel
theorem dX6_hasForm_9 : decode cX6_hasForm 9 = .ok (.if_icmp .ge 15, 3) := by decide +kernel
theorem dX6_hasForm_12 : decode cX6_hasForm 12 = .ok (.aload_n 0, 1) := by decide +kernel
theorem dX6_hasForm_13 : decode cX6_hasForm 13 = .ok (.getfield 19, 3) := by decide +kernel
theorem dX6_hasForm_16 : decode cX6_hasForm 16 = .ok (.aload_n 0, 1) := by decide +kernel
theorem dX6_hasForm_17 : decode cX6_hasForm 17 = .ok (.getfield 156, 3) := by decide +kernel
theorem dX6_hasForm_20 : decode cX6_hasForm 20 = .ok (.iaload, 1) := by decide +kernel
theorem dX6_hasForm_21 : decode cX6_hasForm 21 = .ok (.goto 4, 3) := by decide +kernel
theorem dX6_hasForm_24 : decode cX6_hasForm 24 = .ok (.iconst 0, 1) := by decide +kernel
theorem dX6_hasForm_25 : decode cX6_hasForm 25 = .ok (.putfield 159, 3) := by decide +kernel
theorem dX6_hasForm_28 : decode cX6_hasForm 28 = .ok (.aload_n 0, 1) := by decide +kernel
theorem dX6_hasForm_29 : decode cX6_hasForm 29 = .ok (.bipush 115, 2) := by decide +kernel
theorem dX6_hasForm_31 : decode cX6_hasForm 31 = .ok (.invokevirtual 162, 3) := by decide +kernel
theorem dX6_hasForm_34 : decode cX6_hasForm 34 = .ok (.ifCond .eq 27, 3) := by decide +kernel
theorem dX6_hasForm_37 : decode cX6_hasForm 37 = .ok (.aload_n 0, 1) := by decide +kernel
theorem dX6_hasForm_38 : decode cX6_hasForm 38 = .ok (.iconst 0, 1) := by decide +kernel
theorem dX6_hasForm_39 : decode cX6_hasForm 39 = .ok (.iconst 5, 1) := by decide +kernel
theorem dX6_hasForm_40 : decode cX6_hasForm 40 = .ok (.invokevirtual 165, 3) := by decide +kernel
theorem dX6_hasForm_43 : decode cX6_hasForm 43 = .ok (.ifCond .eq 16, 3) := by decide +kernel
theorem dX6_hasForm_46 : decode cX6_hasForm 46 = .ok (.aload_n 0, 1) := by decide +kernel
theorem dX6_hasForm_47 : decode cX6_hasForm 47 = .ok (.bipush 59, 2) := by decide +kernel
theorem dX6_hasForm_49 : decode cX6_hasForm 49 = .ok (.invokevirtual 162, 3) := by decide +kernel
theorem dX6_hasForm_52 : decode cX6_hasForm 52 = .ok (.ifCond .eq 7, 3) := by decide +kernel
theorem dX6_hasForm_55 : decode cX6_hasForm 55 = .ok (.iconst 1, 1) := by decide +kernel
theorem dX6_hasForm_56 : decode cX6_hasForm 56 = .ok (.goto 4, 3) := by decide +kernel
theorem dX6_hasForm_59 : decode cX6_hasForm 59 = .ok (.iconst 0, 1) := by decide +kernel
theorem dX6_hasForm_60 : decode cX6_hasForm 60 = .ok (.ireturn, 1) := by decide +kernel
theorem dX6_hasForm_61 : decode cX6_hasForm 61 = .ok (.aload_n 0, 1) := by decide +kernel
theorem dX6_hasForm_62 : decode cX6_hasForm 62 = .ok (.bipush 108, 2) := by decide +kernel
theorem dX6_hasForm_64 : decode cX6_hasForm 64 = .ok (.invokevirtual 162, 3) := by decide +kernel
theorem dX6_hasForm_67 : decode cX6_hasForm 67 = .ok (.ifCond .eq 61, 3) := by decide +kernel
theorem dX6_hasForm_70 : decode cX6_hasForm 70 = .ok (.aload_n 0, 1) := by decide +kernel
theorem dX6_hasForm_71 : decode cX6_hasForm 71 = .ok (.iconst 0, 1) := by decide +kernel
theorem dX6_hasForm_72 : decode cX6_hasForm 72 = .ok (.iconst 1, 1) := by decide +kernel
theorem dX6_hasForm_73 : decode cX6_hasForm 73 = .ok (.invokevirtual 165, 3) := by decide +kernel
theorem dX6_hasForm_76 : decode cX6_hasForm 76 = .ok (.ifCond .eq 52, 3) := by decide +kernel
theorem dX6_hasForm_79 : decode cX6_hasForm 79 = .ok (.aload_n 0, 1) := by decide +kernel
theorem dX6_hasForm_80 : decode cX6_hasForm 80 = .ok (.bipush 44, 2) := by decide +kernel
theorem dX6_hasForm_82 : decode cX6_hasForm 82 = .ok (.invokevirtual 162, 3) := by decide +kernel
theorem dX6_hasForm_85 : decode cX6_hasForm 85 = .ok (.ifCond .eq 43, 3) := by decide +kernel
theorem dX6_hasForm_88 : decode cX6_hasForm 88 = .ok (.aload_n 0, 1) := by decide +kernel
theorem dX6_hasForm_89 : decode cX6_hasForm 89 = .ok (.iconst 1, 1) := by decide +kernel
theorem dX6_hasForm_90 : decode cX6_hasForm 90 = .ok (.iconst 5, 1) := by decide +kernel
theorem dX6_hasForm_91 : decode cX6_hasForm 91 = .ok (.invokevirtual 165, 3) := by decide +kernel
theorem dX6_hasForm_94 : decode cX6_hasForm 94 = .ok (.ifCond .eq 34, 3) := by decide +kernel
theorem dX6_hasForm_97 : decode cX6_hasForm 97 = .ok (.aload_n 0, 1) := by decide +kernel
theorem dX6_hasForm_98 : decode cX6_hasForm 98 = .ok (.bipush 44, 2) := by decide +kernel
theorem dX6_hasForm_100 : decode cX6_hasForm 100 = .ok (.invokevirtual 162, 3) := by decide +kernel
theorem dX6_hasForm_103 : decode cX6_hasForm 103 = .ok (.ifCond .eq 25, 3) := by decide +kernel
theorem dX6_hasForm_106 : decode cX6_hasForm 106 = .ok (.aload_n 0, 1) := by decide +kernel
theorem dX6_hasForm_107 : decode cX6_hasForm 107 = .ok (.iconst 2, 1) := by decide +kernel
theorem dX6_hasForm_108 : decode cX6_hasForm 108 = .ok (.iconst 5, 1) := by decide +kernel
theorem dX6_hasForm_109 : decode cX6_hasForm 109 = .ok (.invokevirtual 165, 3) := by decide +kernel
theorem dX6_hasForm_112 : decode cX6_hasForm 112 = .ok (.ifCond .eq 16, 3) := by decide +kernel
theorem dX6_hasForm_115 : decode cX6_hasForm 115 = .ok (.aload_n 0, 1) := by decide +kernel
theorem dX6_hasForm_116 : decode cX6_hasForm 116 = .ok (.bipush 59, 2) := by decide +kernel
theorem dX6_hasForm_118 : decode cX6_hasForm 118 = .ok (.invokevirtual 162, 3) := by decide +kernel
theorem dX6_hasForm_121 : decode cX6_hasForm 121 = .ok (.ifCond .eq 7, 3) := by decide +kernel
theorem dX6_hasForm_124 : decode cX6_hasForm 124 = .ok (.iconst 1, 1) := by decide +kernel
theorem dX6_hasForm_125 : decode cX6_hasForm 125 = .ok (.goto 4, 3) := by decide +kernel
theorem dX6_hasForm_128 : decode cX6_hasForm 128 = .ok (.iconst 0, 1) := by decide +kernel
theorem dX6_hasForm_129 : decode cX6_hasForm 129 = .ok (.ireturn, 1) := by decide +kernel
theorem dX6_wrongNumber_0 : decode cX6_wrongNumber 0 = .ok (.aload_n 0, 1) := by decide +kernel
theorem dX6_wrongNumber_1 : decode cX6_wrongNumber 1 = .ok (.getfield 159, 3) := by decide +kernel
theorem dX6_wrongNumber_4 : decode cX6_wrongNumber 4 = .ok (.bipush 115, 2) := by decide +kernel
theorem dX6_wrongNumber_6 : decode cX6_wrongNumber 6 = .ok (.if_icmp .ne 21, 3) := by decide +kernel
theorem dX6_wrongNumber_9 : decode cX6_wrongNumber 9 = .ok (.aload_n 0, 1) := by decide +kernel
theorem dX6_wrongNumber_10 : decode cX6_wrongNumber 10 = .ok (.getfield 25, 3) := by decide +kernel
theorem dX6_wrongNumber_13 : decode cX6_wrongNumber 13 = .ok (.iconst 0, 1) := by decide +kernel
theorem dX6_wrongNumber_14 : decode cX6_wrongNumber 14 = .ok (.iaload, 1) := by decide +kernel
theorem dX6_wrongNumber_15 : decode cX6_wrongNumber 15 = .ok (.sipush 10000, 3) := by decide +kernel
theorem dX6_wrongNumber_18 : decode cX6_wrongNumber 18 = .ok (.if_icmp .le 7, 3) := by decide +kernel
theorem dX6_wrongNumber_21 : decode cX6_wrongNumber 21 = .ok (.iconst 0, 1) := by decide +kernel
theorem dX6_wrongNumber_22 : decode cX6_wrongNumber 22 = .ok (.goto 4, 3) := by decide +kernel
theorem dX6_wrongNumber_25 : decode cX6_wrongNumber 25 = .ok (.iconst (-1), 1) := by decide +kernel
theorem dX6_wrongNumber_26 : decode cX6_wrongNumber 26 = .ok (.ireturn, 1) := by decide +kernel
theorem dX6_wrongNumber_27 : decode cX6_wrongNumber 27 = .ok (.aload_n 0, 1) := by decide +kernel
theorem dX6_wrongNumber_28 : decode cX6_wrongNumber 28 = .ok (.getfield 25, 3) := by decide +kernel
theorem dX6_wrongNumber_31 : decode cX6_wrongNumber 31 = .ok (.iconst 1, 1) := by decide +kernel
theorem dX6_wrongNumber_32 : decode cX6_wrongNumber 32 = .ok (.iaload, 1) := by decide +kernel
theorem dX6_wrongNumber_33 : decode cX6_wrongNumber 33 = .ok (.sipush 300, 3) := by decide +kernel
theorem dX6_wrongNumber_36 : decode cX6_wrongNumber 36 = .ok (.if_icmp .le 7, 3) := by decide +kernel
theorem dX6_wrongNumber_39 : decode cX6_wrongNumber 39 = .ok (.iconst 1, 1) := by decide +kernel
theorem dX6_wrongNumber_40 : decode cX6_wrongNumber 40 = .ok (.goto 20, 3) := by decide +kernel
theorem dX6_wrongNumber_43 : decode cX6_wrongNumber 43 = .ok (.aload_n 0, 1) := by decide +kernel
theorem dX6_wrongNumber_44 : decode cX6_wrongNumber 44 = .ok (.getfield 25, 3) := by decide +kernel
theorem dX6_wrongNumber_47 : decode cX6_wrongNumber 47 = .ok (.iconst 2, 1) := by decide +kernel
theorem dX6_wrongNumber_48 : decode cX6_wrongNumber 48 = .ok (.iaload, 1) := by decide +kernel
theorem dX6_wrongNumber_49 : decode cX6_wrongNumber 49 = .ok (.sipush 300, 3) := by decide +kernel
theorem dX6_wrongNumber_52 : decode cX6_wrongNumber 52 = .ok (.if_icmp .le 7, 3) := by decide +kernel
theorem dX6_wrongNumber_55 : decode cX6_wrongNumber 55 = .ok (.iconst 2, 1) := by decide +kernel
theorem dX6_wrongNumber_56 : decode cX6_wrongNumber 56 = .ok (.goto 4, 3) := by decide +kernel
theorem dX6_wrongNumber_59 : decode cX6_wrongNumber 59 = .ok (.iconst (-1), 1) := by decide +kernel
theorem dX6_wrongNumber_60 : decode cX6_wrongNumber 60 = .ok (.ireturn, 1) := by decide +kernel
set_option maxRecDepth 20000 in
theorem ggX6_reads_X6_hasForm : GoodIn wsX6_reads wsX6_hasForm := goodIn_r _ [10, 1, 11, 12, 4, 13, 14, 15, 9, 16, 17, 18, 19, 20, 5, 21, 22, 23, 33, 34, 35, 36, 37, 38, 39, 40, 41, 42, 43, 44, 45] (by decide +kernel) (by decide +kernel)
set_option maxRecDepth 20000 in
theorem gX6_reads_X6_hasForm : GoodIn wsX6_reads (wsV RX6 171 RX6 yX6_hasForm wsX6_hasForm) := goodIn_app (goodIn_of _ (by decide +kernel)) ggX6_reads_X6_hasForm
set_option maxRecDepth 20000 in
theorem ggX6_reads_X6_isStage : GoodIn wsX6_reads wsX6_isStage := goodIn_r _ [27, 28, 21, 22, 9, 23, 33, 34, 35, 36, 37, 38, 39, 40, 41, 42, 43, 44, 45] (by decide +kernel) (by decide +kernel)
set_option maxRecDepth 20000 in
theorem gX6_reads_X6_isStage : GoodIn wsX6_reads (wsV RX6 73 RX6 yX6_isStage wsX6_isStage) := goodIn_app (goodIn_of _ (by decide +kernel)) ggX6_reads_X6_isStage
set_option maxRecDepth 20000 in
theorem ggX6_reads_X6_wrongNumber : GoodIn wsX6_reads wsX6_wrongNumber := goodIn_r _ [32, 4, 5, 33, 34, 35, 36, 37, 38, 39, 40, 41, 42, 43, 44, 45] (by decide +kernel) (by decide +kernel)
set_option maxRecDepth 20000 in
theorem gX6_reads_X6_wrongNumber : GoodIn wsX6_reads (wsV RX6 178 RX6 yX6_wrongNumber wsX6_wrongNumber) := goodIn_app (goodIn_of _ (by decide +kernel)) ggX6_reads_X6_wrongNumber
theorem dX6_reads_0 : decode cX6_reads 0 = .ok (.aload_n 0, 1) := by decide +kernel
theorem dX6_reads_1 : decode cX6_reads 1 = .ok (.getfield 156, 3) := by decide +kernel
theorem dX6_reads_4 : decode cX6_reads 4 = .ok (.istore_n 1, 1) := by decide +kernel
theorem dX6_reads_5 : decode cX6_reads 5 = .ok (.aload_n 0, 1) := by decide +kernel
theorem dX6_reads_6 : decode cX6_reads 6 = .ok (.iconst 1, 1) := by decide +kernel
theorem dX6_reads_7 : decode cX6_reads 7 = .ok (.putfield 168, 3) := by decide +kernel
theorem dX6_reads_10 : decode cX6_reads 10 = .ok (.aload_n 0, 1) := by decide +kernel
theorem dX6_reads_11 : decode cX6_reads 11 = .ok (.invokevirtual 171, 3) := by decide +kernel
theorem dX6_reads_14 : decode cX6_reads 14 = .ok (.ifCond .ne 15, 3) := by decide +kernel
theorem dX6_reads_17 : decode cX6_reads 17 = .ok (.aload_n 0, 1) := by decide +kernel
theorem dX6_reads_18 : decode cX6_reads 18 = .ok (.aload_n 0, 1) := by decide +kernel
theorem dX6_reads_19 : decode cX6_reads 19 = .ok (.getfield 156, 3) := by decide +kernel
theorem dX6_reads_22 : decode cX6_reads 22 = .ok (.iload_n 1, 1) := by decide +kernel
theorem dX6_reads_23 : decode cX6_reads 23 = .ok (.isub, 1) := by decide +kernel
theorem dX6_reads_24 : decode cX6_reads 24 = .ok (.putfield 175, 3) := by decide +kernel
theorem dX6_reads_27 : decode cX6_reads 27 = .ok (.iconst 0, 1) := by decide +kernel
theorem dX6_reads_28 : decode cX6_reads 28 = .ok (.ireturn, 1) := by decide +kernel
theorem dX6_reads_29 : decode cX6_reads 29 = .ok (.aload_n 0, 1) := by decide +kernel
theorem dX6_reads_30 : decode cX6_reads 30 = .ok (.iconst 2, 1) := by decide +kernel
theorem dX6_reads_31 : decode cX6_reads 31 = .ok (.putfield 168, 3) := by decide +kernel
theorem dX6_reads_34 : decode cX6_reads 34 = .ok (.aload_n 0, 1) := by decide +kernel
theorem dX6_reads_35 : decode cX6_reads 35 = .ok (.getfield 159, 3) := by decide +kernel
theorem dX6_reads_38 : decode cX6_reads 38 = .ok (.bipush 108, 2) := by decide +kernel
theorem dX6_reads_40 : decode cX6_reads 40 = .ok (.if_icmp .ne 18, 3) := by decide +kernel
theorem dX6_reads_43 : decode cX6_reads 43 = .ok (.aload_n 0, 1) := by decide +kernel
theorem dX6_reads_44 : decode cX6_reads 44 = .ok (.aload_n 0, 1) := by decide +kernel
theorem dX6_reads_45 : decode cX6_reads 45 = .ok (.getfield 25, 3) := by decide +kernel
theorem dX6_reads_48 : decode cX6_reads 48 = .ok (.iconst 0, 1) := by decide +kernel
theorem dX6_reads_49 : decode cX6_reads 49 = .ok (.iaload, 1) := by decide +kernel
theorem dX6_reads_50 : decode cX6_reads 50 = .ok (.invokevirtual 73, 3) := by decide +kernel
theorem dX6_reads_53 : decode cX6_reads 53 = .ok (.ifCond .ne 5, 3) := by decide +kernel
theorem dX6_reads_56 : decode cX6_reads 56 = .ok (.iconst 0, 1) := by decide +kernel
theorem dX6_reads_57 : decode cX6_reads 57 = .ok (.ireturn, 1) := by decide +kernel
theorem dX6_reads_58 : decode cX6_reads 58 = .ok (.aload_n 0, 1) := by decide +kernel
theorem dX6_reads_59 : decode cX6_reads 59 = .ok (.iconst 3, 1) := by decide +kernel
theorem dX6_reads_60 : decode cX6_reads 60 = .ok (.putfield 168, 3) := by decide +kernel
theorem dX6_reads_63 : decode cX6_reads 63 = .ok (.aload_n 0, 1) := by decide +kernel
theorem dX6_reads_64 : decode cX6_reads 64 = .ok (.aload_n 0, 1) := by decide +kernel
theorem dX6_reads_65 : decode cX6_reads 65 = .ok (.invokevirtual 178, 3) := by decide +kernel
theorem dX6_reads_68 : decode cX6_reads 68 = .ok (.putfield 175, 3) := by decide +kernel
theorem dX6_reads_71 : decode cX6_reads 71 = .ok (.aload_n 0, 1) := by decide +kernel
theorem dX6_reads_72 : decode cX6_reads 72 = .ok (.getfield 175, 3) := by decide +kernel
theorem dX6_reads_75 : decode cX6_reads 75 = .ok (.iconst (-1), 1) := by decide +kernel
theorem dX6_reads_76 : decode cX6_reads 76 = .ok (.if_icmp .ne 7, 3) := by decide +kernel
theorem dX6_reads_79 : decode cX6_reads 79 = .ok (.iconst 1, 1) := by decide +kernel
theorem dX6_reads_80 : decode cX6_reads 80 = .ok (.goto 4, 3) := by decide +kernel
theorem dX6_reads_83 : decode cX6_reads 83 = .ok (.iconst 0, 1) := by decide +kernel
theorem dX6_reads_84 : decode cX6_reads 84 = .ok (.ireturn, 1) := by decide +kernel
set_option maxRecDepth 20000 in
theorem ggX6_position_X6_reads : GoodIn wsX6_position wsX6_reads := goodIn_r _ [7, 1, 8, 9, 10, 11, 12, 13, 14, 6, 15, 2, 16, 17, 18, 19, 20, 21, 22, 23, 24, 25, 26, 27, 28, 29, 30, 31, 32, 33, 34, 35, 36, 37, 38, 39, 40, 41, 42, 43, 44, 45, 46, 47, 48, 49] (by decide +kernel) (by decide +kernel)
set_option maxRecDepth 20000 in
theorem gX6_position_X6_reads : GoodIn wsX6_position (wsV RX6 181 RX6 yX6_reads wsX6_reads) := goodIn_app (goodIn_of _ (by decide +kernel)) ggX6_position_X6_reads
theorem dX6_position_0 : decode cX6_position 0 = .ok (.aload_n 0, 1) := by decide +kernel
theorem dX6_position_1 : decode cX6_position 1 = .ok (.iconst 0, 1) := by decide +kernel
theorem dX6_position_2 : decode cX6_position 2 = .ok (.putfield 156, 3) := by decide +kernel
theorem dX6_position_5 : decode cX6_position 5 = .ok (.iconst 0, 1) := by decide +kernel
theorem dX6_position_6 : decode cX6_position 6 = .ok (.istore_n 1, 1) := by decide +kernel
theorem dX6_position_7 : decode cX6_position 7 = .ok (.aload_n 0, 1) := by decide +kernel
theorem dX6_position_8 : decode cX6_position 8 = .ok (.getfield 156, 3) := by decide +kernel
theorem dX6_position_11 : decode cX6_position 11 = .ok (.aload_n 0, 1) := by decide +kernel
theorem dX6_position_12 : decode cX6_position 12 = .ok (.getfield 153, 3) := by decide +kernel
theorem dX6_position_15 : decode cX6_position 15 = .ok (.if_icmp .ge 17, 3) := by decide +kernel
theorem dX6_position_18 : decode cX6_position 18 = .ok (.aload_n 0, 1) := by decide +kernel
theorem dX6_position_19 : decode cX6_position 19 = .ok (.getfield 156, 3) := by decide +kernel
theorem dX6_position_22 : decode cX6_position 22 = .ok (.istore_n 1, 1) := by decide +kernel
theorem dX6_position_23 : decode cX6_position 23 = .ok (.aload_n 0, 1) := by decide +kernel
theorem dX6_position_24 : decode cX6_position 24 = .ok (.invokevirtual 181, 3) := by decide +kernel
theorem dX6_position_27 : decode cX6_position 27 = .ok (.ifCond .ne (-20), 3) := by decide +kernel
theorem dX6_position_30 : decode cX6_position 30 = .ok (.iload_n 1, 1) := by decide +kernel
theorem dX6_position_31 : decode cX6_position 31 = .ok (.ireturn, 1) := by decide +kernel
theorem dX6_position_32 : decode cX6_position 32 = .ok (.iconst (-1), 1) := by decide +kernel
theorem dX6_position_33 : decode cX6_position 33 = .ok (.ireturn, 1) := by decide +kernel
set_option maxRecDepth 20000 in
theorem ggX6_fault_X6_in : GoodIn wsX6_fault wsX6_in := goodIn_r _ [8] (by decide +kernel) (by decide +kernel)
set_option maxRecDepth 20000 in
theorem gX6_fault_X6_in : GoodIn wsX6_fault (va_wsS RX6 65 yX6_in wsX6_in) := goodIn_app (goodIn_of _ (by decide +kernel)) ggX6_fault_X6_in
set_option maxRecDepth 20000 in
theorem ggX6_fault_X6_position : GoodIn wsX6_fault wsX6_position := goodIn_r _ [12, 13, 14, 15, 16, 17, 7, 18, 3, 4, 19, 20, 21, 22, 23, 24, 25, 26, 27, 28, 29, 30, 31, 32, 33, 5, 6, 8, 34, 35, 36, 37, 38, 39, 40, 41, 42, 43, 44, 45, 46, 47, 48, 49, 50, 51, 52, 53, 54, 55] (by decide +kernel) (by decide +kernel)
set_option maxRecDepth 20000 in
theorem gX6_fault_X6_position : GoodIn wsX6_fault (wsV RX6 184 RX6 yX6_position wsX6_position) := goodIn_app (goodIn_of _ (by decide +kernel)) ggX6_fault_X6_position
theorem dX6_fault_0 : decode cX6_fault 0 = .ok (.iload_n 1, 1) := by decide +kernel
theorem dX6_fault_1 : decode cX6_fault 1 = .ok (.iconst 0, 1) := by decide +kernel
theorem dX6_fault_2 : decode cX6_fault 2 = .ok (.iconst 2, 1) := by decide +kernel
theorem dX6_fault_3 : decode cX6_fault 3 = .ok (.invokestatic 65, 3) := by decide +kernel
theorem dX6_fault_6 : decode cX6_fault 6 = .ok (.ifCond .ne 6, 3) := by decide +kernel
theorem dX6_fault_9 : decode cX6_fault 9 = .ok (.ldc 69, 2) := by decide +kernel
theorem dX6_fault_11 : decode cX6_fault 11 = .ok (.ireturn, 1) := by decide +kernel
theorem dX6_fault_12 : decode cX6_fault 12 = .ok (.aload_n 0, 1) := by decide +kernel
theorem dX6_fault_13 : decode cX6_fault 13 = .ok (.invokevirtual 184, 3) := by decide +kernel
theorem dX6_fault_16 : decode cX6_fault 16 = .ok (.istore_n 2, 1) := by decide +kernel
theorem dX6_fault_17 : decode cX6_fault 17 = .ok (.iload_n 2, 1) := by decide +kernel
theorem dX6_fault_18 : decode cX6_fault 18 = .ok (.iconst (-1), 1) := by decide +kernel
theorem dX6_fault_19 : decode cX6_fault 19 = .ok (.if_icmp .ne 6, 3) := by decide +kernel
theorem dX6_fault_22 : decode cX6_fault 22 = .ok (.ldc 117, 2) := by decide +kernel
theorem dX6_fault_24 : decode cX6_fault 24 = .ok (.ireturn, 1) := by decide +kernel
theorem dX6_fault_25 : decode cX6_fault 25 = .ok (.iload_n 1, 1) := by decide +kernel
theorem dX6_fault_26 : decode cX6_fault 26 = .ok (.ifCond .ne 7, 3) := by decide +kernel
theorem dX6_fault_29 : decode cX6_fault 29 = .ok (.iload_n 2, 1) := by decide +kernel
theorem dX6_fault_30 : decode cX6_fault 30 = .ok (.goto 32, 3) := by decide +kernel
theorem dX6_fault_33 : decode cX6_fault 33 = .ok (.iload_n 1, 1) := by decide +kernel
theorem dX6_fault_34 : decode cX6_fault 34 = .ok (.iconst 1, 1) := by decide +kernel
theorem dX6_fault_35 : decode cX6_fault 35 = .ok (.if_icmp .ne 10, 3) := by decide +kernel
theorem dX6_fault_38 : decode cX6_fault 38 = .ok (.aload_n 0, 1) := by decide +kernel
theorem dX6_fault_39 : decode cX6_fault 39 = .ok (.getfield 168, 3) := by decide +kernel
theorem dX6_fault_42 : decode cX6_fault 42 = .ok (.goto 20, 3) := by decide +kernel
theorem dX6_fault_45 : decode cX6_fault 45 = .ok (.aload_n 0, 1) := by decide +kernel
theorem dX6_fault_46 : decode cX6_fault 46 = .ok (.getfield 168, 3) := by decide +kernel
theorem dX6_fault_49 : decode cX6_fault 49 = .ok (.iconst 2, 1) := by decide +kernel
theorem dX6_fault_50 : decode cX6_fault 50 = .ok (.if_icmp .ne 8, 3) := by decide +kernel
theorem dX6_fault_53 : decode cX6_fault 53 = .ok (.ldc 117, 2) := by decide +kernel
theorem dX6_fault_55 : decode cX6_fault 55 = .ok (.goto 7, 3) := by decide +kernel
theorem dX6_fault_58 : decode cX6_fault 58 = .ok (.aload_n 0, 1) := by decide +kernel
theorem dX6_fault_59 : decode cX6_fault 59 = .ok (.getfield 175, 3) := by decide +kernel
theorem dX6_fault_62 : decode cX6_fault 62 = .ok (.ireturn, 1) := by decide +kernel
set_option maxRecDepth 20000 in
theorem ggX6_play_X6_position : GoodIn wsX6_play wsX6_position := goodIn_r _ [12, 5, 2, 13, 14, 15, 11, 16, 17, 18, 6, 7, 19, 20, 21, 22, 3, 23, 24, 25, 26, 27, 28, 29, 30, 31, 32, 33, 34, 35, 36, 37, 38, 39, 40, 41, 42, 112, 113, 114, 115, 116, 117, 118, 119, 120, 121, 122, 123, 124] (by decide +kernel) (by decide +kernel)
set_option maxRecDepth 20000 in
theorem gX6_play_X6_position : GoodIn wsX6_play (wsV RX6 184 RX6 yX6_position wsX6_position) := goodIn_app (goodIn_of _ (by decide +kernel)) ggX6_play_X6_position
set_option maxRecDepth 20000 in
theorem ggX6_play_X6_handedBehind : GoodIn wsX6_play wsX6_handedBehind := goodIn_r _ [46, 38, 47, 48, 49, 11, 50, 112, 113, 114, 115, 116, 117, 118, 119, 120, 121, 122, 123, 124] (by decide +kernel) (by decide +kernel)
set_option maxRecDepth 20000 in
theorem gX6_play_X6_handedBehind : GoodIn wsX6_play (wsV RX6 85 RX6 yX6_handedBehind wsX6_handedBehind) := goodIn_app (goodIn_of _ (by decide +kernel)) ggX6_play_X6_handedBehind
set_option maxRecDepth 20000 in
theorem ggX6_play_X6_records : GoodIn wsX6_play wsX6_records := goodIn_r _ [54, 55, 56, 38, 112, 113, 114, 115, 116, 117, 118, 119, 120, 121, 122, 123, 124] (by decide +kernel) (by decide +kernel)
set_option maxRecDepth 20000 in
theorem gX6_play_X6_records : GoodIn wsX6_play (wsV RX6 70 RX6 yX6_records wsX6_records) := goodIn_app (goodIn_of _ (by decide +kernel)) ggX6_play_X6_records
set_option maxRecDepth 20000 in
theorem ggX6_play_X6_reads : GoodIn wsX6_play wsX6_reads := goodIn_r _ [16, 5, 17, 18, 6, 7, 19, 20, 21, 11, 22, 2, 3, 23, 24, 25, 26, 27, 28, 29, 30, 31, 32, 33, 34, 35, 36, 37, 38, 39, 40, 41, 42, 112, 113, 114, 115, 116, 117, 118, 119, 120, 121, 122, 123, 124] (by decide +kernel) (by decide +kernel)
set_option maxRecDepth 20000 in
theorem gX6_play_X6_reads : GoodIn wsX6_play (wsV RX6 181 RX6 yX6_reads wsX6_reads) := goodIn_app (goodIn_of _ (by decide +kernel)) ggX6_play_X6_reads
set_option maxRecDepth 20000 in
theorem ggX6_play_X6_gives : GoodIn wsX6_play wsX6_gives := goodIn_r _ [60, 38, 47, 48, 49, 11, 50, 61, 62, 63, 64, 65, 66, 67, 68, 69, 70, 71, 72, 73, 74, 75, 76, 77, 78, 79, 80, 81, 82, 83, 84, 85, 86, 87, 88, 89, 90, 91, 92, 93, 94, 95, 96, 97, 98, 99, 100, 101, 102, 103, 104, 105, 106, 107, 112, 113, 114, 115, 116, 117, 118, 119, 120, 121, 122, 123, 124] (by decide +kernel) (by decide +kernel)
set_option maxRecDepth 20000 in
theorem gX6_play_X6_gives : GoodIn wsX6_play (wsV RX6 89 RX6 yX6_gives wsX6_gives) := goodIn_app (goodIn_of _ (by decide +kernel)) ggX6_play_X6_gives
set_option maxRecDepth 20000 in
theorem ggX6_play_X6_shares : GoodIn wsX6_play wsX6_shares := goodIn_r _ [111, 38, 112, 113, 114, 115, 116, 117, 118, 119, 120, 121, 122, 123, 124] (by decide +kernel) (by decide +kernel)
set_option maxRecDepth 20000 in
theorem gX6_play_X6_shares : GoodIn wsX6_play (wsV RX6 76 RX6 yX6_shares wsX6_shares) := goodIn_app (goodIn_of _ (by decide +kernel)) ggX6_play_X6_shares
theorem dX6_play_0 : decode cX6_play 0 = .ok (.aload_n 0, 1) := by decide +kernel
theorem dX6_play_1 : decode cX6_play 1 = .ok (.invokevirtual 184, 3) := by decide +kernel
theorem dX6_play_4 : decode cX6_play 4 = .ok (.iconst (-1), 1) := by decide +kernel
theorem dX6_play_5 : decode cX6_play 5 = .ok (.if_icmp .eq 6, 3) := by decide +kernel
theorem dX6_play_8 : decode cX6_play 8 = .ok (.ldc 35, 2) := by decide +kernel
theorem dX6_play_10 : decode cX6_play 10 = .ok (.ireturn, 1) := by decide +kernel
theorem dX6_play_11 : decode cX6_play 11 = .ok (.iconst 0, 1) := by decide +kernel
theorem dX6_play_12 : decode cX6_play 12 = .ok (.istore_n 1, 1) := by decide +kernel
theorem dX6_play_13 : decode cX6_play 13 = .ok (.iconst 0, 1) := by decide +kernel
theorem dX6_play_14 : decode cX6_play 14 = .ok (.istore_n 2, 1) := by decide +kernel
theorem dX6_play_15 : decode cX6_play 15 = .ok (.iconst 0, 1) := by decide +kernel
theorem dX6_play_16 : decode cX6_play 16 = .ok (.istore_n 3, 1) := by decide +kernel
theorem dX6_play_17 : decode cX6_play 17 = .ok (.iload_n 3, 1) := by decide +kernel
theorem dX6_play_18 : decode cX6_play 18 = .ok (.aload_n 0, 1) := by decide +kernel
theorem dX6_play_19 : decode cX6_play 19 = .ok (.getfield 153, 3) := by decide +kernel
theorem dX6_play_22 : decode cX6_play 22 = .ok (.if_icmp .ge 47, 3) := by decide +kernel
theorem dX6_play_25 : decode cX6_play 25 = .ok (.iload_n 1, 1) := by decide +kernel
theorem dX6_play_26 : decode cX6_play 26 = .ok (.aload_n 0, 1) := by decide +kernel
theorem dX6_play_27 : decode cX6_play 27 = .ok (.getfield 19, 3) := by decide +kernel
theorem dX6_play_30 : decode cX6_play 30 = .ok (.iload_n 3, 1) := by decide +kernel
theorem dX6_play_31 : decode cX6_play 31 = .ok (.iaload, 1) := by decide +kernel
theorem dX6_play_32 : decode cX6_play 32 = .ok (.bipush 59, 2) := by decide +kernel
theorem dX6_play_34 : decode cX6_play 34 = .ok (.if_icmp .ne 7, 3) := by decide +kernel
theorem dX6_play_37 : decode cX6_play 37 = .ok (.iconst 1, 1) := by decide +kernel
theorem dX6_play_38 : decode cX6_play 38 = .ok (.goto 4, 3) := by decide +kernel
theorem dX6_play_41 : decode cX6_play 41 = .ok (.iconst 0, 1) := by decide +kernel
theorem dX6_play_42 : decode cX6_play 42 = .ok (.iadd, 1) := by decide +kernel
theorem dX6_play_43 : decode cX6_play 43 = .ok (.istore_n 1, 1) := by decide +kernel
theorem dX6_play_44 : decode cX6_play 44 = .ok (.iload_n 2, 1) := by decide +kernel
theorem dX6_play_45 : decode cX6_play 45 = .ok (.aload_n 0, 1) := by decide +kernel
theorem dX6_play_46 : decode cX6_play 46 = .ok (.getfield 19, 3) := by decide +kernel
theorem dX6_play_49 : decode cX6_play 49 = .ok (.iload_n 3, 1) := by decide +kernel
theorem dX6_play_50 : decode cX6_play 50 = .ok (.iaload, 1) := by decide +kernel
theorem dX6_play_51 : decode cX6_play 51 = .ok (.bipush 115, 2) := by decide +kernel
theorem dX6_play_53 : decode cX6_play 53 = .ok (.if_icmp .ne 7, 3) := by decide +kernel
theorem dX6_play_56 : decode cX6_play 56 = .ok (.iconst 1, 1) := by decide +kernel
theorem dX6_play_57 : decode cX6_play 57 = .ok (.goto 4, 3) := by decide +kernel
theorem dX6_play_60 : decode cX6_play 60 = .ok (.iconst 0, 1) := by decide +kernel
theorem dX6_play_61 : decode cX6_play 61 = .ok (.iadd, 1) := by decide +kernel
theorem dX6_play_62 : decode cX6_play 62 = .ok (.istore_n 2, 1) := by decide +kernel
theorem dX6_play_63 : decode cX6_play 63 = .ok (.iinc 3 1, 3) := by decide +kernel
theorem dX6_play_66 : decode cX6_play 66 = .ok (.goto (-49), 3) := by decide +kernel
theorem dX6_play_69 : decode cX6_play 69 = .ok (.aload_n 0, 1) := by decide +kernel
theorem dX6_play_70 : decode cX6_play 70 = .ok (.iload_n 2, 1) := by decide +kernel
theorem dX6_play_71 : decode cX6_play 71 = .ok (.invokevirtual 85, 3) := by decide +kernel
theorem dX6_play_74 : decode cX6_play 74 = .ok (.sipush 999, 3) := by decide +kernel
theorem dX6_play_77 : decode cX6_play 77 = .ok (.if_icmp .le 6, 3) := by decide +kernel
theorem dX6_play_80 : decode cX6_play 80 = .ok (.ldc 88, 2) := by decide +kernel
theorem dX6_play_82 : decode cX6_play 82 = .ok (.ireturn, 1) := by decide +kernel
theorem dX6_play_83 : decode cX6_play 83 = .ok (.aload_n 0, 1) := by decide +kernel
theorem dX6_play_84 : decode cX6_play 84 = .ok (.invokevirtual 70, 3) := by decide +kernel
theorem dX6_play_87 : decode cX6_play 87 = .ok (.aload_n 0, 1) := by decide +kernel
theorem dX6_play_88 : decode cX6_play 88 = .ok (.iconst 0, 1) := by decide +kernel
theorem dX6_play_89 : decode cX6_play 89 = .ok (.putfield 156, 3) := by decide +kernel
theorem dX6_play_92 : decode cX6_play 92 = .ok (.iconst 0, 1) := by decide +kernel
theorem dX6_play_93 : decode cX6_play 93 = .ok (.istore_n 3, 1) := by decide +kernel
theorem dX6_play_94 : decode cX6_play 94 = .ok (.iload_n 3, 1) := by decide +kernel
theorem dX6_play_95 : decode cX6_play 95 = .ok (.iload_n 1, 1) := by decide +kernel
theorem dX6_play_96 : decode cX6_play 96 = .ok (.if_icmp .ge 60, 3) := by decide +kernel
theorem dX6_play_99 : decode cX6_play 99 = .ok (.aload_n 0, 1) := by decide +kernel
theorem dX6_play_100 : decode cX6_play 100 = .ok (.invokevirtual 181, 3) := by decide +kernel
theorem dX6_play_103 : decode cX6_play 103 = .ok (.istore 4, 2) := by decide +kernel
theorem dX6_play_105 : decode cX6_play 105 = .ok (.aload_n 0, 1) := by decide +kernel
theorem dX6_play_106 : decode cX6_play 106 = .ok (.getfield 159, 3) := by decide +kernel
theorem dX6_play_109 : decode cX6_play 109 = .ok (.bipush 115, 2) := by decide +kernel
theorem dX6_play_111 : decode cX6_play 111 = .ok (.if_icmp .ne 16, 3) := by decide +kernel
theorem dX6_play_114 : decode cX6_play 114 = .ok (.aload_n 0, 1) := by decide +kernel
theorem dX6_play_115 : decode cX6_play 115 = .ok (.aload_n 0, 1) := by decide +kernel
theorem dX6_play_116 : decode cX6_play 116 = .ok (.getfield 25, 3) := by decide +kernel
theorem dX6_play_119 : decode cX6_play 119 = .ok (.iconst 0, 1) := by decide +kernel
theorem dX6_play_120 : decode cX6_play 120 = .ok (.iaload, 1) := by decide +kernel
theorem dX6_play_121 : decode cX6_play 121 = .ok (.invokevirtual 89, 3) := by decide +kernel
theorem dX6_play_124 : decode cX6_play 124 = .ok (.goto 26, 3) := by decide +kernel
theorem dX6_play_127 : decode cX6_play 127 = .ok (.aload_n 0, 1) := by decide +kernel
theorem dX6_play_128 : decode cX6_play 128 = .ok (.aload_n 0, 1) := by decide +kernel
theorem dX6_play_129 : decode cX6_play 129 = .ok (.getfield 25, 3) := by decide +kernel
theorem dX6_play_132 : decode cX6_play 132 = .ok (.iconst 0, 1) := by decide +kernel
theorem dX6_play_133 : decode cX6_play 133 = .ok (.iaload, 1) := by decide +kernel
theorem dX6_play_134 : decode cX6_play 134 = .ok (.aload_n 0, 1) := by decide +kernel
theorem dX6_play_135 : decode cX6_play 135 = .ok (.getfield 25, 3) := by decide +kernel
theorem dX6_play_138 : decode cX6_play 138 = .ok (.iconst 1, 1) := by decide +kernel
theorem dX6_play_139 : decode cX6_play 139 = .ok (.iaload, 1) := by decide +kernel
theorem dX6_play_140 : decode cX6_play 140 = .ok (.aload_n 0, 1) := by decide +kernel
theorem dX6_play_141 : decode cX6_play 141 = .ok (.getfield 25, 3) := by decide +kernel
theorem dX6_play_144 : decode cX6_play 144 = .ok (.iconst 2, 1) := by decide +kernel
theorem dX6_play_145 : decode cX6_play 145 = .ok (.iaload, 1) := by decide +kernel
theorem dX6_play_146 : decode cX6_play 146 = .ok (.invokevirtual 76, 3) := by decide +kernel
theorem dX6_play_149 : decode cX6_play 149 = .ok (.pop, 1) := by decide +kernel
theorem dX6_play_150 : decode cX6_play 150 = .ok (.iinc 3 1, 3) := by decide +kernel
theorem dX6_play_153 : decode cX6_play 153 = .ok (.goto (-59), 3) := by decide +kernel
theorem dX6_play_156 : decode cX6_play 156 = .ok (.iload_n 1, 1) := by decide +kernel
theorem dX6_play_157 : decode cX6_play 157 = .ok (.ireturn, 1) := by decide +kernel
theorem dJxf58ca_isNaN_12338_0 : decode cJxf58ca_isNaN_12338 0 = .ok (.fload_n 0, 1) := by decide +kernel
theorem dJxf58ca_isNaN_12338_1 : decode cJxf58ca_isNaN_12338 1 = .ok (.fload_n 0, 1) := by decide +kernel
theorem dJxf58ca_isNaN_12338_2 : decode cJxf58ca_isNaN_12338 2 = .ok (.fcmp .l, 1) := by decide +kernel
theorem dJxf58ca_isNaN_12338_3 : decode cJxf58ca_isNaN_12338 3 = .ok (.ifCond .eq 7, 3) := by decide +kernel
theorem dJxf58ca_isNaN_12338_6 : decode cJxf58ca_isNaN_12338 6 = .ok (.iconst 1, 1) := by decide +kernel
theorem dJxf58ca_isNaN_12338_7 : decode cJxf58ca_isNaN_12338 7 = .ok (.goto 4, 3) := by decide +kernel
theorem dJxf58ca_isNaN_12338_10 : decode cJxf58ca_isNaN_12338 10 = .ok (.iconst 0, 1) := by decide +kernel
theorem dJxf58ca_isNaN_12338_11 : decode cJxf58ca_isNaN_12338 11 = .ok (.ireturn, 1) := by decide +kernel
set_option maxRecDepth 20000 in
theorem ggJxf58ca_floatToIntBits_5c35a_Jxf58ca_isNaN_12338 : GoodIn wsJxf58ca_floatToIntBits_5c35a wsJxf58ca_isNaN_12338 := goodIn_r _ [9] (by decide +kernel) (by decide +kernel)
set_option maxRecDepth 20000 in
theorem gJxf58ca_floatToIntBits_5c35a_Jxf58ca_isNaN_12338 : GoodIn wsJxf58ca_floatToIntBits_5c35a (va_wsS RJxf58ca 59 yJxf58ca_isNaN_12338 wsJxf58ca_isNaN_12338) := goodIn_app (goodIn_of _ (by decide +kernel)) ggJxf58ca_floatToIntBits_5c35a_Jxf58ca_isNaN_12338
theorem dJxf58ca_floatToIntBits_5c35a_0 : decode cJxf58ca_floatToIntBits_5c35a 0 = .ok (.fload_n 0, 1) := by decide +kernel
theorem dJxf58ca_floatToIntBits_5c35a_1 : decode cJxf58ca_floatToIntBits_5c35a 1 = .ok (.invokestatic 59, 3) := by decide +kernel
theorem dJxf58ca_floatToIntBits_5c35a_4 : decode cJxf58ca_floatToIntBits_5c35a 4 = .ok (.ifCond .ne 8, 3) := by decide +kernel
theorem dJxf58ca_floatToIntBits_5c35a_7 : decode cJxf58ca_floatToIntBits_5c35a 7 = .ok (.fload_n 0, 1) := by decide +kernel
theorem dJxf58ca_floatToIntBits_5c35a_8 : decode cJxf58ca_floatToIntBits_5c35a 8 = .ok (.invokestatic 74, 3) := by decide +kernel
theorem dJxf58ca_floatToIntBits_5c35a_11 : decode cJxf58ca_floatToIntBits_5c35a 11 = .ok (.ireturn, 1) := by decide +kernel
theorem dJxf58ca_floatToIntBits_5c35a_12 : decode cJxf58ca_floatToIntBits_5c35a 12 = .ok (.ldc 77, 2) := by decide +kernel
theorem dJxf58ca_floatToIntBits_5c35a_14 : decode cJxf58ca_floatToIntBits_5c35a 14 = .ok (.ireturn, 1) := by decide +kernel
theorem dJ9_floorDiv_7cf53_0 : decode cJ9_floorDiv_7cf53 0 = .ok (.iload_n 0, 1) := by decide +kernel
theorem dJ9_floorDiv_7cf53_1 : decode cJ9_floorDiv_7cf53 1 = .ok (.iload_n 1, 1) := by decide +kernel
theorem dJ9_floorDiv_7cf53_2 : decode cJ9_floorDiv_7cf53 2 = .ok (.idiv, 1) := by decide +kernel
theorem dJ9_floorDiv_7cf53_3 : decode cJ9_floorDiv_7cf53 3 = .ok (.istore_n 2, 1) := by decide +kernel
theorem dJ9_floorDiv_7cf53_4 : decode cJ9_floorDiv_7cf53 4 = .ok (.iload_n 0, 1) := by decide +kernel
theorem dJ9_floorDiv_7cf53_5 : decode cJ9_floorDiv_7cf53 5 = .ok (.iload_n 1, 1) := by decide +kernel
theorem dJ9_floorDiv_7cf53_6 : decode cJ9_floorDiv_7cf53 6 = .ok (.ixor, 1) := by decide +kernel
theorem dJ9_floorDiv_7cf53_7 : decode cJ9_floorDiv_7cf53 7 = .ok (.ifCond .ge 14, 3) := by decide +kernel
theorem dJ9_floorDiv_7cf53_10 : decode cJ9_floorDiv_7cf53 10 = .ok (.iload_n 2, 1) := by decide +kernel
theorem dJ9_floorDiv_7cf53_11 : decode cJ9_floorDiv_7cf53 11 = .ok (.iload_n 1, 1) := by decide +kernel
theorem dJ9_floorDiv_7cf53_12 : decode cJ9_floorDiv_7cf53 12 = .ok (.imul, 1) := by decide +kernel
theorem dJ9_floorDiv_7cf53_13 : decode cJ9_floorDiv_7cf53 13 = .ok (.iload_n 0, 1) := by decide +kernel
theorem dJ9_floorDiv_7cf53_14 : decode cJ9_floorDiv_7cf53 14 = .ok (.if_icmp .eq 7, 3) := by decide +kernel
theorem dJ9_floorDiv_7cf53_17 : decode cJ9_floorDiv_7cf53 17 = .ok (.iload_n 2, 1) := by decide +kernel
theorem dJ9_floorDiv_7cf53_18 : decode cJ9_floorDiv_7cf53 18 = .ok (.iconst 1, 1) := by decide +kernel
theorem dJ9_floorDiv_7cf53_19 : decode cJ9_floorDiv_7cf53 19 = .ok (.isub, 1) := by decide +kernel
theorem dJ9_floorDiv_7cf53_20 : decode cJ9_floorDiv_7cf53 20 = .ok (.ireturn, 1) := by decide +kernel
theorem dJ9_floorDiv_7cf53_21 : decode cJ9_floorDiv_7cf53 21 = .ok (.iload_n 2, 1) := by decide +kernel
theorem dJ9_floorDiv_7cf53_22 : decode cJ9_floorDiv_7cf53 22 = .ok (.ireturn, 1) := by decide +kernel
theorem dJ9_abs_0f7a4_0 : decode cJ9_abs_0f7a4 0 = .ok (.iload_n 0, 1) := by decide +kernel
theorem dJ9_abs_0f7a4_1 : decode cJ9_abs_0f7a4 1 = .ok (.ifCond .ge 8, 3) := by decide +kernel
theorem dJ9_abs_0f7a4_4 : decode cJ9_abs_0f7a4 4 = .ok (.iload_n 0, 1) := by decide +kernel
theorem dJ9_abs_0f7a4_5 : decode cJ9_abs_0f7a4 5 = .ok (.ineg, 1) := by decide +kernel
theorem dJ9_abs_0f7a4_6 : decode cJ9_abs_0f7a4 6 = .ok (.goto 4, 3) := by decide +kernel
theorem dJ9_abs_0f7a4_9 : decode cJ9_abs_0f7a4 9 = .ok (.iload_n 0, 1) := by decide +kernel
theorem dJ9_abs_0f7a4_10 : decode cJ9_abs_0f7a4 10 = .ok (.ireturn, 1) := by decide +kernel
theorem dJ9_max_7cf53_0 : decode cJ9_max_7cf53 0 = .ok (.iload_n 0, 1) := by decide +kernel
theorem dJ9_max_7cf53_1 : decode cJ9_max_7cf53 1 = .ok (.iload_n 1, 1) := by decide +kernel
theorem dJ9_max_7cf53_2 : decode cJ9_max_7cf53 2 = .ok (.if_icmp .lt 7, 3) := by decide +kernel
theorem dJ9_max_7cf53_5 : decode cJ9_max_7cf53 5 = .ok (.iload_n 0, 1) := by decide +kernel
theorem dJ9_max_7cf53_6 : decode cJ9_max_7cf53 6 = .ok (.goto 4, 3) := by decide +kernel
theorem dJ9_max_7cf53_9 : decode cJ9_max_7cf53 9 = .ok (.iload_n 1, 1) := by decide +kernel
theorem dJ9_max_7cf53_10 : decode cJ9_max_7cf53 10 = .ok (.ireturn, 1) := by decide +kernel
theorem dJ9_min_7cf53_0 : decode cJ9_min_7cf53 0 = .ok (.iload_n 0, 1) := by decide +kernel
theorem dJ9_min_7cf53_1 : decode cJ9_min_7cf53 1 = .ok (.iload_n 1, 1) := by decide +kernel
theorem dJ9_min_7cf53_2 : decode cJ9_min_7cf53 2 = .ok (.if_icmp .gt 7, 3) := by decide +kernel
theorem dJ9_min_7cf53_5 : decode cJ9_min_7cf53 5 = .ok (.iload_n 0, 1) := by decide +kernel
theorem dJ9_min_7cf53_6 : decode cJ9_min_7cf53 6 = .ok (.goto 4, 3) := by decide +kernel
theorem dJ9_min_7cf53_9 : decode cJ9_min_7cf53 9 = .ok (.iload_n 1, 1) := by decide +kernel
theorem dJ9_min_7cf53_10 : decode cJ9_min_7cf53 10 = .ok (.ireturn, 1) := by decide +kernel
theorem dJ9_min_f86c9_0 : decode cJ9_min_f86c9 0 = .ok (.lload_n 0, 1) := by decide +kernel
theorem dJ9_min_f86c9_1 : decode cJ9_min_f86c9 1 = .ok (.lload_n 2, 1) := by decide +kernel
theorem dJ9_min_f86c9_2 : decode cJ9_min_f86c9 2 = .ok (.lcmp, 1) := by decide +kernel
theorem dJ9_min_f86c9_3 : decode cJ9_min_f86c9 3 = .ok (.ifCond .gt 7, 3) := by decide +kernel
theorem dJ9_min_f86c9_6 : decode cJ9_min_f86c9 6 = .ok (.lload_n 0, 1) := by decide +kernel
theorem dJ9_min_f86c9_7 : decode cJ9_min_f86c9 7 = .ok (.goto 4, 3) := by decide +kernel
theorem dJ9_min_f86c9_10 : decode cJ9_min_f86c9 10 = .ok (.lload_n 2, 1) := by decide +kernel
theorem dJ9_min_f86c9_11 : decode cJ9_min_f86c9 11 = .ok (.lreturn, 1) := by decide +kernel
theorem dJ7_fill_53178_0 : decode cJ7_fill_53178 0 = .ok (.iconst 0, 1) := by decide +kernel
theorem dJ7_fill_53178_1 : decode cJ7_fill_53178 1 = .ok (.istore_n 2, 1) := by decide +kernel
theorem dJ7_fill_53178_2 : decode cJ7_fill_53178 2 = .ok (.aload_n 0, 1) := by decide +kernel
theorem dJ7_fill_53178_3 : decode cJ7_fill_53178 3 = .ok (.arraylength, 1) := by decide +kernel
theorem dJ7_fill_53178_4 : decode cJ7_fill_53178 4 = .ok (.istore_n 3, 1) := by decide +kernel
theorem dJ7_fill_53178_5 : decode cJ7_fill_53178 5 = .ok (.iload_n 2, 1) := by decide +kernel
theorem dJ7_fill_53178_6 : decode cJ7_fill_53178 6 = .ok (.iload_n 3, 1) := by decide +kernel
theorem dJ7_fill_53178_7 : decode cJ7_fill_53178 7 = .ok (.if_icmp .ge 13, 3) := by decide +kernel
theorem dJ7_fill_53178_10 : decode cJ7_fill_53178 10 = .ok (.aload_n 0, 1) := by decide +kernel
theorem dJ7_fill_53178_11 : decode cJ7_fill_53178 11 = .ok (.iload_n 2, 1) := by decide +kernel
theorem dJ7_fill_53178_12 : decode cJ7_fill_53178 12 = .ok (.iload_n 1, 1) := by decide +kernel
theorem dJ7_fill_53178_13 : decode cJ7_fill_53178 13 = .ok (.iastore, 1) := by decide +kernel
theorem dJ7_fill_53178_14 : decode cJ7_fill_53178 14 = .ok (.iinc 2 1, 3) := by decide +kernel
theorem dJ7_fill_53178_17 : decode cJ7_fill_53178 17 = .ok (.goto (-12), 3) := by decide +kernel
theorem dJ7_fill_53178_20 : decode cJ7_fill_53178 20 = .ok (.return_, 1) := by decide +kernel
end
section
set_option maxRecDepth 20000 in
theorem ggL_law_X5_init : GoodIn wsL_law wsX5_init := goodIn_r _ [8, 9, 10, 11, 12, 13, 14, 15, 16, 17, 18, 19, 20, 21, 22, 23, 24, 25, 26, 27, 28, 29, 30, 31, 32, 33, 34, 35, 36, 37, 38, 39, 40, 41, 42, 43, 44, 45, 46, 47, 48, 49, 50, 51, 52, 53, 54, 55, 56, 57, 58, 59, 60, 61, 62, 63, 64, 65, 66, 67, 68, 69, 70, 71, 72, 719, 720, 721, 722, 723, 724, 725, 726, 727, 702, 703, 704, 705, 728, 729, 730, 731, 732, 733, 734, 735, 736, 737, 738, 739, 740, 741, 742, 743, 744, 745, 746, 747, 748, 749] (by decide +kernel) (by decide +kernel)
set_option maxRecDepth 20000 in
theorem gL_law_X5_init : GoodIn wsL_law (wsX5_init) := ggL_law_X5_init
set_option maxRecDepth 20000 in
theorem ggL_law_X6_init : GoodIn wsL_law wsX6_init := goodIn_r _ [75, 76, 10, 11, 44, 77, 78, 79, 80, 81, 82, 83, 84, 85, 5, 86, 706, 707, 708, 709, 710, 711, 712, 713, 714, 715, 716, 717, 718] (by decide +kernel) (by decide +kernel)
set_option maxRecDepth 20000 in
theorem gL_law_X6_init : GoodIn wsL_law (wsX6_init) := ggL_law_X6_init
set_option maxRecDepth 20000 in
theorem ggL_law_X5_begin : GoodIn wsL_law wsX5_begin := goodIn_r _ [90, 91, 15, 92, 19, 93, 94, 2, 95, 96, 97, 98, 18, 99, 100, 101, 66, 102, 103, 104, 14, 105, 32, 36, 43, 106, 107, 108, 109, 110, 111, 45, 46, 47, 48, 112, 113, 114, 26, 115, 52, 53, 116, 54, 55, 117, 118, 119, 120, 121, 122, 123, 35, 124, 59, 125, 60, 126, 127, 128, 129, 130, 131, 132, 133, 134, 135, 136, 137, 138, 139, 140, 141, 142, 143, 144, 145, 146, 147, 148, 149, 150, 702, 703, 704, 705, 719, 720, 721, 722, 723, 724, 725, 726, 727, 728, 729, 730, 740, 741, 742, 743, 744, 745, 746, 747, 748, 749] (by decide +kernel) (by decide +kernel)
set_option maxRecDepth 20000 in
theorem gL_law_X5_begin : GoodIn wsL_law (wsV RL 13 RX5 yX5_begin wsX5_begin) := goodIn_app (goodIn_of _ (by decide +kernel)) ggL_law_X5_begin
set_option maxRecDepth 20000 in
theorem ggL_law_X6_begin : GoodIn wsL_law wsX6_begin := goodIn_r _ [154, 155, 77, 156, 157, 5, 158, 159, 160, 161, 162, 163, 79, 83, 84, 85, 86, 706, 707, 708, 709, 710, 711, 712, 713, 714, 715, 716, 717, 718] (by decide +kernel) (by decide +kernel)
set_option maxRecDepth 20000 in
theorem gL_law_X6_begin : GoodIn wsL_law (wsV RL 17 RX6 yX6_begin wsX6_begin) := goodIn_app (goodIn_of _ (by decide +kernel)) ggL_law_X6_begin
set_option maxRecDepth 20000 in
theorem ggL_law_X5_stage : GoodIn wsL_law wsX5_stage := goodIn_r _ [167, 15, 168, 91, 169, 170, 19, 171, 172, 173, 26, 174, 52, 93, 94, 2, 95, 96, 97, 98, 18, 99, 100, 101, 66, 102, 103, 104, 14, 105, 32, 36, 43, 106, 107, 108, 109, 110, 111, 45, 46, 47, 48, 112, 113, 114, 115, 53, 116, 54, 55, 117, 118, 119, 120, 121, 122, 123, 35, 124, 59, 125, 60, 175, 135, 136, 137, 702, 703, 704, 705, 719, 720, 721, 722, 723, 724, 725, 726, 727, 740, 741, 742, 743, 744, 745, 746, 747, 728, 729, 730, 748, 749] (by decide +kernel) (by decide +kernel)
set_option maxRecDepth 20000 in
theorem gL_law_X5_stage : GoodIn wsL_law (wsV RL 18 RX5 yX5_stage wsX5_stage) := goodIn_app (goodIn_of _ (by decide +kernel)) ggL_law_X5_stage
set_option maxRecDepth 20000 in
theorem ggL_law_X6_stage : GoodIn wsL_law wsX6_stage := goodIn_r _ [179, 155, 180, 181, 182, 5, 183, 77, 156, 157, 158, 159, 160, 161, 162, 163, 79, 184, 185, 186, 187, 706, 707, 708, 709, 710, 711, 712, 713, 714, 715, 716, 717, 718] (by decide +kernel) (by decide +kernel)
set_option maxRecDepth 20000 in
theorem gL_law_X6_stage : GoodIn wsL_law (wsV RL 22 RX6 yX6_stage wsX6_stage) := goodIn_app (goodIn_of _ (by decide +kernel)) ggL_law_X6_stage
set_option maxRecDepth 20000 in
theorem ggL_law_X5_set : GoodIn wsL_law wsX5_set := goodIn_r _ [191, 192, 193, 91, 15, 194, 19, 93, 94, 2, 95, 96, 97, 98, 18, 99, 100, 101, 66, 102, 103, 104, 14, 105, 32, 36, 43, 106, 107, 108, 109, 110, 111, 45, 46, 47, 48, 112, 113, 114, 26, 115, 52, 53, 116, 54, 55, 117, 118, 119, 120, 121, 122, 123, 35, 124, 59, 125, 60, 702, 703, 704, 705, 719, 720, 721, 722, 723, 724, 725, 726, 727, 728, 729, 730, 740, 741, 742, 743, 744, 745, 746, 747, 748, 749] (by decide +kernel) (by decide +kernel)
set_option maxRecDepth 20000 in
theorem gL_law_X5_set : GoodIn wsL_law (wsV RL 23 RX5 yX5_set wsX5_set) := goodIn_app (goodIn_of _ (by decide +kernel)) ggL_law_X5_set
set_option maxRecDepth 20000 in
theorem ggL_law_X6_set : GoodIn wsL_law wsX6_set := goodIn_r _ [198, 155, 77, 199, 200, 5, 201, 202, 156, 157, 158, 159, 160, 161, 162, 163, 79, 706, 707, 708, 709, 710, 711, 712, 713, 714, 715, 716, 717, 718] (by decide +kernel) (by decide +kernel)
set_option maxRecDepth 20000 in
theorem gL_law_X6_set : GoodIn wsL_law (wsV RL 27 RX6 yX6_set wsX6_set) := goodIn_app (goodIn_of _ (by decide +kernel)) ggL_law_X6_set
set_option maxRecDepth 20000 in
theorem ggL_law_X5_give : GoodIn wsL_law wsX5_give := goodIn_r _ [206, 91, 93, 94, 2, 95, 207, 208, 209, 210, 15, 92, 211, 19, 212, 213, 214, 14, 215, 110, 216, 217, 218, 219, 43, 96, 97, 98, 18, 99, 100, 101, 66, 102, 103, 104, 105, 32, 36, 106, 107, 108, 109, 111, 45, 46, 47, 48, 112, 113, 114, 26, 115, 52, 53, 116, 54, 55, 117, 118, 119, 120, 121, 122, 123, 35, 124, 59, 125, 60, 220, 221, 222, 223, 224, 225, 226, 227, 228, 229, 230, 231, 232, 233, 234, 235, 236, 237, 238, 239, 240, 241, 242, 243, 244, 245, 246, 247, 248, 249, 250, 251, 252, 253, 254, 255, 256, 257, 258, 259, 260, 261, 262, 263, 264, 265, 266, 267, 268, 269, 270, 271, 272, 273, 274, 275, 276, 277, 278, 279, 280, 281, 282, 283, 284, 285, 702, 703, 704, 705, 719, 720, 721, 722, 723, 724, 725, 726, 727, 728, 729, 730, 740, 741, 742, 743, 744, 745, 746, 747, 748, 749] (by decide +kernel) (by decide +kernel)
set_option maxRecDepth 20000 in
theorem gL_law_X5_give : GoodIn wsL_law (wsV RL 28 RX5 yX5_give wsX5_give) := goodIn_app (goodIn_of _ (by decide +kernel)) ggL_law_X5_give
set_option maxRecDepth 20000 in
theorem ggL_law_X6_give : GoodIn wsL_law wsX6_give := goodIn_r _ [289, 155, 290, 77, 156, 157, 5, 158, 291, 292, 293, 294, 295, 296, 297, 298, 159, 160, 161, 162, 163, 79, 299, 300, 301, 302, 303, 304, 305, 306, 307, 308, 309, 310, 311, 312, 313, 314, 315, 316, 317, 318, 319, 320, 321, 322, 323, 324, 325, 326, 327, 81, 328, 329, 330, 331, 332, 333, 334, 335, 336, 337, 338, 339, 340, 341, 342, 343, 344, 345, 346, 347, 348, 706, 707, 708, 709, 710, 711, 712, 713, 714, 715, 716, 717, 718] (by decide +kernel) (by decide +kernel)
set_option maxRecDepth 20000 in
theorem gL_law_X6_give : GoodIn wsL_law (wsV RL 31 RX6 yX6_give wsX6_give) := goodIn_app (goodIn_of _ (by decide +kernel)) ggL_law_X6_give
set_option maxRecDepth 20000 in
theorem ggL_law_X5_idle : GoodIn wsL_law wsX5_idle := goodIn_r _ [352, 91, 93, 94, 2, 95, 207, 208, 209, 210, 15, 92, 211, 19, 212, 213, 214, 14, 215, 110, 216, 217, 218, 219, 43, 96, 97, 98, 18, 99, 100, 101, 66, 102, 103, 104, 105, 32, 36, 106, 107, 108, 109, 111, 45, 46, 47, 48, 112, 113, 114, 26, 115, 52, 53, 116, 54, 55, 117, 118, 119, 120, 121, 122, 123, 35, 124, 59, 125, 60, 220, 221, 222, 223, 224, 225, 226, 227, 228, 229, 230, 231, 232, 233, 234, 235, 236, 237, 238, 239, 240, 241, 242, 243, 244, 245, 246, 247, 248, 249, 250, 251, 252, 253, 254, 255, 256, 257, 258, 259, 260, 261, 262, 263, 264, 265, 266, 267, 268, 269, 270, 271, 272, 273, 274, 275, 276, 277, 278, 279, 280, 281, 282, 283, 284, 285, 702, 703, 704, 705, 719, 720, 721, 722, 723, 724, 725, 726, 727, 728, 729, 730, 740, 741, 742, 743, 744, 745, 746, 747, 748, 749] (by decide +kernel) (by decide +kernel)
set_option maxRecDepth 20000 in
theorem gL_law_X5_idle : GoodIn wsL_law (wsV RL 32 RX5 yX5_idle wsX5_idle) := goodIn_app (goodIn_of _ (by decide +kernel)) ggL_law_X5_idle
set_option maxRecDepth 20000 in
theorem ggL_law_X6_idle : GoodIn wsL_law wsX6_idle := goodIn_r _ [356, 155, 290, 77, 156, 157, 5, 158, 291, 292, 293, 294, 295, 296, 297, 298, 159, 160, 161, 162, 163, 79, 299, 300, 301, 302, 303, 304, 305, 306, 307, 308, 309, 310, 311, 312, 313, 314, 315, 316, 317, 318, 319, 320, 321, 322, 323, 324, 325, 326, 327, 81, 328, 329, 330, 331, 332, 333, 334, 335, 336, 337, 338, 339, 340, 341, 342, 343, 344, 345, 346, 347, 348, 706, 707, 708, 709, 710, 711, 712, 713, 714, 715, 716, 717, 718] (by decide +kernel) (by decide +kernel)
set_option maxRecDepth 20000 in
theorem gL_law_X6_idle : GoodIn wsL_law (wsV RL 35 RX6 yX6_idle wsX6_idle) := goodIn_app (goodIn_of _ (by decide +kernel)) ggL_law_X6_idle
set_option maxRecDepth 20000 in
theorem ggL_law_X5_stageOf : GoodIn wsL_law wsX5_stageOf := goodIn_r _ [360, 15, 168, 91, 361, 169, 170, 171, 172, 173, 26, 174, 52, 362, 242, 243, 244, 53, 54, 363, 246, 247, 248, 55, 241, 364, 365, 366, 367, 245, 702, 703, 704, 705, 719, 720, 721, 722, 723, 724, 725, 726, 727, 740, 741, 742, 743, 744, 745, 746, 747] (by decide +kernel) (by decide +kernel)
set_option maxRecDepth 20000 in
theorem gL_law_X5_stageOf : GoodIn wsL_law (wsV RL 36 RX5 yX5_stageOf wsX5_stageOf) := goodIn_app (goodIn_of _ (by decide +kernel)) ggL_law_X5_stageOf
set_option maxRecDepth 20000 in
theorem ggL_law_X6_stageOf : GoodIn wsL_law wsX6_stageOf := goodIn_r _ [371, 155, 77, 180, 181, 182, 5, 183, 156, 157, 158, 310, 311, 312, 316, 317, 318, 313, 314, 315, 706, 707, 708, 709, 710, 711, 712, 713, 714, 715, 716, 717, 718] (by decide +kernel) (by decide +kernel)
set_option maxRecDepth 20000 in
theorem gL_law_X6_stageOf : GoodIn wsL_law (wsV RL 39 RX6 yX6_stageOf wsX6_stageOf) := goodIn_app (goodIn_of _ (by decide +kernel)) ggL_law_X6_stageOf
set_option maxRecDepth 20000 in
theorem ggL_law_X5_outputOf : GoodIn wsL_law wsX5_outputOf := goodIn_r _ [375, 91, 15, 376, 92, 377, 378, 379, 93, 94, 2, 95, 380, 381, 382, 14, 383, 110, 32, 232, 384, 238, 239, 240, 385, 386, 387, 388, 250, 251, 252, 389, 390, 391, 392, 46, 249, 393, 394, 395, 396, 48, 397, 47, 45, 702, 703, 704, 705, 719, 720, 721, 722, 723, 724, 725, 726, 727, 740, 741, 742, 743, 744, 745, 746, 747] (by decide +kernel) (by decide +kernel)
set_option maxRecDepth 20000 in
theorem gL_law_X5_outputOf : GoodIn wsL_law (wsV RL 40 RX5 yX5_outputOf wsX5_outputOf) := goodIn_app (goodIn_of _ (by decide +kernel)) ggL_law_X5_outputOf
set_option maxRecDepth 20000 in
theorem ggL_law_X6_outputOf : GoodIn wsL_law wsX6_outputOf := goodIn_r _ [401, 155, 77, 402, 156, 157, 5, 158, 403, 404, 405, 406, 407, 408, 409, 410, 706, 707, 708, 709, 710, 711, 712, 713, 714, 715, 716, 717, 718] (by decide +kernel) (by decide +kernel)
set_option maxRecDepth 20000 in
theorem gL_law_X6_outputOf : GoodIn wsL_law (wsV RL 43 RX6 yX6_outputOf wsX6_outputOf) := goodIn_app (goodIn_of _ (by decide +kernel)) ggL_law_X6_outputOf
set_option maxRecDepth 20000 in
theorem ggL_law_X5_pairOf : GoodIn wsL_law wsX5_pairOf := goodIn_r _ [414, 91, 15, 415, 376, 416, 417, 93, 94, 2, 95, 418, 267, 268, 35, 269, 60, 702, 703, 704, 705, 719, 720, 721, 722, 723, 724, 725, 726, 727, 748, 749] (by decide +kernel) (by decide +kernel)
set_option maxRecDepth 20000 in
theorem gL_law_X5_pairOf : GoodIn wsL_law (wsV RL 44 RX5 yX5_pairOf wsX5_pairOf) := goodIn_app (goodIn_of _ (by decide +kernel)) ggL_law_X5_pairOf
set_option maxRecDepth 20000 in
theorem ggL_law_X6_pairOf : GoodIn wsL_law wsX6_pairOf := goodIn_r _ [422, 155, 77, 402, 156, 157, 5, 158, 706, 707, 708, 709, 710, 711, 712, 713, 714, 715, 716, 717, 718] (by decide +kernel) (by decide +kernel)
set_option maxRecDepth 20000 in
theorem gL_law_X6_pairOf : GoodIn wsL_law (wsV RL 47 RX6 yX6_pairOf wsX6_pairOf) := goodIn_app (goodIn_of _ (by decide +kernel)) ggL_law_X6_pairOf
set_option maxRecDepth 20000 in
theorem ggL_law_X5_mended : GoodIn wsL_law wsX5_mended := goodIn_r _ [426, 427, 91, 15, 415, 93, 94, 2, 95, 428, 262, 263, 35, 264, 59, 265, 266, 267, 268, 269, 60, 270, 271, 272, 273, 274, 275, 276, 239, 277, 278, 279, 280, 281, 282, 283, 284, 285, 702, 703, 704, 705, 719, 720, 721, 722, 723, 724, 725, 726, 727, 748, 749] (by decide +kernel) (by decide +kernel)
set_option maxRecDepth 20000 in
theorem gL_law_X5_mended : GoodIn wsL_law (wsV RL 48 RX5 yX5_mended wsX5_mended) := goodIn_app (goodIn_of _ (by decide +kernel)) ggL_law_X5_mended
set_option maxRecDepth 20000 in
theorem ggL_law_X6_mended : GoodIn wsL_law wsX6_mended := goodIn_r _ [432, 202, 155, 402, 156, 157, 5, 158, 323, 324, 325, 326, 327, 81, 77, 328, 329, 330, 331, 332, 333, 334, 335, 336, 337, 338, 339, 340, 341, 342, 343, 344, 345, 346, 347, 348, 706, 707, 708, 709, 710, 711, 712, 713, 714, 715, 716, 717, 718] (by decide +kernel) (by decide +kernel)
set_option maxRecDepth 20000 in
theorem gL_law_X6_mended : GoodIn wsL_law (wsV RL 51 RX6 yX6_mended wsX6_mended) := goodIn_app (goodIn_of _ (by decide +kernel)) ggL_law_X6_mended
set_option maxRecDepth 20000 in
theorem ggL_law_X5_errors : GoodIn wsL_law wsX5_errors := goodIn_r _ [436, 91, 15, 92, 437, 438, 239, 439, 440, 386, 387, 376, 441, 93, 94, 2, 95, 380, 381, 382, 14, 383, 110, 32, 232, 384, 238, 240, 385, 389, 390, 391, 392, 46, 249, 250, 251, 252, 393, 394, 395, 396, 48, 397, 47, 45, 442, 443, 444, 445, 702, 703, 704, 705, 719, 720, 721, 722, 723, 724, 725, 726, 727, 740, 741, 742, 743, 744, 745, 746, 747] (by decide +kernel) (by decide +kernel)
set_option maxRecDepth 20000 in
theorem gL_law_X5_errors : GoodIn wsL_law (wsV RL 52 RX5 yX5_errors wsX5_errors) := goodIn_app (goodIn_of _ (by decide +kernel)) ggL_law_X5_errors
set_option maxRecDepth 20000 in
theorem ggL_law_X6_errors : GoodIn wsL_law wsX6_errors := goodIn_r _ [449, 155, 77, 402, 450, 156, 157, 5, 158, 407, 408, 409, 410, 403, 404, 405, 406, 451, 452, 453, 454, 455, 456, 457, 458, 459, 460, 461, 462, 463, 464, 465, 706, 707, 708, 709, 710, 711, 712, 713, 714, 715, 716, 717, 718] (by decide +kernel) (by decide +kernel)
set_option maxRecDepth 20000 in
theorem gL_law_X6_errors : GoodIn wsL_law (wsV RL 55 RX6 yX6_errors wsX6_errors) := goodIn_app (goodIn_of _ (by decide +kernel)) ggL_law_X6_errors
set_option maxRecDepth 20000 in
theorem ggL_law_X5_account : GoodIn wsL_law wsX5_account := goodIn_r _ [469, 15, 168, 470, 471, 472, 473, 91, 474, 475, 476, 26, 477, 52, 53, 702, 703, 704, 705, 719, 720, 721, 722, 723, 724, 725, 726, 727, 740, 741, 742, 743, 744, 745, 746, 747] (by decide +kernel) (by decide +kernel)
set_option maxRecDepth 20000 in
theorem gL_law_X5_account : GoodIn wsL_law (wsV RL 56 RX5 yX5_account wsX5_account) := goodIn_app (goodIn_of _ (by decide +kernel)) ggL_law_X5_account
set_option maxRecDepth 20000 in
theorem ggL_law_X6_account : GoodIn wsL_law wsX6_account := goodIn_r _ [481, 155, 77, 156, 157, 5, 158, 482, 483, 484, 706, 707, 708, 709, 710, 711, 712, 713, 714, 715, 716, 717, 718] (by decide +kernel) (by decide +kernel)
set_option maxRecDepth 20000 in
theorem gL_law_X6_account : GoodIn wsL_law (wsV RL 59 RX6 yX6_account wsX6_account) := goodIn_app (goodIn_of _ (by decide +kernel)) ggL_law_X6_account
set_option maxRecDepth 20000 in
theorem ggL_law_X5_echo : GoodIn wsL_law wsX5_echo := goodIn_r _ [488, 91, 27, 15, 168, 194, 93, 94, 2, 95, 489, 113, 114, 26, 115, 52, 53, 116, 107, 108, 109, 54, 55, 117, 118, 119, 120, 490, 491, 492, 493, 494, 139, 140, 141, 142, 143, 144, 145, 495, 234, 235, 236, 237, 238, 239, 240, 241, 242, 243, 244, 245, 246, 247, 248, 702, 703, 704, 705, 719, 720, 721, 722, 723, 724, 725, 726, 727, 740, 741, 742, 743, 744, 745, 746, 747] (by decide +kernel) (by decide +kernel)
set_option maxRecDepth 20000 in
theorem gL_law_X5_echo : GoodIn wsL_law (wsV RL 60 RX5 yX5_echo wsX5_echo) := goodIn_app (goodIn_of _ (by decide +kernel)) ggL_law_X5_echo
set_option maxRecDepth 20000 in
theorem ggL_law_X6_echo : GoodIn wsL_law wsX6_echo := goodIn_r _ [499, 155, 156, 157, 5, 158, 500, 501, 502, 503, 78, 77, 504, 505, 506, 507, 307, 308, 309, 310, 311, 312, 313, 314, 315, 316, 317, 318, 706, 707, 708, 709, 710, 711, 712, 713, 714, 715, 716, 717, 718] (by decide +kernel) (by decide +kernel)
set_option maxRecDepth 20000 in
theorem gL_law_X6_echo : GoodIn wsL_law (wsV RL 63 RX6 yX6_echo wsX6_echo) := goodIn_app (goodIn_of _ (by decide +kernel)) ggL_law_X6_echo
set_option maxRecDepth 20000 in
theorem ggL_law_X5_emptyAfter : GoodIn wsL_law wsX5_emptyAfter := goodIn_r _ [511, 27, 15, 168, 194, 376, 489, 113, 114, 26, 115, 52, 53, 116, 107, 108, 109, 54, 55, 117, 118, 119, 120, 474, 475, 476, 477, 512, 234, 235, 236, 237, 238, 239, 240, 241, 242, 243, 244, 245, 246, 247, 248, 702, 703, 704, 705, 719, 720, 721, 722, 723, 724, 725, 726, 727, 740, 741, 742, 743, 744, 745, 746, 747] (by decide +kernel) (by decide +kernel)
set_option maxRecDepth 20000 in
theorem gL_law_X5_emptyAfter : GoodIn wsL_law (wsV RL 64 RX5 yX5_emptyAfter wsX5_emptyAfter) := goodIn_app (goodIn_of _ (by decide +kernel)) ggL_law_X5_emptyAfter
set_option maxRecDepth 20000 in
theorem ggL_law_X6_emptyAfter : GoodIn wsL_law wsX6_emptyAfter := goodIn_r _ [516, 78, 402, 500, 501, 502, 5, 503, 77, 482, 483, 484, 307, 308, 309, 310, 311, 312, 313, 314, 315, 316, 317, 318, 706, 707, 708, 709, 710, 711, 712, 713, 714, 715, 716, 717, 718] (by decide +kernel) (by decide +kernel)
set_option maxRecDepth 20000 in
theorem gL_law_X6_emptyAfter : GoodIn wsL_law (wsV RL 68 RX6 yX6_emptyAfter wsX6_emptyAfter) := goodIn_app (goodIn_of _ (by decide +kernel)) ggL_law_X6_emptyAfter
set_option maxRecDepth 20000 in
theorem ggL_law_X5_worn : GoodIn wsL_law wsX5_worn := goodIn_r _ [520, 91, 15, 168, 521, 93, 94, 2, 95, 522, 523, 524, 525, 27, 194, 489, 113, 114, 26, 115, 52, 53, 116, 107, 108, 109, 54, 55, 117, 118, 119, 120, 175, 135, 136, 137, 490, 491, 492, 493, 494, 139, 140, 141, 142, 143, 144, 145, 495, 234, 235, 236, 237, 238, 239, 240, 241, 242, 243, 244, 245, 246, 247, 248, 702, 703, 704, 705, 719, 720, 721, 722, 723, 724, 725, 726, 727, 740, 741, 742, 743, 744, 745, 746, 747] (by decide +kernel) (by decide +kernel)
set_option maxRecDepth 20000 in
theorem gL_law_X5_worn : GoodIn wsL_law (wsV RL 69 RX5 yX5_worn wsX5_worn) := goodIn_app (goodIn_of _ (by decide +kernel)) ggL_law_X5_worn
set_option maxRecDepth 20000 in
theorem ggL_law_X6_worn : GoodIn wsL_law wsX6_worn := goodIn_r _ [529, 155, 77, 78, 156, 157, 5, 158, 500, 501, 502, 503, 504, 505, 506, 507, 307, 308, 309, 310, 311, 312, 313, 314, 315, 316, 317, 318, 706, 707, 708, 709, 710, 711, 712, 713, 714, 715, 716, 717, 718] (by decide +kernel) (by decide +kernel)
set_option maxRecDepth 20000 in
theorem gL_law_X6_worn : GoodIn wsL_law (wsV RL 72 RX6 yX6_worn wsX6_worn) := goodIn_app (goodIn_of _ (by decide +kernel)) ggL_law_X6_worn
set_option maxRecDepth 20000 in
theorem ggL_law_X5_safe : GoodIn wsL_law wsX5_safe := goodIn_r _ [533, 15, 194, 27, 168, 489, 113, 114, 26, 115, 52, 53, 116, 107, 108, 109, 54, 55, 117, 118, 119, 120, 534, 535, 536, 537, 494, 139, 140, 141, 142, 143, 144, 145, 495, 234, 235, 236, 237, 238, 239, 240, 241, 242, 243, 244, 245, 246, 247, 248, 702, 703, 704, 705, 719, 720, 721, 722, 723, 724, 725, 726, 727, 740, 741, 742, 743, 744, 745, 746, 747] (by decide +kernel) (by decide +kernel)
set_option maxRecDepth 20000 in
theorem gL_law_X5_safe : GoodIn wsL_law (wsV RL 73 RX5 yX5_safe wsX5_safe) := goodIn_app (goodIn_of _ (by decide +kernel)) ggL_law_X5_safe
set_option maxRecDepth 20000 in
theorem ggL_law_X6_safe : GoodIn wsL_law wsX6_safe := goodIn_r _ [541, 542, 543, 544, 5, 545, 78, 500, 501, 502, 503, 77, 307, 308, 309, 310, 311, 312, 313, 314, 315, 316, 317, 318, 706, 707, 708, 709, 710, 711, 712, 713, 714, 715, 716, 717, 718] (by decide +kernel) (by decide +kernel)
set_option maxRecDepth 20000 in
theorem gL_law_X6_safe : GoodIn wsL_law (wsV RL 76 RX6 yX6_safe wsX6_safe) := goodIn_app (goodIn_of _ (by decide +kernel)) ggL_law_X6_safe
set_option maxRecDepth 20000 in
theorem ggL_law_X5_count : GoodIn wsL_law wsX5_count := goodIn_r _ [549, 15, 168, 521, 92, 550, 415, 19, 551, 23, 552, 380, 381, 382, 14, 383, 110, 32, 232, 384, 238, 239, 240, 385, 386, 387, 553, 554, 555, 35, 556, 266, 267, 268, 269, 60, 557, 225, 226, 227, 111, 558, 217, 218, 219, 43, 559, 560, 561, 2, 562, 91, 194, 93, 94, 95, 702, 703, 704, 705, 719, 720, 721, 722, 723, 724, 725, 726, 727, 740, 741, 742, 743, 744, 745, 746, 747, 728, 729, 730, 731, 732, 733, 734, 735, 736, 737, 738, 739, 748, 749] (by decide +kernel) (by decide +kernel)
set_option maxRecDepth 20000 in
theorem gL_law_X5_count : GoodIn wsL_law (wsV RL 77 RX5 yX5_count wsX5_count) := goodIn_app (goodIn_of _ (by decide +kernel)) ggL_law_X5_count
set_option maxRecDepth 20000 in
theorem ggL_law_X6_count : GoodIn wsL_law wsX6_count := goodIn_r _ [566, 77, 163, 567, 155, 568, 569, 570, 5, 571, 295, 296, 297, 298, 156, 157, 158, 706, 707, 708, 709, 710, 711, 712, 713, 714, 715, 716, 717, 718] (by decide +kernel) (by decide +kernel)
set_option maxRecDepth 20000 in
theorem gL_law_X6_count : GoodIn wsL_law (wsV RL 80 RX6 yX6_count wsX6_count) := goodIn_app (goodIn_of _ (by decide +kernel)) ggL_law_X6_count
set_option maxRecDepth 20000 in
theorem ggL_law_X5_undo : GoodIn wsL_law wsX5_undo := goodIn_r _ [575, 19, 551, 576, 15, 577, 578, 579, 18, 580, 100, 66, 101, 102, 103, 104, 14, 105, 32, 36, 43, 106, 107, 108, 109, 110, 111, 45, 46, 47, 48, 112, 113, 114, 26, 115, 52, 53, 116, 54, 55, 117, 118, 119, 120, 121, 122, 123, 35, 124, 59, 125, 60, 702, 703, 704, 705, 728, 729, 730, 719, 720, 721, 722, 723, 724, 725, 726, 727, 740, 741, 742, 743, 744, 745, 746, 747, 748, 749] (by decide +kernel) (by decide +kernel)
set_option maxRecDepth 20000 in
theorem gL_law_X5_undo : GoodIn wsL_law (wsV RL 81 RX5 yX5_undo wsX5_undo) := goodIn_app (goodIn_of _ (by decide +kernel)) ggL_law_X5_undo
set_option maxRecDepth 20000 in
theorem ggL_law_X6_undo : GoodIn wsL_law wsX6_undo := goodIn_r _ [584, 163, 585, 77, 79, 706, 707, 708, 709, 710, 711, 712, 713, 714, 715, 716, 717, 718] (by decide +kernel) (by decide +kernel)
set_option maxRecDepth 20000 in
theorem gL_law_X6_undo : GoodIn wsL_law (wsV RL 84 RX6 yX6_undo wsX6_undo) := goodIn_app (goodIn_of _ (by decide +kernel)) ggL_law_X6_undo
set_option maxRecDepth 20000 in
theorem ggL_law_X5_type : GoodIn wsL_law wsX5_type := goodIn_r _ [589, 91, 23, 552, 211, 93, 94, 2, 95, 590, 591, 592, 22, 593, 594, 71, 702, 703, 704, 705, 731, 732, 733, 734, 735, 736, 737, 738, 739] (by decide +kernel) (by decide +kernel)
set_option maxRecDepth 20000 in
theorem gL_law_X5_type : GoodIn wsL_law (wsV RL 85 RX5 yX5_type wsX5_type) := goodIn_app (goodIn_of _ (by decide +kernel)) ggL_law_X5_type
set_option maxRecDepth 20000 in
theorem ggL_law_X6_type : GoodIn wsL_law wsX6_type := goodIn_r _ [598, 155, 567, 290, 80, 156, 157, 5, 158, 706, 707, 708, 709, 710, 711, 712, 713, 714, 715, 716, 717, 718] (by decide +kernel) (by decide +kernel)
set_option maxRecDepth 20000 in
theorem gL_law_X6_type : GoodIn wsL_law (wsV RL 88 RX6 yX6_type wsX6_type) := goodIn_app (goodIn_of _ (by decide +kernel)) ggL_law_X6_type
set_option maxRecDepth 20000 in
theorem ggL_law_X5_clearText : GoodIn wsL_law wsX5_clearText := goodIn_r _ [602, 23, 552, 603, 604, 605, 22, 606, 594, 702, 703, 704, 705, 731, 732, 733, 734, 735, 736, 737, 738, 739] (by decide +kernel) (by decide +kernel)
set_option maxRecDepth 20000 in
theorem gL_law_X5_clearText : GoodIn wsL_law (wsV RL 89 RX5 yX5_clearText wsX5_clearText) := goodIn_app (goodIn_of _ (by decide +kernel)) ggL_law_X5_clearText
set_option maxRecDepth 20000 in
theorem ggL_law_X6_clearText : GoodIn wsL_law wsX6_clearText := goodIn_r _ [610, 567, 706, 707, 708, 709, 710, 711, 712, 713, 714, 715, 716, 717, 718] (by decide +kernel) (by decide +kernel)
set_option maxRecDepth 20000 in
theorem gL_law_X6_clearText : GoodIn wsL_law (wsV RL 92 RX6 yX6_clearText wsX6_clearText) := goodIn_app (goodIn_of _ (by decide +kernel)) ggL_law_X6_clearText
set_option maxRecDepth 20000 in
theorem ggL_law_X5_fault : GoodIn wsL_law wsX5_fault := goodIn_r _ [614, 91, 23, 15, 168, 521, 376, 615, 616, 93, 94, 2, 95, 617, 618, 619, 22, 620, 621, 622, 594, 623, 624, 625, 626, 627, 628, 629, 630, 631, 72, 632, 633, 634, 635, 636, 637, 638, 639, 71, 640, 641, 642, 643, 644, 645, 646, 647, 648, 649, 650, 651, 702, 703, 704, 705, 719, 720, 721, 722, 723, 724, 725, 726, 727, 740, 741, 742, 743, 744, 745, 746, 747, 731, 732, 733, 734, 735, 736, 737, 738, 739] (by decide +kernel) (by decide +kernel)
set_option maxRecDepth 20000 in
theorem gL_law_X5_fault : GoodIn wsL_law (wsV RL 93 RX5 yX5_fault wsX5_fault) := goodIn_app (goodIn_of _ (by decide +kernel)) ggL_law_X5_fault
set_option maxRecDepth 20000 in
theorem ggL_law_X6_fault : GoodIn wsL_law wsX6_fault := goodIn_r _ [655, 155, 402, 656, 657, 156, 157, 5, 158, 658, 659, 660, 661, 662, 567, 663, 664, 665, 666, 667, 82, 668, 669, 670, 671, 80, 672, 673, 674, 675, 676, 677, 678, 679, 180, 181, 182, 183, 77, 680, 681, 682, 683, 706, 707, 708, 709, 710, 711, 712, 713, 714, 715, 716, 717, 718] (by decide +kernel) (by decide +kernel)
set_option maxRecDepth 20000 in
theorem gL_law_X6_fault : GoodIn wsL_law (wsV RL 96 RX6 yX6_fault wsX6_fault) := goodIn_app (goodIn_of _ (by decide +kernel)) ggL_law_X6_fault
set_option maxRecDepth 20000 in
theorem ggL_law_X5_play : GoodIn wsL_law wsX5_play := goodIn_r _ [687, 15, 168, 521, 23, 376, 576, 688, 211, 19, 689, 690, 617, 618, 619, 22, 620, 621, 622, 594, 623, 624, 625, 626, 627, 628, 629, 630, 631, 72, 632, 633, 634, 635, 636, 637, 638, 639, 71, 640, 641, 642, 643, 644, 645, 646, 647, 648, 649, 650, 651, 212, 213, 214, 14, 215, 110, 216, 217, 218, 219, 43, 96, 97, 98, 18, 99, 100, 101, 66, 102, 103, 104, 105, 32, 36, 106, 107, 108, 109, 111, 45, 46, 47, 48, 112, 113, 114, 26, 115, 52, 53, 116, 54, 55, 117, 118, 119, 120, 121, 122, 123, 35, 124, 59, 125, 60, 691, 692, 693, 694, 2, 695, 696, 697, 220, 221, 222, 223, 224, 225, 226, 227, 228, 229, 230, 231, 232, 233, 234, 235, 236, 237, 238, 239, 240, 241, 242, 243, 244, 245, 246, 247, 248, 249, 250, 251, 252, 253, 254, 255, 256, 257, 258, 259, 260, 261, 262, 263, 264, 265, 266, 267, 268, 269, 270, 271, 272, 273, 274, 275, 276, 277, 278, 279, 280, 281, 282, 283, 284, 285, 171, 172, 173, 174, 175, 135, 136, 137, 702, 703, 704, 705, 719, 720, 721, 722, 723, 724, 725, 726, 727, 740, 741, 742, 743, 744, 745, 746, 747, 731, 732, 733, 734, 735, 736, 737, 738, 739, 728, 729, 730, 748, 749] (by decide +kernel) (by decide +kernel)
set_option maxRecDepth 20000 in
theorem gL_law_X5_play : GoodIn wsL_law (wsV RL 97 RX5 yX5_play wsX5_play) := goodIn_app (goodIn_of _ (by decide +kernel)) ggL_law_X5_play
set_option maxRecDepth 20000 in
theorem ggL_law_X6_play : GoodIn wsL_law wsX6_play := goodIn_r _ [701, 585, 567, 80, 290, 662, 667, 82, 658, 659, 660, 5, 661, 663, 664, 665, 666, 656, 657, 668, 669, 670, 671, 672, 673, 674, 675, 676, 677, 678, 679, 156, 157, 158, 180, 181, 182, 183, 77, 680, 681, 682, 683, 291, 292, 293, 294, 295, 296, 297, 298, 159, 160, 161, 162, 163, 79, 299, 300, 301, 302, 303, 304, 305, 306, 307, 308, 309, 310, 311, 312, 313, 314, 315, 316, 317, 318, 319, 320, 321, 322, 323, 324, 325, 326, 327, 81, 328, 329, 330, 331, 332, 333, 334, 335, 336, 337, 338, 339, 340, 341, 342, 343, 344, 345, 346, 347, 348, 184, 185, 186, 187, 706, 707, 708, 709, 710, 711, 712, 713, 714, 715, 716, 717, 718] (by decide +kernel) (by decide +kernel)
set_option maxRecDepth 20000 in
theorem gL_law_X6_play : GoodIn wsL_law (wsV RL 100 RX6 yX6_play wsX6_play) := goodIn_app (goodIn_of _ (by decide +kernel)) ggL_law_X6_play
theorem dL_law_0 : decode cL_law 0 = .ok (.new 7, 3) := by decide +kernel
theorem dL_law_3 : decode cL_law 3 = .ok (.dup, 1) := by decide +kernel
theorem dL_law_4 : decode cL_law 4 = .ok (.invokespecial 9, 3) := by decide +kernel
theorem dL_law_7 : decode cL_law 7 = .ok (.astore_n 1, 1) := by decide +kernel
theorem dL_law_8 : decode cL_law 8 = .ok (.new 10, 3) := by decide +kernel
theorem dL_law_11 : decode cL_law 11 = .ok (.dup, 1) := by decide +kernel
theorem dL_law_12 : decode cL_law 12 = .ok (.invokespecial 12, 3) := by decide +kernel
theorem dL_law_15 : decode cL_law 15 = .ok (.astore_n 2, 1) := by decide +kernel
theorem dL_law_16 : decode cL_law 16 = .ok (.iconst 0, 1) := by decide +kernel
theorem dL_law_17 : decode cL_law 17 = .ok (.istore_n 3, 1) := by decide +kernel
theorem dL_law_18 : decode cL_law 18 = .ok (.iload_n 3, 1) := by decide +kernel
theorem dL_law_19 : decode cL_law 19 = .ok (.aload_n 0, 1) := by decide +kernel
theorem dL_law_20 : decode cL_law 20 = .ok (.arraylength, 1) := by decide +kernel
theorem dL_law_21 : decode cL_law 21 = .ok (.iconst 4, 1) := by decide +kernel
theorem dL_law_22 : decode cL_law 22 = .ok (.isub, 1) := by decide +kernel
theorem dL_law_23 : decode cL_law 23 = .ok (.if_icmp .gt 618, 3) := by decide +kernel
theorem dL_law_26 : decode cL_law 26 = .ok (.aload_n 0, 1) := by decide +kernel
theorem dL_law_27 : decode cL_law 27 = .ok (.iload_n 3, 1) := by decide +kernel
theorem dL_law_28 : decode cL_law 28 = .ok (.iaload, 1) := by decide +kernel
theorem dL_law_29 : decode cL_law 29 = .ok (.bipush 31, 2) := by decide +kernel
theorem dL_law_31 : decode cL_law 31 = .ok (.iand, 1) := by decide +kernel
theorem dL_law_32 : decode cL_law 32 = .ok (.tableswitch 603 0 20 #[100, 123, 166, 199, 222, 245, 278, 311, 344, 367, 390, 413, 446, 459, 482, 495, 518, 531, 554, 567, 590], 100) := by decide +kernel
theorem dL_law_132 : decode cL_law 132 = .ok (.aload_n 1, 1) := by decide +kernel
theorem dL_law_133 : decode cL_law 133 = .ok (.aload_n 0, 1) := by decide +kernel
theorem dL_law_134 : decode cL_law 134 = .ok (.iload_n 3, 1) := by decide +kernel
theorem dL_law_135 : decode cL_law 135 = .ok (.iconst 1, 1) := by decide +kernel
theorem dL_law_136 : decode cL_law 136 = .ok (.iadd, 1) := by decide +kernel
theorem dL_law_137 : decode cL_law 137 = .ok (.iaload, 1) := by decide +kernel
theorem dL_law_138 : decode cL_law 138 = .ok (.invokevirtual 13, 3) := by decide +kernel
theorem dL_law_141 : decode cL_law 141 = .ok (.aload_n 2, 1) := by decide +kernel
theorem dL_law_142 : decode cL_law 142 = .ok (.aload_n 0, 1) := by decide +kernel
theorem dL_law_143 : decode cL_law 143 = .ok (.iload_n 3, 1) := by decide +kernel
theorem dL_law_144 : decode cL_law 144 = .ok (.iconst 1, 1) := by decide +kernel
theorem dL_law_145 : decode cL_law 145 = .ok (.iadd, 1) := by decide +kernel
theorem dL_law_146 : decode cL_law 146 = .ok (.iaload, 1) := by decide +kernel
theorem dL_law_147 : decode cL_law 147 = .ok (.invokevirtual 17, 3) := by decide +kernel
theorem dL_law_150 : decode cL_law 150 = .ok (.if_icmp .eq 485, 3) := by decide +kernel
theorem dL_law_153 : decode cL_law 153 = .ok (.iconst 0, 1) := by decide +kernel
theorem dL_law_154 : decode cL_law 154 = .ok (.ireturn, 1) := by decide +kernel
theorem dL_law_155 : decode cL_law 155 = .ok (.aload_n 1, 1) := by decide +kernel
theorem dL_law_156 : decode cL_law 156 = .ok (.aload_n 0, 1) := by decide +kernel
theorem dL_law_157 : decode cL_law 157 = .ok (.iload_n 3, 1) := by decide +kernel
theorem dL_law_158 : decode cL_law 158 = .ok (.iconst 1, 1) := by decide +kernel
theorem dL_law_159 : decode cL_law 159 = .ok (.iadd, 1) := by decide +kernel
theorem dL_law_160 : decode cL_law 160 = .ok (.iaload, 1) := by decide +kernel
theorem dL_law_161 : decode cL_law 161 = .ok (.aload_n 0, 1) := by decide +kernel
theorem dL_law_162 : decode cL_law 162 = .ok (.iload_n 3, 1) := by decide +kernel
theorem dL_law_163 : decode cL_law 163 = .ok (.iconst 2, 1) := by decide +kernel
theorem dL_law_164 : decode cL_law 164 = .ok (.iadd, 1) := by decide +kernel
theorem dL_law_165 : decode cL_law 165 = .ok (.iaload, 1) := by decide +kernel
theorem dL_law_166 : decode cL_law 166 = .ok (.aload_n 0, 1) := by decide +kernel
theorem dL_law_167 : decode cL_law 167 = .ok (.iload_n 3, 1) := by decide +kernel
theorem dL_law_168 : decode cL_law 168 = .ok (.iconst 3, 1) := by decide +kernel
theorem dL_law_169 : decode cL_law 169 = .ok (.iadd, 1) := by decide +kernel
theorem dL_law_170 : decode cL_law 170 = .ok (.iaload, 1) := by decide +kernel
theorem dL_law_171 : decode cL_law 171 = .ok (.invokevirtual 18, 3) := by decide +kernel
theorem dL_law_174 : decode cL_law 174 = .ok (.aload_n 2, 1) := by decide +kernel
theorem dL_law_175 : decode cL_law 175 = .ok (.aload_n 0, 1) := by decide +kernel
theorem dL_law_176 : decode cL_law 176 = .ok (.iload_n 3, 1) := by decide +kernel
theorem dL_law_177 : decode cL_law 177 = .ok (.iconst 1, 1) := by decide +kernel
theorem dL_law_178 : decode cL_law 178 = .ok (.iadd, 1) := by decide +kernel
theorem dL_law_179 : decode cL_law 179 = .ok (.iaload, 1) := by decide +kernel
theorem dL_law_180 : decode cL_law 180 = .ok (.aload_n 0, 1) := by decide +kernel
theorem dL_law_181 : decode cL_law 181 = .ok (.iload_n 3, 1) := by decide +kernel
theorem dL_law_182 : decode cL_law 182 = .ok (.iconst 2, 1) := by decide +kernel
theorem dL_law_183 : decode cL_law 183 = .ok (.iadd, 1) := by decide +kernel
theorem dL_law_184 : decode cL_law 184 = .ok (.iaload, 1) := by decide +kernel
theorem dL_law_185 : decode cL_law 185 = .ok (.aload_n 0, 1) := by decide +kernel
theorem dL_law_186 : decode cL_law 186 = .ok (.iload_n 3, 1) := by decide +kernel
theorem dL_law_187 : decode cL_law 187 = .ok (.iconst 3, 1) := by decide +kernel
theorem dL_law_188 : decode cL_law 188 = .ok (.iadd, 1) := by decide +kernel
theorem dL_law_189 : decode cL_law 189 = .ok (.iaload, 1) := by decide +kernel
theorem dL_law_190 : decode cL_law 190 = .ok (.invokevirtual 22, 3) := by decide +kernel
theorem dL_law_193 : decode cL_law 193 = .ok (.if_icmp .eq 442, 3) := by decide +kernel
theorem dL_law_196 : decode cL_law 196 = .ok (.iconst 0, 1) := by decide +kernel
theorem dL_law_197 : decode cL_law 197 = .ok (.ireturn, 1) := by decide +kernel
theorem dL_law_198 : decode cL_law 198 = .ok (.aload_n 1, 1) := by decide +kernel
theorem dL_law_199 : decode cL_law 199 = .ok (.aload_n 0, 1) := by decide +kernel
theorem dL_law_200 : decode cL_law 200 = .ok (.iload_n 3, 1) := by decide +kernel
theorem dL_law_201 : decode cL_law 201 = .ok (.iconst 1, 1) := by decide +kernel
theorem dL_law_202 : decode cL_law 202 = .ok (.iadd, 1) := by decide +kernel
theorem dL_law_203 : decode cL_law 203 = .ok (.iaload, 1) := by decide +kernel
theorem dL_law_204 : decode cL_law 204 = .ok (.aload_n 0, 1) := by decide +kernel
theorem dL_law_205 : decode cL_law 205 = .ok (.iload_n 3, 1) := by decide +kernel
theorem dL_law_206 : decode cL_law 206 = .ok (.iconst 2, 1) := by decide +kernel
theorem dL_law_207 : decode cL_law 207 = .ok (.iadd, 1) := by decide +kernel
theorem dL_law_208 : decode cL_law 208 = .ok (.iaload, 1) := by decide +kernel
theorem dL_law_209 : decode cL_law 209 = .ok (.invokevirtual 23, 3) := by decide +kernel
theorem dL_law_212 : decode cL_law 212 = .ok (.aload_n 2, 1) := by decide +kernel
theorem dL_law_213 : decode cL_law 213 = .ok (.aload_n 0, 1) := by decide +kernel
theorem dL_law_214 : decode cL_law 214 = .ok (.iload_n 3, 1) := by decide +kernel
theorem dL_law_215 : decode cL_law 215 = .ok (.iconst 1, 1) := by decide +kernel
theorem dL_law_216 : decode cL_law 216 = .ok (.iadd, 1) := by decide +kernel
theorem dL_law_217 : decode cL_law 217 = .ok (.iaload, 1) := by decide +kernel
theorem dL_law_218 : decode cL_law 218 = .ok (.aload_n 0, 1) := by decide +kernel
theorem dL_law_219 : decode cL_law 219 = .ok (.iload_n 3, 1) := by decide +kernel
theorem dL_law_220 : decode cL_law 220 = .ok (.iconst 2, 1) := by decide +kernel
theorem dL_law_221 : decode cL_law 221 = .ok (.iadd, 1) := by decide +kernel
theorem dL_law_222 : decode cL_law 222 = .ok (.iaload, 1) := by decide +kernel
theorem dL_law_223 : decode cL_law 223 = .ok (.invokevirtual 27, 3) := by decide +kernel
theorem dL_law_226 : decode cL_law 226 = .ok (.if_icmp .eq 409, 3) := by decide +kernel
theorem dL_law_229 : decode cL_law 229 = .ok (.iconst 0, 1) := by decide +kernel
theorem dL_law_230 : decode cL_law 230 = .ok (.ireturn, 1) := by decide +kernel
theorem dL_law_231 : decode cL_law 231 = .ok (.aload_n 1, 1) := by decide +kernel
theorem dL_law_232 : decode cL_law 232 = .ok (.aload_n 0, 1) := by decide +kernel
theorem dL_law_233 : decode cL_law 233 = .ok (.iload_n 3, 1) := by decide +kernel
theorem dL_law_234 : decode cL_law 234 = .ok (.iconst 1, 1) := by decide +kernel
theorem dL_law_235 : decode cL_law 235 = .ok (.iadd, 1) := by decide +kernel
theorem dL_law_236 : decode cL_law 236 = .ok (.iaload, 1) := by decide +kernel
theorem dL_law_237 : decode cL_law 237 = .ok (.invokevirtual 28, 3) := by decide +kernel
theorem dL_law_240 : decode cL_law 240 = .ok (.aload_n 2, 1) := by decide +kernel
theorem dL_law_241 : decode cL_law 241 = .ok (.aload_n 0, 1) := by decide +kernel
theorem dL_law_242 : decode cL_law 242 = .ok (.iload_n 3, 1) := by decide +kernel
theorem dL_law_243 : decode cL_law 243 = .ok (.iconst 1, 1) := by decide +kernel
theorem dL_law_244 : decode cL_law 244 = .ok (.iadd, 1) := by decide +kernel
theorem dL_law_245 : decode cL_law 245 = .ok (.iaload, 1) := by decide +kernel
theorem dL_law_246 : decode cL_law 246 = .ok (.invokevirtual 31, 3) := by decide +kernel
theorem dL_law_249 : decode cL_law 249 = .ok (.if_icmp .eq 386, 3) := by decide +kernel
theorem dL_law_252 : decode cL_law 252 = .ok (.iconst 0, 1) := by decide +kernel
theorem dL_law_253 : decode cL_law 253 = .ok (.ireturn, 1) := by decide +kernel
theorem dL_law_254 : decode cL_law 254 = .ok (.aload_n 1, 1) := by decide +kernel
theorem dL_law_255 : decode cL_law 255 = .ok (.aload_n 0, 1) := by decide +kernel
theorem dL_law_256 : decode cL_law 256 = .ok (.iload_n 3, 1) := by decide +kernel
theorem dL_law_257 : decode cL_law 257 = .ok (.iconst 1, 1) := by decide +kernel
theorem dL_law_258 : decode cL_law 258 = .ok (.iadd, 1) := by decide +kernel
theorem dL_law_259 : decode cL_law 259 = .ok (.iaload, 1) := by decide +kernel
theorem dL_law_260 : decode cL_law 260 = .ok (.invokevirtual 32, 3) := by decide +kernel
theorem dL_law_263 : decode cL_law 263 = .ok (.aload_n 2, 1) := by decide +kernel
theorem dL_law_264 : decode cL_law 264 = .ok (.aload_n 0, 1) := by decide +kernel
theorem dL_law_265 : decode cL_law 265 = .ok (.iload_n 3, 1) := by decide +kernel
theorem dL_law_266 : decode cL_law 266 = .ok (.iconst 1, 1) := by decide +kernel
theorem dL_law_267 : decode cL_law 267 = .ok (.iadd, 1) := by decide +kernel
theorem dL_law_268 : decode cL_law 268 = .ok (.iaload, 1) := by decide +kernel
theorem dL_law_269 : decode cL_law 269 = .ok (.invokevirtual 35, 3) := by decide +kernel
theorem dL_law_272 : decode cL_law 272 = .ok (.if_icmp .eq 363, 3) := by decide +kernel
theorem dL_law_275 : decode cL_law 275 = .ok (.iconst 0, 1) := by decide +kernel
theorem dL_law_276 : decode cL_law 276 = .ok (.ireturn, 1) := by decide +kernel
theorem dL_law_277 : decode cL_law 277 = .ok (.aload_n 1, 1) := by decide +kernel
theorem dL_law_278 : decode cL_law 278 = .ok (.aload_n 0, 1) := by decide +kernel
theorem dL_law_279 : decode cL_law 279 = .ok (.iload_n 3, 1) := by decide +kernel
theorem dL_law_280 : decode cL_law 280 = .ok (.iconst 1, 1) := by decide +kernel
theorem dL_law_281 : decode cL_law 281 = .ok (.iadd, 1) := by decide +kernel
theorem dL_law_282 : decode cL_law 282 = .ok (.iaload, 1) := by decide +kernel
theorem dL_law_283 : decode cL_law 283 = .ok (.aload_n 0, 1) := by decide +kernel
theorem dL_law_284 : decode cL_law 284 = .ok (.iload_n 3, 1) := by decide +kernel
theorem dL_law_285 : decode cL_law 285 = .ok (.iconst 2, 1) := by decide +kernel
theorem dL_law_286 : decode cL_law 286 = .ok (.iadd, 1) := by decide +kernel
theorem dL_law_287 : decode cL_law 287 = .ok (.iaload, 1) := by decide +kernel
theorem dL_law_288 : decode cL_law 288 = .ok (.invokevirtual 36, 3) := by decide +kernel
theorem dL_law_291 : decode cL_law 291 = .ok (.aload_n 2, 1) := by decide +kernel
theorem dL_law_292 : decode cL_law 292 = .ok (.aload_n 0, 1) := by decide +kernel
theorem dL_law_293 : decode cL_law 293 = .ok (.iload_n 3, 1) := by decide +kernel
theorem dL_law_294 : decode cL_law 294 = .ok (.iconst 1, 1) := by decide +kernel
theorem dL_law_295 : decode cL_law 295 = .ok (.iadd, 1) := by decide +kernel
theorem dL_law_296 : decode cL_law 296 = .ok (.iaload, 1) := by decide +kernel
theorem dL_law_297 : decode cL_law 297 = .ok (.aload_n 0, 1) := by decide +kernel
theorem dL_law_298 : decode cL_law 298 = .ok (.iload_n 3, 1) := by decide +kernel
theorem dL_law_299 : decode cL_law 299 = .ok (.iconst 2, 1) := by decide +kernel
theorem dL_law_300 : decode cL_law 300 = .ok (.iadd, 1) := by decide +kernel
theorem dL_law_301 : decode cL_law 301 = .ok (.iaload, 1) := by decide +kernel
theorem dL_law_302 : decode cL_law 302 = .ok (.invokevirtual 39, 3) := by decide +kernel
theorem dL_law_305 : decode cL_law 305 = .ok (.if_icmp .eq 330, 3) := by decide +kernel
theorem dL_law_308 : decode cL_law 308 = .ok (.iconst 0, 1) := by decide +kernel
theorem dL_law_309 : decode cL_law 309 = .ok (.ireturn, 1) := by decide +kernel
theorem dL_law_310 : decode cL_law 310 = .ok (.aload_n 1, 1) := by decide +kernel
theorem dL_law_311 : decode cL_law 311 = .ok (.aload_n 0, 1) := by decide +kernel
theorem dL_law_312 : decode cL_law 312 = .ok (.iload_n 3, 1) := by decide +kernel
theorem dL_law_313 : decode cL_law 313 = .ok (.iconst 1, 1) := by decide +kernel
theorem dL_law_314 : decode cL_law 314 = .ok (.iadd, 1) := by decide +kernel
theorem dL_law_315 : decode cL_law 315 = .ok (.iaload, 1) := by decide +kernel
theorem dL_law_316 : decode cL_law 316 = .ok (.aload_n 0, 1) := by decide +kernel
theorem dL_law_317 : decode cL_law 317 = .ok (.iload_n 3, 1) := by decide +kernel
theorem dL_law_318 : decode cL_law 318 = .ok (.iconst 2, 1) := by decide +kernel
theorem dL_law_319 : decode cL_law 319 = .ok (.iadd, 1) := by decide +kernel
theorem dL_law_320 : decode cL_law 320 = .ok (.iaload, 1) := by decide +kernel
theorem dL_law_321 : decode cL_law 321 = .ok (.invokevirtual 40, 3) := by decide +kernel
theorem dL_law_324 : decode cL_law 324 = .ok (.aload_n 2, 1) := by decide +kernel
theorem dL_law_325 : decode cL_law 325 = .ok (.aload_n 0, 1) := by decide +kernel
theorem dL_law_326 : decode cL_law 326 = .ok (.iload_n 3, 1) := by decide +kernel
theorem dL_law_327 : decode cL_law 327 = .ok (.iconst 1, 1) := by decide +kernel
theorem dL_law_328 : decode cL_law 328 = .ok (.iadd, 1) := by decide +kernel
theorem dL_law_329 : decode cL_law 329 = .ok (.iaload, 1) := by decide +kernel
theorem dL_law_330 : decode cL_law 330 = .ok (.aload_n 0, 1) := by decide +kernel
theorem dL_law_331 : decode cL_law 331 = .ok (.iload_n 3, 1) := by decide +kernel
theorem dL_law_332 : decode cL_law 332 = .ok (.iconst 2, 1) := by decide +kernel
theorem dL_law_333 : decode cL_law 333 = .ok (.iadd, 1) := by decide +kernel
theorem dL_law_334 : decode cL_law 334 = .ok (.iaload, 1) := by decide +kernel
theorem dL_law_335 : decode cL_law 335 = .ok (.invokevirtual 43, 3) := by decide +kernel
theorem dL_law_338 : decode cL_law 338 = .ok (.if_icmp .eq 297, 3) := by decide +kernel
theorem dL_law_341 : decode cL_law 341 = .ok (.iconst 0, 1) := by decide +kernel
theorem dL_law_342 : decode cL_law 342 = .ok (.ireturn, 1) := by decide +kernel
theorem dL_law_343 : decode cL_law 343 = .ok (.aload_n 1, 1) := by decide +kernel
theorem dL_law_344 : decode cL_law 344 = .ok (.aload_n 0, 1) := by decide +kernel
theorem dL_law_345 : decode cL_law 345 = .ok (.iload_n 3, 1) := by decide +kernel
theorem dL_law_346 : decode cL_law 346 = .ok (.iconst 1, 1) := by decide +kernel
theorem dL_law_347 : decode cL_law 347 = .ok (.iadd, 1) := by decide +kernel
theorem dL_law_348 : decode cL_law 348 = .ok (.iaload, 1) := by decide +kernel
theorem dL_law_349 : decode cL_law 349 = .ok (.aload_n 0, 1) := by decide +kernel
theorem dL_law_350 : decode cL_law 350 = .ok (.iload_n 3, 1) := by decide +kernel
theorem dL_law_351 : decode cL_law 351 = .ok (.iconst 2, 1) := by decide +kernel
theorem dL_law_352 : decode cL_law 352 = .ok (.iadd, 1) := by decide +kernel
theorem dL_law_353 : decode cL_law 353 = .ok (.iaload, 1) := by decide +kernel
theorem dL_law_354 : decode cL_law 354 = .ok (.invokevirtual 44, 3) := by decide +kernel
theorem dL_law_357 : decode cL_law 357 = .ok (.aload_n 2, 1) := by decide +kernel
theorem dL_law_358 : decode cL_law 358 = .ok (.aload_n 0, 1) := by decide +kernel
theorem dL_law_359 : decode cL_law 359 = .ok (.iload_n 3, 1) := by decide +kernel
theorem dL_law_360 : decode cL_law 360 = .ok (.iconst 1, 1) := by decide +kernel
theorem dL_law_361 : decode cL_law 361 = .ok (.iadd, 1) := by decide +kernel
theorem dL_law_362 : decode cL_law 362 = .ok (.iaload, 1) := by decide +kernel
theorem dL_law_363 : decode cL_law 363 = .ok (.aload_n 0, 1) := by decide +kernel
theorem dL_law_364 : decode cL_law 364 = .ok (.iload_n 3, 1) := by decide +kernel
theorem dL_law_365 : decode cL_law 365 = .ok (.iconst 2, 1) := by decide +kernel
theorem dL_law_366 : decode cL_law 366 = .ok (.iadd, 1) := by decide +kernel
theorem dL_law_367 : decode cL_law 367 = .ok (.iaload, 1) := by decide +kernel
theorem dL_law_368 : decode cL_law 368 = .ok (.invokevirtual 47, 3) := by decide +kernel
theorem dL_law_371 : decode cL_law 371 = .ok (.if_icmp .eq 264, 3) := by decide +kernel
theorem dL_law_374 : decode cL_law 374 = .ok (.iconst 0, 1) := by decide +kernel
theorem dL_law_375 : decode cL_law 375 = .ok (.ireturn, 1) := by decide +kernel
theorem dL_law_376 : decode cL_law 376 = .ok (.aload_n 1, 1) := by decide +kernel
theorem dL_law_377 : decode cL_law 377 = .ok (.aload_n 0, 1) := by decide +kernel
theorem dL_law_378 : decode cL_law 378 = .ok (.iload_n 3, 1) := by decide +kernel
theorem dL_law_379 : decode cL_law 379 = .ok (.iconst 1, 1) := by decide +kernel
theorem dL_law_380 : decode cL_law 380 = .ok (.iadd, 1) := by decide +kernel
theorem dL_law_381 : decode cL_law 381 = .ok (.iaload, 1) := by decide +kernel
theorem dL_law_382 : decode cL_law 382 = .ok (.invokevirtual 48, 3) := by decide +kernel
theorem dL_law_385 : decode cL_law 385 = .ok (.aload_n 2, 1) := by decide +kernel
theorem dL_law_386 : decode cL_law 386 = .ok (.aload_n 0, 1) := by decide +kernel
theorem dL_law_387 : decode cL_law 387 = .ok (.iload_n 3, 1) := by decide +kernel
theorem dL_law_388 : decode cL_law 388 = .ok (.iconst 1, 1) := by decide +kernel
theorem dL_law_389 : decode cL_law 389 = .ok (.iadd, 1) := by decide +kernel
theorem dL_law_390 : decode cL_law 390 = .ok (.iaload, 1) := by decide +kernel
theorem dL_law_391 : decode cL_law 391 = .ok (.invokevirtual 51, 3) := by decide +kernel
theorem dL_law_394 : decode cL_law 394 = .ok (.if_icmp .eq 241, 3) := by decide +kernel
theorem dL_law_397 : decode cL_law 397 = .ok (.iconst 0, 1) := by decide +kernel
theorem dL_law_398 : decode cL_law 398 = .ok (.ireturn, 1) := by decide +kernel
theorem dL_law_399 : decode cL_law 399 = .ok (.aload_n 1, 1) := by decide +kernel
theorem dL_law_400 : decode cL_law 400 = .ok (.aload_n 0, 1) := by decide +kernel
theorem dL_law_401 : decode cL_law 401 = .ok (.iload_n 3, 1) := by decide +kernel
theorem dL_law_402 : decode cL_law 402 = .ok (.iconst 1, 1) := by decide +kernel
theorem dL_law_403 : decode cL_law 403 = .ok (.iadd, 1) := by decide +kernel
theorem dL_law_404 : decode cL_law 404 = .ok (.iaload, 1) := by decide +kernel
theorem dL_law_405 : decode cL_law 405 = .ok (.invokevirtual 52, 3) := by decide +kernel
theorem dL_law_408 : decode cL_law 408 = .ok (.aload_n 2, 1) := by decide +kernel
theorem dL_law_409 : decode cL_law 409 = .ok (.aload_n 0, 1) := by decide +kernel
theorem dL_law_410 : decode cL_law 410 = .ok (.iload_n 3, 1) := by decide +kernel
theorem dL_law_411 : decode cL_law 411 = .ok (.iconst 1, 1) := by decide +kernel
theorem dL_law_412 : decode cL_law 412 = .ok (.iadd, 1) := by decide +kernel
theorem dL_law_413 : decode cL_law 413 = .ok (.iaload, 1) := by decide +kernel
theorem dL_law_414 : decode cL_law 414 = .ok (.invokevirtual 55, 3) := by decide +kernel
theorem dL_law_417 : decode cL_law 417 = .ok (.if_icmp .eq 218, 3) := by decide +kernel
theorem dL_law_420 : decode cL_law 420 = .ok (.iconst 0, 1) := by decide +kernel
theorem dL_law_421 : decode cL_law 421 = .ok (.ireturn, 1) := by decide +kernel
theorem dL_law_422 : decode cL_law 422 = .ok (.aload_n 1, 1) := by decide +kernel
theorem dL_law_423 : decode cL_law 423 = .ok (.aload_n 0, 1) := by decide +kernel
theorem dL_law_424 : decode cL_law 424 = .ok (.iload_n 3, 1) := by decide +kernel
theorem dL_law_425 : decode cL_law 425 = .ok (.iconst 1, 1) := by decide +kernel
theorem dL_law_426 : decode cL_law 426 = .ok (.iadd, 1) := by decide +kernel
theorem dL_law_427 : decode cL_law 427 = .ok (.iaload, 1) := by decide +kernel
theorem dL_law_428 : decode cL_law 428 = .ok (.invokevirtual 56, 3) := by decide +kernel
theorem dL_law_431 : decode cL_law 431 = .ok (.aload_n 2, 1) := by decide +kernel
theorem dL_law_432 : decode cL_law 432 = .ok (.aload_n 0, 1) := by decide +kernel
theorem dL_law_433 : decode cL_law 433 = .ok (.iload_n 3, 1) := by decide +kernel
theorem dL_law_434 : decode cL_law 434 = .ok (.iconst 1, 1) := by decide +kernel
theorem dL_law_435 : decode cL_law 435 = .ok (.iadd, 1) := by decide +kernel
theorem dL_law_436 : decode cL_law 436 = .ok (.iaload, 1) := by decide +kernel
theorem dL_law_437 : decode cL_law 437 = .ok (.invokevirtual 59, 3) := by decide +kernel
theorem dL_law_440 : decode cL_law 440 = .ok (.if_icmp .eq 195, 3) := by decide +kernel
theorem dL_law_443 : decode cL_law 443 = .ok (.iconst 0, 1) := by decide +kernel
theorem dL_law_444 : decode cL_law 444 = .ok (.ireturn, 1) := by decide +kernel
theorem dL_law_445 : decode cL_law 445 = .ok (.aload_n 1, 1) := by decide +kernel
theorem dL_law_446 : decode cL_law 446 = .ok (.aload_n 0, 1) := by decide +kernel
theorem dL_law_447 : decode cL_law 447 = .ok (.iload_n 3, 1) := by decide +kernel
theorem dL_law_448 : decode cL_law 448 = .ok (.iconst 1, 1) := by decide +kernel
theorem dL_law_449 : decode cL_law 449 = .ok (.iadd, 1) := by decide +kernel
theorem dL_law_450 : decode cL_law 450 = .ok (.iaload, 1) := by decide +kernel
theorem dL_law_451 : decode cL_law 451 = .ok (.aload_n 0, 1) := by decide +kernel
theorem dL_law_452 : decode cL_law 452 = .ok (.iload_n 3, 1) := by decide +kernel
theorem dL_law_453 : decode cL_law 453 = .ok (.iconst 2, 1) := by decide +kernel
theorem dL_law_454 : decode cL_law 454 = .ok (.iadd, 1) := by decide +kernel
theorem dL_law_455 : decode cL_law 455 = .ok (.iaload, 1) := by decide +kernel
theorem dL_law_456 : decode cL_law 456 = .ok (.invokevirtual 60, 3) := by decide +kernel
theorem dL_law_459 : decode cL_law 459 = .ok (.aload_n 2, 1) := by decide +kernel
theorem dL_law_460 : decode cL_law 460 = .ok (.aload_n 0, 1) := by decide +kernel
theorem dL_law_461 : decode cL_law 461 = .ok (.iload_n 3, 1) := by decide +kernel
theorem dL_law_462 : decode cL_law 462 = .ok (.iconst 1, 1) := by decide +kernel
theorem dL_law_463 : decode cL_law 463 = .ok (.iadd, 1) := by decide +kernel
theorem dL_law_464 : decode cL_law 464 = .ok (.iaload, 1) := by decide +kernel
theorem dL_law_465 : decode cL_law 465 = .ok (.aload_n 0, 1) := by decide +kernel
theorem dL_law_466 : decode cL_law 466 = .ok (.iload_n 3, 1) := by decide +kernel
theorem dL_law_467 : decode cL_law 467 = .ok (.iconst 2, 1) := by decide +kernel
theorem dL_law_468 : decode cL_law 468 = .ok (.iadd, 1) := by decide +kernel
theorem dL_law_469 : decode cL_law 469 = .ok (.iaload, 1) := by decide +kernel
theorem dL_law_470 : decode cL_law 470 = .ok (.invokevirtual 63, 3) := by decide +kernel
theorem dL_law_473 : decode cL_law 473 = .ok (.if_icmp .eq 162, 3) := by decide +kernel
theorem dL_law_476 : decode cL_law 476 = .ok (.iconst 0, 1) := by decide +kernel
theorem dL_law_477 : decode cL_law 477 = .ok (.ireturn, 1) := by decide +kernel
theorem dL_law_478 : decode cL_law 478 = .ok (.aload_n 1, 1) := by decide +kernel
theorem dL_law_479 : decode cL_law 479 = .ok (.invokevirtual 64, 3) := by decide +kernel
theorem dL_law_482 : decode cL_law 482 = .ok (.aload_n 2, 1) := by decide +kernel
theorem dL_law_483 : decode cL_law 483 = .ok (.invokevirtual 68, 3) := by decide +kernel
theorem dL_law_486 : decode cL_law 486 = .ok (.if_icmp .eq 149, 3) := by decide +kernel
theorem dL_law_489 : decode cL_law 489 = .ok (.iconst 0, 1) := by decide +kernel
theorem dL_law_490 : decode cL_law 490 = .ok (.ireturn, 1) := by decide +kernel
theorem dL_law_491 : decode cL_law 491 = .ok (.aload_n 1, 1) := by decide +kernel
theorem dL_law_492 : decode cL_law 492 = .ok (.aload_n 0, 1) := by decide +kernel
theorem dL_law_493 : decode cL_law 493 = .ok (.iload_n 3, 1) := by decide +kernel
theorem dL_law_494 : decode cL_law 494 = .ok (.iconst 1, 1) := by decide +kernel
theorem dL_law_495 : decode cL_law 495 = .ok (.iadd, 1) := by decide +kernel
theorem dL_law_496 : decode cL_law 496 = .ok (.iaload, 1) := by decide +kernel
theorem dL_law_497 : decode cL_law 497 = .ok (.invokevirtual 69, 3) := by decide +kernel
theorem dL_law_500 : decode cL_law 500 = .ok (.aload_n 2, 1) := by decide +kernel
theorem dL_law_501 : decode cL_law 501 = .ok (.aload_n 0, 1) := by decide +kernel
theorem dL_law_502 : decode cL_law 502 = .ok (.iload_n 3, 1) := by decide +kernel
theorem dL_law_503 : decode cL_law 503 = .ok (.iconst 1, 1) := by decide +kernel
theorem dL_law_504 : decode cL_law 504 = .ok (.iadd, 1) := by decide +kernel
theorem dL_law_505 : decode cL_law 505 = .ok (.iaload, 1) := by decide +kernel
theorem dL_law_506 : decode cL_law 506 = .ok (.invokevirtual 72, 3) := by decide +kernel
theorem dL_law_509 : decode cL_law 509 = .ok (.if_icmp .eq 126, 3) := by decide +kernel
theorem dL_law_512 : decode cL_law 512 = .ok (.iconst 0, 1) := by decide +kernel
theorem dL_law_513 : decode cL_law 513 = .ok (.ireturn, 1) := by decide +kernel
theorem dL_law_514 : decode cL_law 514 = .ok (.aload_n 1, 1) := by decide +kernel
theorem dL_law_515 : decode cL_law 515 = .ok (.invokevirtual 73, 3) := by decide +kernel
theorem dL_law_518 : decode cL_law 518 = .ok (.aload_n 2, 1) := by decide +kernel
theorem dL_law_519 : decode cL_law 519 = .ok (.invokevirtual 76, 3) := by decide +kernel
theorem dL_law_522 : decode cL_law 522 = .ok (.if_icmp .eq 113, 3) := by decide +kernel
theorem dL_law_525 : decode cL_law 525 = .ok (.iconst 0, 1) := by decide +kernel
theorem dL_law_526 : decode cL_law 526 = .ok (.ireturn, 1) := by decide +kernel
theorem dL_law_527 : decode cL_law 527 = .ok (.aload_n 1, 1) := by decide +kernel
theorem dL_law_528 : decode cL_law 528 = .ok (.aload_n 0, 1) := by decide +kernel
theorem dL_law_529 : decode cL_law 529 = .ok (.iload_n 3, 1) := by decide +kernel
theorem dL_law_530 : decode cL_law 530 = .ok (.iconst 1, 1) := by decide +kernel
theorem dL_law_531 : decode cL_law 531 = .ok (.iadd, 1) := by decide +kernel
theorem dL_law_532 : decode cL_law 532 = .ok (.iaload, 1) := by decide +kernel
theorem dL_law_533 : decode cL_law 533 = .ok (.invokevirtual 77, 3) := by decide +kernel
theorem dL_law_536 : decode cL_law 536 = .ok (.aload_n 2, 1) := by decide +kernel
theorem dL_law_537 : decode cL_law 537 = .ok (.aload_n 0, 1) := by decide +kernel
theorem dL_law_538 : decode cL_law 538 = .ok (.iload_n 3, 1) := by decide +kernel
theorem dL_law_539 : decode cL_law 539 = .ok (.iconst 1, 1) := by decide +kernel
theorem dL_law_540 : decode cL_law 540 = .ok (.iadd, 1) := by decide +kernel
theorem dL_law_541 : decode cL_law 541 = .ok (.iaload, 1) := by decide +kernel
theorem dL_law_542 : decode cL_law 542 = .ok (.invokevirtual 80, 3) := by decide +kernel
theorem dL_law_545 : decode cL_law 545 = .ok (.if_icmp .eq 90, 3) := by decide +kernel
theorem dL_law_548 : decode cL_law 548 = .ok (.iconst 0, 1) := by decide +kernel
theorem dL_law_549 : decode cL_law 549 = .ok (.ireturn, 1) := by decide +kernel
theorem dL_law_550 : decode cL_law 550 = .ok (.aload_n 1, 1) := by decide +kernel
theorem dL_law_551 : decode cL_law 551 = .ok (.invokevirtual 81, 3) := by decide +kernel
theorem dL_law_554 : decode cL_law 554 = .ok (.aload_n 2, 1) := by decide +kernel
theorem dL_law_555 : decode cL_law 555 = .ok (.invokevirtual 84, 3) := by decide +kernel
theorem dL_law_558 : decode cL_law 558 = .ok (.if_icmp .eq 77, 3) := by decide +kernel
theorem dL_law_561 : decode cL_law 561 = .ok (.iconst 0, 1) := by decide +kernel
theorem dL_law_562 : decode cL_law 562 = .ok (.ireturn, 1) := by decide +kernel
theorem dL_law_563 : decode cL_law 563 = .ok (.aload_n 1, 1) := by decide +kernel
theorem dL_law_564 : decode cL_law 564 = .ok (.aload_n 0, 1) := by decide +kernel
theorem dL_law_565 : decode cL_law 565 = .ok (.iload_n 3, 1) := by decide +kernel
theorem dL_law_566 : decode cL_law 566 = .ok (.iconst 1, 1) := by decide +kernel
theorem dL_law_567 : decode cL_law 567 = .ok (.iadd, 1) := by decide +kernel
theorem dL_law_568 : decode cL_law 568 = .ok (.iaload, 1) := by decide +kernel
theorem dL_law_569 : decode cL_law 569 = .ok (.invokevirtual 85, 3) := by decide +kernel
theorem dL_law_572 : decode cL_law 572 = .ok (.aload_n 2, 1) := by decide +kernel
theorem dL_law_573 : decode cL_law 573 = .ok (.aload_n 0, 1) := by decide +kernel
theorem dL_law_574 : decode cL_law 574 = .ok (.iload_n 3, 1) := by decide +kernel
theorem dL_law_575 : decode cL_law 575 = .ok (.iconst 1, 1) := by decide +kernel
theorem dL_law_576 : decode cL_law 576 = .ok (.iadd, 1) := by decide +kernel
theorem dL_law_577 : decode cL_law 577 = .ok (.iaload, 1) := by decide +kernel
theorem dL_law_578 : decode cL_law 578 = .ok (.invokevirtual 88, 3) := by decide +kernel
theorem dL_law_581 : decode cL_law 581 = .ok (.if_icmp .eq 54, 3) := by decide +kernel
theorem dL_law_584 : decode cL_law 584 = .ok (.iconst 0, 1) := by decide +kernel
theorem dL_law_585 : decode cL_law 585 = .ok (.ireturn, 1) := by decide +kernel
theorem dL_law_586 : decode cL_law 586 = .ok (.aload_n 1, 1) := by decide +kernel
theorem dL_law_587 : decode cL_law 587 = .ok (.invokevirtual 89, 3) := by decide +kernel
theorem dL_law_590 : decode cL_law 590 = .ok (.aload_n 2, 1) := by decide +kernel
theorem dL_law_591 : decode cL_law 591 = .ok (.invokevirtual 92, 3) := by decide +kernel
theorem dL_law_594 : decode cL_law 594 = .ok (.if_icmp .eq 41, 3) := by decide +kernel
theorem dL_law_597 : decode cL_law 597 = .ok (.iconst 0, 1) := by decide +kernel
theorem dL_law_598 : decode cL_law 598 = .ok (.ireturn, 1) := by decide +kernel
theorem dL_law_599 : decode cL_law 599 = .ok (.aload_n 1, 1) := by decide +kernel
theorem dL_law_600 : decode cL_law 600 = .ok (.aload_n 0, 1) := by decide +kernel
theorem dL_law_601 : decode cL_law 601 = .ok (.iload_n 3, 1) := by decide +kernel
theorem dL_law_602 : decode cL_law 602 = .ok (.iconst 1, 1) := by decide +kernel
theorem dL_law_603 : decode cL_law 603 = .ok (.iadd, 1) := by decide +kernel
theorem dL_law_604 : decode cL_law 604 = .ok (.iaload, 1) := by decide +kernel
theorem dL_law_605 : decode cL_law 605 = .ok (.invokevirtual 93, 3) := by decide +kernel
theorem dL_law_608 : decode cL_law 608 = .ok (.aload_n 2, 1) := by decide +kernel
theorem dL_law_609 : decode cL_law 609 = .ok (.aload_n 0, 1) := by decide +kernel
theorem dL_law_610 : decode cL_law 610 = .ok (.iload_n 3, 1) := by decide +kernel
theorem dL_law_611 : decode cL_law 611 = .ok (.iconst 1, 1) := by decide +kernel
theorem dL_law_612 : decode cL_law 612 = .ok (.iadd, 1) := by decide +kernel
theorem dL_law_613 : decode cL_law 613 = .ok (.iaload, 1) := by decide +kernel
theorem dL_law_614 : decode cL_law 614 = .ok (.invokevirtual 96, 3) := by decide +kernel
theorem dL_law_617 : decode cL_law 617 = .ok (.if_icmp .eq 18, 3) := by decide +kernel
theorem dL_law_620 : decode cL_law 620 = .ok (.iconst 0, 1) := by decide +kernel
theorem dL_law_621 : decode cL_law 621 = .ok (.ireturn, 1) := by decide +kernel
theorem dL_law_622 : decode cL_law 622 = .ok (.aload_n 1, 1) := by decide +kernel
theorem dL_law_623 : decode cL_law 623 = .ok (.invokevirtual 97, 3) := by decide +kernel
theorem dL_law_626 : decode cL_law 626 = .ok (.aload_n 2, 1) := by decide +kernel
theorem dL_law_627 : decode cL_law 627 = .ok (.invokevirtual 100, 3) := by decide +kernel
theorem dL_law_630 : decode cL_law 630 = .ok (.if_icmp .eq 5, 3) := by decide +kernel
theorem dL_law_633 : decode cL_law 633 = .ok (.iconst 0, 1) := by decide +kernel
theorem dL_law_634 : decode cL_law 634 = .ok (.ireturn, 1) := by decide +kernel
theorem dL_law_635 : decode cL_law 635 = .ok (.iinc 3 4, 3) := by decide +kernel
theorem dL_law_638 : decode cL_law 638 = .ok (.goto (-620), 3) := by decide +kernel
theorem dL_law_641 : decode cL_law 641 = .ok (.iconst 1, 1) := by decide +kernel
theorem dL_law_642 : decode cL_law 642 = .ok (.ireturn, 1) := by decide +kernel
end
section
/-! the cells of each object of the two classes, as lists over a function of rows (a scalar is place 0 of its row), and more rows of mine -/
abbrev U : Type := Nat → Nat → Int32
def cSt (cI : ClassId) (q : Nat → Nat) (u : U) : va_W := [(q 0, .inr (3, [.int (u 0 0), .ref (q 1), .ref (q 2), .ref (q 3), .int (u 4 0), .int (u 5 0), .int (u 6 0), .int (u 7 0)])), (q 1, .inl (cI, 10, .inl (u 1))), (q 2, .inl (cI, 10, .inl (u 2))), (q 3, .inl (cI, 10, .inl (u 3)))]
def cPr (cI : ClassId) (q : Nat → Nat) (u : U) : va_W := [(q 4, .inr (2, [.ref (q 5), .ref (q 6)])), (q 5, .inl (cI, 3, .inl (u 8))), (q 6, .inl (cI, 3, .inl (u 9)))]
def cLn (cI : ClassId) (q : Nat → Nat) (u : U) : va_W := [(q 7, .inr (1, [.ref (q 0), .ref (q 4), .ref (q 8), .int (u 11 0), .int (u 12 0), .ref (q 9), .ref (q 10), .ref (q 11), .ref (q 12)])), (q 8, .inl (cI, 5, .inl (u 10))), (q 9, .inl (cI, 32, .inl (u 13))), (q 10, .inl (cI, 32, .inl (u 14))), (q 11, .inl (cI, 32, .inl (u 15))), (q 12, .inl (cI, 32, .inl (u 16))), (q 0, .inr (3, [.int (u 0 0), .ref (q 1), .ref (q 2), .ref (q 3), .int (u 4 0), .int (u 5 0), .int (u 6 0), .int (u 7 0)])), (q 1, .inl (cI, 10, .inl (u 1))), (q 2, .inl (cI, 10, .inl (u 2))), (q 3, .inl (cI, 10, .inl (u 3))), (q 4, .inr (2, [.ref (q 5), .ref (q 6)])), (q 5, .inl (cI, 3, .inl (u 8))), (q 6, .inl (cI, 3, .inl (u 9)))]
def cTx (cI cC : ClassId) (q : Nat → Nat) (u : U) : va_W := [(q 0, .inr (4, [.ref (q 1), .int (u 1 0), .int (u 2 0), .int (u 3 0), .int (u 4 0), .int (u 5 0), .ref (q 2), .int (u 7 0), .int (u 8 0)])), (q 1, .inl (cC, 60, .inl (u 0))), (q 2, .inl (cI, 3, .inl (u 6)))]
def cMd (cI : ClassId) (q : Nat → Nat) (u : U) : va_W := [(q 0, .inr (6, [.ref (q 1), .ref (q 2), .ref (q 3), .int (u 3 0), .ref (q 4), .int (u 5 0), .ref (q 5), .int (u 7 0), .int (u 8 0), .int (u 9 0), .int (u 10 0), .int (u 11 0), .ref (q 6)])), (q 1, .inl (cI, 162, .inl (u 0))), (q 2, .inl (cI, 162, .inl (u 1))), (q 3, .inl (cI, 648, .inl (u 2))), (q 4, .inl (cI, 60, .inl (u 4))), (q 5, .inl (cI, 3, .inl (u 6))), (q 6, .inl (cI, 3, .inl (u 12)))]
theorem y_b01 {c : Prop} {h : Decidable c} : (@ite Int32 c h 1 0) = 0 ∨ (@ite Int32 c h 1 0) = 1 := by
  cases h with
  | isTrue h => exact Or.inr rfl
  | isFalse h => exact Or.inl rfl
theorem y_b10 {c : Prop} {h : Decidable c} : (@ite Int32 c h 0 1) = 0 ∨ (@ite Int32 c h 0 1) = 1 := by
  cases h with
  | isTrue h => exact Or.inl rfl
  | isFalse h => exact Or.inr rfl
theorem y_tabOut {x : Int32} (lo hi : Int) (hlo : -2147483648 ≤ lo) (hhi : hi < 2147483648) (h : ∀ k : Int, lo ≤ k → k ≤ hi → x = Int32.ofInt k → False) : x.toInt < lo ∨ hi < x.toInt := by
  by_cases h1 : x.toInt < lo
  · exact Or.inl h1
  · by_cases h2 : hi < x.toInt
    · exact Or.inr h2
    · exact absurd (Int32.ofInt_toInt x).symm (fun z => h x.toInt (by omega) (by omega) z)
section YR2
variable {p : Program} {l : Launch} {e : Env} {R : Room} {s : State} {m : MethodId} {args : Array Value} {below : List Frame} {meth : Method} {c : Code} {H : Heap} {locs : List Loc} {cells slots : Nat} {Q : State → Prop}
variable {cc : ByteArray} {pc nL : Nat} {ls : Array Slot} {rest : List Value} {D : va_G} {cI cC cL : ClassId} {A : Nat → Prop} {a : Nat} {ws ws' : va_W} {Ts : List Cond} {own : String}
theorem y_alen (S : CallFix p m c cc nL s args Ts own) (hw : y_W D cI cC cL A s H locs ws) (q0 : Nat) {x : vp_A} (ha : ws[q0]? = some (a, .inl (cI, x))) {v : Int32} (hv : nI x.1 = v) (hdg : decode cc pc = .ok (.arraylength, 1))
    (kk : W p l e R s m args below meth c H locs cells slots Q (F0 m (pc + 1) ls (.int v :: rest))) : W p l e R s m args below meth c H locs cells slots Q (F0 m pc ls (.ref a :: rest)) :=
  va_alen S.1 S.2.1 hw.1 hw.2.1 q0 0 ha (ty := .int) rfl hv hdg kk
theorem y_startIF {σ : Type} {y : MethodName} {w w' : List Cond} {fr lo maxL : Nat} {as : List Value} {r : Int32} {F : σ → va_W} {u : σ} {ret : Option FieldType} (hy : plainFor y = true) (hwd : w = Cond.code y cc maxL ret :: w') (hn : (lg_sl as).length ≤ maxL) (hret : ∃ ty, ret = some ty ∧ ∀ x : Int32, (ty = .boolean → x = 0 ∨ x = 1) → narrow ty (.int x) = .int x) (hrb : ret = some .boolean → r = 0 ∨ r = 1)
    (body : ∀ (p : Program) (e : Env) (s : State) (m : MethodId) (args : Array Value) (below : List Frame) (meth : Method) (c : Code) (A : Nat → Prop) (Q : State → Prop) (ls : Array Slot), CallFix p m c cc maxL s args w y.cls → y_W D cI cC cL A s s.heap [] ws →
      (∀ (H : Heap) (locs : List Loc) (pc : Nat) (ls : Array Slot) (x : Int32), y_W D cI cC cL A s H locs (F u) → x = r → decode cc pc = .ok (.ireturn, 1) → W p l e (y_R fr lo) s m args below meth c H locs 0 0 Q (F0 m pc ls [.int x])) →
      lv_has ls maxL (lv_args 0 as) → W p l e (y_R fr lo) s m args below meth c s.heap [] 0 0 Q (F0 m 0 ls [])) : y_MI l y w fr lo D cI cC cL as ws r F u := by
  intro sz
  refine va_MetF (cc := cc) (maxL := maxL) (ret := ret) hy hwd ?_
  intro p e s m args below meth c s₁ B hml hv
  obtain ⟨rfl, hsz, hP, hK, hD0⟩ := hv
  have hts := atoms_spec (ws := w) B.pre
  have hr := B.returns
  have hlocks := B.notSynchronized
  subst hsz
  rw [lg_entry_eq]
  refine body p e s m _ below meth c (va_A ws s.heap.size) _ _ ⟨B.exec, B.bytes, hml, findClass_of_methodNamed B.named, hts⟩ ⟨hK, hP, hD0.self, va_S.rf, fun q h => Or.inr h⟩ ?_ (lv_entry as hn)
  intro H locs pc ls x hw hx hdg
  obtain ⟨ty, hty, hna⟩ := hret
  obtain ⟨hK, hP, hD, hS, hA⟩ := hw
  refine W.zret (v := x) B.exec B.bytes (hr.trans hty) (hna x (fun h => by rw [hx]; exact hrb (hty.trans (by rw [h])))) (fun t ht hW => ⟨⟨x, u, rfl, ⟨hx, rfl⟩, by rw [ht]; exact hP, va_K.moved hW.alike hK, hD⟩, hS.F ht⟩) hS.2.2 hdg
/-- System.arraycopy of a whole int array onto one of its length -/
theorem y_copy (S : CallFix p m c cc nL s args Ts own) (hw : y_W D cI cC cL A s H locs ws) (hl : ls.size = nL) {index : Nat} (w1 : Cond.methodLink own index arraycopyName ∈ Ts) (w2 : Cond.native arraycopyName ∈ Ts) (w3 : Cond.static arraycopyName ∈ Ts) (w4 : Cond.initialized "java/lang/System" ∈ Ts) (q0 q1 : Nat) {a0 n : Nat} {f g : Nat → Int32} (ha0 : ws[q0]? = some (a0, .inl (cI, n, .inl f))) (ha1 : ws[q1]? = some (a, .inl (cI, n, .inl g))) {x : Int32} (hx : x.toInt = (n : Int))
    (hframes : 1 ≤ R.frames) (hlocals : (rest.map fun v => v.category).sum + (nativeFrameWords "java/lang/System" "arraycopy" 5 + 11) ≤ R.locals) (hn : n ≤ 2147483647) (hdg : decode cc pc = .ok (.invokestatic index, 3)) (hws : ws.set q1 (a, .inl (cI, n, .inl f)) = ws')
    (kk : ∀ (H1 : Heap) (locs1 : List Loc), y_W D cI cC cL A s H1 locs1 ws' → W p l e R s m args below meth c H1 locs1 cells slots Q (F0 m (pc + 3) ls rest)) : W p l e R s m args below meth c H locs cells slots Q (F0 m pc ls (.int x :: .int 0 :: .ref a :: .int 0 :: .ref a0 :: rest)) := by
  have hc : x.toNatClampNeg = n := by
    have : x.toNatClampNeg = x.toInt.toNat := rfl
    rw [this, hx]
    rfl
  have hc0 : (0 : Int32).toNatClampNeg = 0 := rfl
  have hw0 := hw
  obtain ⟨hK, hP, hD, hS, hA⟩ := hw
  refine va_copyi S.1 S.2.1 (by rw [S.2.2.1, hl]) S.2.2.2.1 (S.2.2.2.2 _ w1) (S.2.2.2.2 _ w2) (S.2.2.2.2 _ w3) (S.2.2.2.2 _ w4) hK hP hD hS q0 q1 0 0 ha0 ha1 rfl rfl rfl (by decide) (by decide) (fun h => ?_) (by rw [hc, hc0]; omega) (by rw [hc, hc0]; omega) (fun i _ => rfl) hframes hlocals hdg (fun H1 locs1 hP1 hD1 hS1 => ?_)
  · have := Int32.lt_iff_toInt_lt.mp h
    rw [hx] at this
    have h0 : (0 : Int32).toInt = 0 := rfl
    omega
  · have hw1 : y_W D cI cC cL A s H1 locs1 _ := ⟨hK, hP1, hD1, hS1, hA⟩
    have hlt : q1 < ws.length := (List.getElem?_eq_some_iff.mp ha1).1
    refine kk H1 locs1 (hw1.cong q1 (a := a) (cA := cI) (n := n) f (by rw [List.getElem?_set_self hlt]) (fun k hk => ?_) (by rw [List.set_set, hws]))
    rw [hc, hc0]
    unfold va_cpy
    rw [if_pos ⟨Nat.zero_le _, by omega⟩]
    congr 1
    omega
end YR2
end
section
/-! what the methods of the stages do, as functions of rows (0 many, 1 charge, 2 stays, 3 leaks, 4 given, 5 came out, 6 leaked, 7 spilled) -/
def jMin (x y : Int32) : Int32 := if y < x then y else x
def jHas (x n : Int32) : Int32 := if x < 0 then 0 else if n ≤ x then 0 else 1
theorem jHas_01 {x n : Int32} : jHas x n = 0 ∨ jHas x n = 1 := by
  unfold jHas
  by_cases h : x < 0
  · rw [if_pos h]; exact Or.inl rfl
  · rw [if_neg h]; by_cases h2 : n ≤ x
    · rw [if_pos h2]; exact Or.inl rfl
    · rw [if_neg h2]; exact Or.inr rfl
def jStay (u : U) (k : Nat) : Int32 := u 1 k * u 2 k / 1000
def jLeak (u : U) (k : Nat) : Int32 := (u 1 k - jStay u k) * u 3 k / 1000
def jLeav (u : U) (k : Nat) : Int32 := u 1 k - jStay u k - jLeak u k
/-- one stage of a hand-over: u the rows, x what comes -/
def jHS (cap : Int32) (w : U × Int32) (k : Nat) : U × Int32 :=
  (va_up (va_up (va_up w.1 1 (upd (w.1 1) k (jMin (jStay w.1 k + w.2) cap))) 6 (fun _ => w.1 6 0 + jLeak w.1 k)) 7 (fun _ => w.1 7 0 + ((jStay w.1 k + w.2) - jMin (jStay w.1 k + w.2) cap)), w.1 1 k - jStay w.1 k - jLeak w.1 k)
def jHL (x cap : Int32) (u : U) : Nat → U × Int32
  | 0 => (u, x)
  | k + 1 => jHS cap (jHL x cap u k) k
/-- a hand-over of n stages: the rows, the output -/
def jHO (x cap : Int32) (u : U) (n : Nat) : U × Int32 :=
  (va_up (va_up (jHL x cap u n).1 4 (fun _ => (jHL x cap u n).1 4 0 + x)) 5 (fun _ => (jHL x cap u n).1 5 0 + (jHL x cap u n).2), (jHL x cap u n).2)
def jEm (u : U) : U := va_up (va_up (va_up (va_up (va_up u 1 (fun _ => 0)) 4 (fun _ => 0)) 5 (fun _ => 0)) 6 (fun _ => 0)) 7 (fun _ => 0)
def jIt (cap : Int32) (n : Nat) (w : U × Int32) : Nat → U × Int32
  | 0 => w
  | k + 1 => jHO 0 cap (jIt cap n w k).1 n
def jLone (x cap : Int32) (u : U) (n k : Nat) : U × Int32 := jIt cap n (jHO x cap (jEm u) n) k
def jHd (x cap : Int32) (u : U) (n : Nat) : Nat → U
  | 0 => u
  | k + 1 => if jHd x cap u n k 7 0 = 0 then (jHO x cap (jHd x cap u n k) n).1 else jHd x cap u n k
def jCS (u : U) (k : Nat) (x y : Int32) : U := va_up (va_up u 2 (upd (u 2) k x)) 3 (upd (u 3) k y)
/-- the shares of the stages from a on are 0, i of them -/
def jCM (u : U) (a : Nat) : Nat → U
  | 0 => u
  | i + 1 => jCS (jCM u a i) (a + i) 0 0
def jSum (f : Nat → Int32) : Nat → Int32
  | 0 => 0
  | k + 1 => jSum f k + f k
def jFill (f : Nat → Int32) (x : Int32) : Nat → (Nat → Int32)
  | 0 => f
  | k + 1 => upd (jFill f x k) k x
theorem jFill_at (f : Nat → Int32) (x : Int32) : ∀ (n k : Nat), k < n → jFill f x n k = x
  | 0, k, h => absurd h (Nat.not_lt_zero k)
  | n + 1, k, h => by
    show upd (jFill f x n) n x k = x
    unfold upd
    by_cases hk : k = n
    · rw [if_pos hk]
    · rw [if_neg hk]
      exact jFill_at f x n k (by omega)
theorem jHL_0 (x cap : Int32) (u : U) (r : Nat) (h1 : r ≠ 1) (h6 : r ≠ 6) (h7 : r ≠ 7) : ∀ k, (jHL x cap u k).1 r = u r
  | 0 => rfl
  | k + 1 => by
    show (jHS cap (jHL x cap u k) k).1 r = u r
    unfold jHS
    simp only [va_up, if_neg h1, if_neg h6, if_neg h7]
    exact jHL_0 x cap u r h1 h6 h7 k
theorem jHO_0 (x cap : Int32) (u : U) (n r : Nat) (h1 : r ≠ 1) (h4 : r ≠ 4) (h5 : r ≠ 5) (h6 : r ≠ 6) (h7 : r ≠ 7) : (jHO x cap u n).1 r = u r := by
  unfold jHO
  simp only [va_up, if_neg h4, if_neg h5]
  exact jHL_0 x cap u r h1 h6 h7 n
theorem jHd_on (x cap : Int32) (u : U) (n i : Nat) (h : ¬ jHd x cap u n i 7 0 = 0) : ∀ k, jHd x cap u n (i + k) = jHd x cap u n i
  | 0 => rfl
  | k + 1 => by
    have e := jHd_on x cap u n i h k
    show (if jHd x cap u n (i + k) 7 0 = 0 then (jHO x cap (jHd x cap u n (i + k)) n).1 else jHd x cap u n (i + k)) = _
    rw [e, if_neg h]
end
section
/-! what the methods of the pairs (rows 8 outputs, 9 sizes) and of the line do (10 settings, 11 hand-overs, 12 references, 13 samples, 14 references of samples, 15 outputs, 16 mended) -/
def stMix (v u : U) : U := fun r => if r < 8 then v r else u r
def prMix (v u : U) : U := fun r => if r = 8 then v 8 else if r = 9 then v 9 else u r
theorem jHO_n {x cap : Int32} {u : U} {m n : Nat} (h : u 0 0 = nI n) : (jHO x cap u m).1 0 0 = nI n := by
  rw [jHO_0 x cap u m 0 (by decide) (by decide) (by decide) (by decide) (by decide)]
  exact h
theorem jHd_n {x cap : Int32} {u : U} {m n : Nat} (h : u 0 0 = nI n) : ∀ k, jHd x cap u m k 0 0 = nI n
  | 0 => h
  | k + 1 => by
    unfold jHd
    by_cases hk : jHd x cap u m k 7 0 = 0
    · rw [if_pos hk]; exact jHO_n (jHd_n h k)
    · rw [if_neg hk]; exact jHd_n h k
def jFD (a b : Int32) : Int32 := if 0 ≤ a ^^^ b then a / b else if a / b * b = a then a / b else a / b - 1
def jLearn (u : U) (k : Nat) (o s : Int32) : U := va_up (va_up u 8 (upd (u 8) k o)) 9 (upd (u 9) k s)
def jForget (u : U) : U := va_up (va_up u 8 (fun _ => 0)) 9 (fun _ => 0)
def jKn (s : Int32) : Int32 := if s ≤ 0 then 0 else 1
theorem jKn_01 {s : Int32} : jKn s = 0 ∨ jKn s = 1 := by
  unfold jKn
  by_cases h : s ≤ 0
  · rw [if_pos h]; exact Or.inl rfl
  · rw [if_neg h]; exact Or.inr rfl
def jCnt (f : Nat → Int32) : Nat → Int32
  | 0 => 0
  | k + 1 => jCnt f k + (if jKn (f k) = 0 then 0 else 1)
def jLo (u : U) (o l : Int32) (k : Nat) : Int32 := if o < u 8 k then l else if l = -1 then nI k else if u 8 k ≤ u 8 l.toNatClampNeg then l else nI k
def jHi (u : U) (o h : Int32) (k : Nat) : Int32 := if u 8 k < o then h else if h = -1 then nI k else if u 8 h.toNatClampNeg ≤ u 8 k then h else nI k
def jMS (u : U) (o : Int32) (w : Int32 × Int32) (k : Nat) : Int32 × Int32 := if jKn (u 9 k) = 0 then (w.1, w.2) else if u 8 k ≤ 0 then (w.1, w.2) else (jLo u o w.1 k, jHi u o w.2 k)
def jML (u : U) (o : Int32) : Nat → Int32 × Int32
  | 0 => (-1, -1)
  | k + 1 => jMS u o (jML u o k) k
def jMBt (u : U) (j i : Nat) (o : Int32) : Int32 := if u 8 i - u 8 j = 0 then u 9 j else u 9 j + jFD ((o - u 8 j) * (u 9 i - u 9 j)) (u 8 i - u 8 j)
def jMBy (u : U) (j : Nat) (o : Int32) : Int32 := if u 8 j = 0 then -2000004 else (if (1000000 : Int64) < o.toInt64 * (u 9 j).toInt64 / (u 8 j).toInt64 then (1000000 : Int64) else o.toInt64 * (u 9 j).toInt64 / (u 8 j).toInt64).toInt32
def jMend (u : U) (o : Int32) : Int32 := if (jML u o 3).1 = -1 then (if (jML u o 3).2 = -1 then -2000004 else jMBy u (jML u o 3).2.toNatClampNeg o) else if (jML u o 3).2 = -1 then jMBy u (jML u o 3).1.toNatClampNeg o else jMBt u (jML u o 3).1.toNatClampNeg (jML u o 3).2.toNatClampNeg o
theorem y_l0 {x : Int32} (h : ¬ x = 0) : ¬ x.toInt64 = 0 := by
  intro z
  apply h
  have h1 : x.toInt64.toInt = x.toInt := Int32.toInt_toInt64 x
  rw [z] at h1
  exact Int32.toInt.inj h1.symm
-- the line
def jDue (x p : Int32) : Int32 := if p = 0 then 0 else if ¬ x - x / p * p = 0 then 0 else 1
theorem jDue_01 {x p : Int32} : jDue x p = 0 ∨ jDue x p = 1 := by
  unfold jDue
  by_cases h : p = 0
  · rw [if_pos h]; exact Or.inl rfl
  · rw [if_neg h]
    by_cases h2 : ¬ x - x / p * p = 0
    · rw [if_pos h2]; exact Or.inl rfl
    · rw [if_neg h2]; exact Or.inr rfl
def jNx (u : U) : Int32 := u 12 0 - u 12 0 / 3 * 3
def jHB (x p : Int32) : Nat → Int32
  | 0 => x
  | k + 1 => jHB x p k + (if jDue (jHB x p k) p = 0 then 1 else 2)
def jKept (u : U) : Int32 := if 0 < (if u 11 0 - u 0 0 < 16 then u 11 0 - u 0 0 else 16) then (if u 11 0 - u 0 0 < 16 then u 11 0 - u 0 0 else 16) else 0
def jIsR (x : Int32) : Int32 := if x = -1 then 0 else 1
theorem jIsR_01 {s : Int32} : jIsR s = 0 ∨ jIsR s = 1 := by
  unfold jIsR
  by_cases h : s = -1
  · rw [if_pos h]; exact Or.inl rfl
  · rw [if_neg h]; exact Or.inr rfl
def jErr (u : U) (h n : Nat) : Int32 := (if ¬ u 16 (h % 32) = -2000004 then u 16 (h % 32) else u 15 (h % 32)) - u 13 ((h - n) % 32)
def jLf (u : U) (o : Int32) (k : Nat) : U := if u 14 k = -1 then u else jLearn u (u 14 k).toNatClampNeg o (u 13 k)
/-- a hand-over of the line, its number h, of n stages: the rows behind the stages' own, then what is learnt, what is mended -/
def jA (u : U) (x ref : Int32) (n h : Nat) : U := va_up (va_up (va_up (stMix (jHO x (u 10 0) u n).1 u) 13 (upd (u 13) (h % 32) x)) 14 (upd (u 14) (h % 32) ref)) 15 (upd (u 15) (h % 32) (jHO x (u 10 0) u n).2)
def jBm (u : U) (o : Int32) (n h : Nat) : U := va_up (jLf u o ((h - n) % 32)) 16 (upd (u 16) (h % 32) (jMend (jLf u o ((h - n) % 32)) o))
def jLH (u : U) (x ref : Int32) (n h : Nat) : U := va_up (if h < n then jA u x ref n h else jBm (jA u x ref n h) (jHO x (u 10 0) u n).2 n h) 11 (fun _ => nI (h + 1))
def jTk (u : U) (x : Int32) (n h k : Nat) : U := if jDue (u 11 0) (u 10 1) = 0 then jLH u x (-1) n h else jLH (jLH (va_up u 12 (fun _ => u 12 0 + 1)) (u 10 (2 + k)) (nI k) n h) x (-1) n (h + 1)
def jSA (u : U) (a : Nat) : U := va_up (va_up (jForget (jEm (va_up (jCM u a (10 - a)) 0 (fun _ => nI a)))) 11 (fun _ => 0)) 12 (fun _ => 0)
/-- the references of the samples are none (-1) or one of three -/
def okR (u : U) : Prop := ∀ j, j < 32 → u 14 j = -1 ∨ ∃ k, k < 3 ∧ u 14 j = nI k
def okr (x : Int32) : Prop := x = -1 ∨ ∃ k, k < 3 ∧ x = nI k
theorem okR_upd {u : U} {x : Int32} (h : okR u) (hx : okr x) (k : Nat) : ∀ j, j < 32 → upd (u 14) k x j = -1 ∨ ∃ i, i < 3 ∧ upd (u 14) k x j = nI i := by
  intro j hj
  unfold upd
  by_cases hk : j = k
  · rw [if_pos hk]; exact hx
  · rw [if_neg hk]; exact h j hj
theorem y_and31 {x : Int32} {n : Nat} (h : x = nI n) (hn : n < 2 ^ 31) : x &&& 31 = nI (n % 32) := by
  rw [h]
  exact pk_andN (k := 5) (by omega) rfl
theorem y_and3 {x : Int32} {n : Nat} (h : x = nI n) (hn : n < 2 ^ 31) : x &&& 3 = nI (n % 4) := by
  rw [h]
  exact pk_andN (k := 2) (by omega) rfl
theorem y_m1 (k : Nat) (hk : k < 3) : ¬ nI k = (-1 : Int32) := by
  intro h
  rcases (show k = 0 ∨ k = 1 ∨ k = 2 by omega) with rfl | rfl | rfl <;> exact absurd h (by decide)
end
section
set_option maxHeartbeats 4000000 in
set_option maxRecDepth 100000 in
/-- Arrays.fill: every place is x -/
theorem c_J7_fill_53178 (l : Launch) (D : va_G) (cI cC cL : ClassId) (a n : Nat) (f : Nat → Int32) (x : Int32) (hn : n < 2147483648) : y_MV l yJ7_fill_53178 wsJ7_fill_53178 0 0 D cI cC cL [.ref a, .int x] [(a, .inl (cI, n, .inl f))] (fun _ : Unit => [(a, .inl (cI, n, .inl (fun _ => x)))]) () := by
  refine y_startV (cc := cJ7_fill_53178) (maxL := 4) (by decide) rfl (Nat.le_of_ble_eq_true rfl) ?_
  intro p e s m args below meth c A Q ls S hw ret hl
  have S : CallFix p m c cJ7_fill_53178 4 s args wsJ7_fill_53178 RJ7 := S
  have hw : y_W D cI cC cL A s s.heap [] [(a, .inl (cI, n, .inl f))] := hw
  have hl : lv_has ls 4 [(0, .ref a), (1, .int x)] := hl
  refine lv_iconst (v := 0) S.1 S.2.1 dJ7_fill_53178_0 (by decide) ?_
  refine lv_istore_n (lv' := [(2, .int 0), (0, .ref a), (1, .int x)]) S.1 S.2.1 dJ7_fill_53178_1 rfl hl (by decide) rfl (fun ls hl => ?_)
  refine lv_aload_n S.1 S.2.1 dJ7_fill_53178_2 rfl (lv_at hl 1 rfl) ?_
  refine y_alen (v := nI n) S hw 0 rfl rfl dJ7_fill_53178_3 ?_
  refine lv_istore_n (lv' := [(3, .int (nI n)), (2, .int 0), (0, .ref a), (1, .int x)]) S.1 S.2.1 dJ7_fill_53178_4 rfl hl (by decide) rfl (fun ls hl => ?_)
  have lp5 : ∀ (fuel : Nat) (i : Nat), (i ≤ n) → (n - i) < fuel → ∀ (H : Heap) (locs : List Loc) (ls : Array Slot), y_W D cI cC cL A s H locs [(a, .inl (cI, n, .inl (jFill f x i)))] → lv_has ls 4 [(0, .ref a), (1, .int x), (2, .int (nI i)), (3, .int (nI n))] → W p l e (y_R 0 0) s m args below meth c H locs 0 0 Q (F0 m 5 ls []) := by
    intro fuel
    induction fuel with
    | zero =>
      intro i hi hfu
      exact absurd hfu (Nat.not_lt_zero _)
    | succ fuel ih5 =>
      intro i hi hfu H locs ls hw hl
      refine lv_iload_n S.1 S.2.1 dJ7_fill_53178_5 rfl (lv_at hl 2 rfl) ?_
      refine lv_iload_n S.1 S.2.1 dJ7_fill_53178_6 rfl (lv_at hl 3 rfl) ?_
      refine lv_icmp_ge (tgt := 20) S.1 S.2.1 dJ7_fill_53178_7 (by decide) (fun c_1 => ?_) (fun c_1 => ?_)
      · skip
        have c_1N : n ≤ i := (nI_leI (a := n) (b := i) (by omega) (by omega)).mp c_1
        exact ret _ _ _ _ (by exact hw.cong 0 (fun _ => x) rfl (fun k hk => jFill_at f x i k (by omega)) rfl) dJ7_fill_53178_20
      · skip
        have c_1N : ¬ n ≤ i := fun z => c_1 ((nI_leI (a := n) (b := i) (by omega) (by omega)).mpr z)
        refine lv_aload_n S.1 S.2.1 dJ7_fill_53178_10 rfl (lv_at hl 0 rfl) ?_
        refine lv_iload_n S.1 S.2.1 dJ7_fill_53178_11 rfl (lv_at hl 2 rfl) ?_
        refine lv_iload_n S.1 S.2.1 dJ7_fill_53178_12 rfl (lv_at hl 1 rfl) ?_
        refine y_iast S hw 0 (k := i) rfl (by omega) (by omega) dJ7_fill_53178_13 (ws' := [(a, .inl (cI, n, .inl (upd (jFill f x i) i x)))]) rfl (fun H locs hw => ?_)
        refine lv_iinc (v := (nI (i + 1))) (lv' := [(2, .int (nI (i + 1))), (0, .ref a), (1, .int x), (3, .int (nI n))]) S.1 S.2.1 dJ7_fill_53178_14 hl (k := 2) rfl (by first | exact nI_1 _ | exact nI_add _ _) (by decide) rfl (fun ls hl => ?_)
        refine lv_goto (tgt := 5) S.1 S.2.1 dJ7_fill_53178_17 (by decide) ?_
        exact ih5 (i + 1) (by omega) (by omega) _ _ ls hw (lv_sub hl [1, 2, 0, 3] rfl)
  exact lp5 ((n - 0) + 1) 0 (Nat.zero_le _) (Nat.lt_succ_self _) _ _ ls hw (lv_sub hl [2, 3, 1, 0] rfl)

theorem i_X3_staying_X3 : ∀ w ∈ u_ws RX3 TX3 8, w ∈ wsX3_staying := by decide +kernel
theorem f_X3_staying_15 : Cond.fieldLink RX3 15 "ChargeLines$Stages" "charge" "[I" ∈ wsX3_staying := by decide +kernel
theorem f_X3_staying_19 : Cond.fieldLink RX3 19 "ChargeLines$Stages" "stays" "[I" ∈ wsX3_staying := by decide +kernel
set_option maxHeartbeats 4000000 in
set_option maxRecDepth 100000 in
/-- Stages.staying -/
theorem c_X3_staying (l : Launch) (D : va_G) (cI cC cL : ClassId) (q : Nat → Nat) (u : U) (k : Nat) (hk : k < 10) : y_MI l yX3_staying wsX3_staying 0 0 D cI cC cL [.ref (q 0), .int (nI k)] (cSt cI q u) (jStay u k) (fun _ : Unit => cSt cI q u) () := by
  refine y_startI (cc := cX3_staying) (maxL := 2) (ret := some .int) (by decide +kernel) rfl (Nat.le_of_ble_eq_true rfl) ⟨_, rfl, fun x _ => rfl⟩ (fun h => by cases h) ?_
  intro p e s m args below meth c A Q ls S hw ret hl
  have S : CallFix p m c cX3_staying 2 s args wsX3_staying RX3 := S
  have hw : y_W D cI cC cL A s s.heap [] [((q 0), .inr (3, [.int (u 0 0), .ref (q 1), .ref (q 2), .ref (q 3), .int (u 4 0), .int (u 5 0), .int (u 6 0), .int (u 7 0)])), ((q 1), .inl (cI, 10, .inl (u 1))), ((q 2), .inl (cI, 10, .inl (u 2))), ((q 3), .inl (cI, 10, .inl (u 3)))] := hw
  have hl : lv_has ls 2 [(0, .ref (q 0)), (1, .int (nI k))] := hl
  refine lv_aload_n S.1 S.2.1 dX3_staying_0 rfl (lv_at hl 0 rfl) ?_
  refine y_get S hw (C := RX3) (T := TX3) (N := 8) i_X3_staying_X3 0 rfl rfl 1 (by decide) f_X3_staying_15 rfl dX3_staying_1 ?_
  refine lv_iload_n S.1 S.2.1 dX3_staying_4 rfl (lv_at hl 1 rfl) ?_
  refine y_iald S hw 1 (k := k) rfl (by omega) (Nat.le_of_ble_eq_true rfl) dX3_staying_5 ?_
  refine lv_aload_n S.1 S.2.1 dX3_staying_6 rfl (lv_at hl 0 rfl) ?_
  refine y_get S hw (C := RX3) (T := TX3) (N := 8) i_X3_staying_X3 0 rfl rfl 2 (by decide) f_X3_staying_19 rfl dX3_staying_7 ?_
  refine lv_iload_n S.1 S.2.1 dX3_staying_10 rfl (lv_at hl 1 rfl) ?_
  refine y_iald S hw 2 (k := k) rfl (by omega) (Nat.le_of_ble_eq_true rfl) dX3_staying_11 ?_
  refine lv_imul S.1 S.2.1 dX3_staying_12 ?_
  refine lv_sipush (v := 1000) S.1 S.2.1 dX3_staying_13 (by decide) ?_
  refine lv_idiv S.1 S.2.1 dX3_staying_16 (by decide) ?_
  exact ret _ _ _ _ _ (by exact hw) (by rfl) dX3_staying_17

theorem i_X3_leaking_X3 : ∀ w ∈ u_ws RX3 TX3 8, w ∈ wsX3_leaking := by decide +kernel
theorem f_X3_leaking_15 : Cond.fieldLink RX3 15 "ChargeLines$Stages" "charge" "[I" ∈ wsX3_leaking := by decide +kernel
theorem f_X3_leaking_22 : Cond.fieldLink RX3 22 "ChargeLines$Stages" "leaks" "[I" ∈ wsX3_leaking := by decide +kernel
set_option maxHeartbeats 4000000 in
set_option maxRecDepth 100000 in
/-- Stages.leaking -/
theorem c_X3_leaking (l : Launch) (D : va_G) (cI cC cL : ClassId) (q : Nat → Nat) (u : U) (k : Nat) (hk : k < 10) : y_MI l yX3_leaking wsX3_leaking 1 21 D cI cC cL [.ref (q 0), .int (nI k)] (cSt cI q u) (jLeak u k) (fun _ : Unit => cSt cI q u) () := by
  refine y_startI (cc := cX3_leaking) (maxL := 2) (ret := some .int) (by decide +kernel) rfl (Nat.le_of_ble_eq_true rfl) ⟨_, rfl, fun x _ => rfl⟩ (fun h => by cases h) ?_
  intro p e s m args below meth c A Q ls S hw ret hl
  have S : CallFix p m c cX3_leaking 2 s args wsX3_leaking RX3 := S
  have hw : y_W D cI cC cL A s s.heap [] [((q 0), .inr (3, [.int (u 0 0), .ref (q 1), .ref (q 2), .ref (q 3), .int (u 4 0), .int (u 5 0), .int (u 6 0), .int (u 7 0)])), ((q 1), .inl (cI, 10, .inl (u 1))), ((q 2), .inl (cI, 10, .inl (u 2))), ((q 3), .inl (cI, 10, .inl (u 3)))] := hw
  have hl : lv_has ls 2 [(0, .ref (q 0)), (1, .int (nI k))] := hl
  refine lv_aload_n S.1 S.2.1 dX3_leaking_0 rfl (lv_at hl 0 rfl) ?_
  refine y_get S hw (C := RX3) (T := TX3) (N := 8) i_X3_leaking_X3 0 rfl rfl 1 (by decide) f_X3_leaking_15 rfl dX3_leaking_1 ?_
  refine lv_iload_n S.1 S.2.1 dX3_leaking_4 rfl (lv_at hl 1 rfl) ?_
  refine y_iald S hw 1 (k := k) rfl (by omega) (Nat.le_of_ble_eq_true rfl) dX3_leaking_5 ?_
  refine lv_aload_n S.1 S.2.1 dX3_leaking_6 rfl (lv_at hl 0 rfl) ?_
  refine lv_iload_n S.1 S.2.1 dX3_leaking_7 rfl (lv_at hl 1 rfl) ?_
  refine y_callI (As := [.int (nI k)]) (rest := [.int ((u 1) k)]) S hw hl.1 (c_X3_staying l D cI cC cL q u k (by omega)) (cwV 1 S.2.2.2.2 gX3_leaking_X3_staying rfl rfl rfl (by decide +kernel) ⟨Nat.le_of_ble_eq_true rfl, Nat.le_of_ble_eq_true rfl⟩) 0 rfl rfl [0, 1, 2, 3] [] rfl (by decide +kernel) (wr := []) rfl (by decide +kernel) (by decide +kernel) rfl (Nat.le_of_ble_eq_true rfl) dX3_leaking_8 rfl ⟨Nat.le_refl _, Nat.le_refl _⟩ (fun H locs v_1 x_2 ev_1 ex_2 hw => ?_)
  have hw : y_W D cI cC cL A s H locs [((q 0), .inr (3, [.int (u 0 0), .ref (q 1), .ref (q 2), .ref (q 3), .int (u 4 0), .int (u 5 0), .int (u 6 0), .int (u 7 0)])), ((q 1), .inl (cI, 10, .inl (u 1))), ((q 2), .inl (cI, 10, .inl (u 2))), ((q 3), .inl (cI, 10, .inl (u 3)))] := hw
  subst ex_2
  refine lv_isub S.1 S.2.1 dX3_leaking_11 ?_
  refine lv_aload_n S.1 S.2.1 dX3_leaking_12 rfl (lv_at hl 0 rfl) ?_
  refine y_get S hw (C := RX3) (T := TX3) (N := 8) i_X3_leaking_X3 0 rfl rfl 3 (by decide) f_X3_leaking_22 rfl dX3_leaking_13 ?_
  refine lv_iload_n S.1 S.2.1 dX3_leaking_16 rfl (lv_at hl 1 rfl) ?_
  refine y_iald S hw 3 (k := k) rfl (by omega) (Nat.le_of_ble_eq_true rfl) dX3_leaking_17 ?_
  refine lv_imul S.1 S.2.1 dX3_leaking_18 ?_
  refine lv_sipush (v := 1000) S.1 S.2.1 dX3_leaking_19 (by decide) ?_
  refine lv_idiv S.1 S.2.1 dX3_leaking_22 (by decide) ?_
  exact ret _ _ _ _ _ (by exact hw) (by rfl) dX3_leaking_23

theorem i_X3_leaving_X3 : ∀ w ∈ u_ws RX3 TX3 8, w ∈ wsX3_leaving := by decide +kernel
theorem f_X3_leaving_15 : Cond.fieldLink RX3 15 "ChargeLines$Stages" "charge" "[I" ∈ wsX3_leaving := by decide +kernel
set_option maxHeartbeats 4000000 in
set_option maxRecDepth 100000 in
/-- Stages.leaving -/
theorem c_X3_leaving (l : Launch) (D : va_G) (cI cC cL : ClassId) (q : Nat → Nat) (u : U) (k : Nat) (hk : k < 10) : y_MI l yX3_leaving wsX3_leaving 2 42 D cI cC cL [.ref (q 0), .int (nI k)] (cSt cI q u) (jLeav u k) (fun _ : Unit => cSt cI q u) () := by
  refine y_startI (cc := cX3_leaving) (maxL := 2) (ret := some .int) (by decide +kernel) rfl (Nat.le_of_ble_eq_true rfl) ⟨_, rfl, fun x _ => rfl⟩ (fun h => by cases h) ?_
  intro p e s m args below meth c A Q ls S hw ret hl
  have S : CallFix p m c cX3_leaving 2 s args wsX3_leaving RX3 := S
  have hw : y_W D cI cC cL A s s.heap [] [((q 0), .inr (3, [.int (u 0 0), .ref (q 1), .ref (q 2), .ref (q 3), .int (u 4 0), .int (u 5 0), .int (u 6 0), .int (u 7 0)])), ((q 1), .inl (cI, 10, .inl (u 1))), ((q 2), .inl (cI, 10, .inl (u 2))), ((q 3), .inl (cI, 10, .inl (u 3)))] := hw
  have hl : lv_has ls 2 [(0, .ref (q 0)), (1, .int (nI k))] := hl
  refine lv_aload_n S.1 S.2.1 dX3_leaving_0 rfl (lv_at hl 0 rfl) ?_
  refine y_get S hw (C := RX3) (T := TX3) (N := 8) i_X3_leaving_X3 0 rfl rfl 1 (by decide) f_X3_leaving_15 rfl dX3_leaving_1 ?_
  refine lv_iload_n S.1 S.2.1 dX3_leaving_4 rfl (lv_at hl 1 rfl) ?_
  refine y_iald S hw 1 (k := k) rfl (by omega) (Nat.le_of_ble_eq_true rfl) dX3_leaving_5 ?_
  refine lv_aload_n S.1 S.2.1 dX3_leaving_6 rfl (lv_at hl 0 rfl) ?_
  refine lv_iload_n S.1 S.2.1 dX3_leaving_7 rfl (lv_at hl 1 rfl) ?_
  refine y_callI (As := [.int (nI k)]) (rest := [.int ((u 1) k)]) S hw hl.1 (c_X3_staying l D cI cC cL q u k (by omega)) (cwV 1 S.2.2.2.2 gX3_leaving_X3_staying rfl rfl rfl (by decide +kernel) ⟨Nat.le_of_ble_eq_true rfl, Nat.le_of_ble_eq_true rfl⟩) 0 rfl rfl [0, 1, 2, 3] [] rfl (by decide +kernel) (wr := []) rfl (by decide +kernel) (by decide +kernel) rfl (Nat.le_of_ble_eq_true rfl) dX3_leaving_8 rfl ⟨Nat.le_refl _, Nat.le_refl _⟩ (fun H locs v_1 x_2 ev_1 ex_2 hw => ?_)
  have hw : y_W D cI cC cL A s H locs [((q 0), .inr (3, [.int (u 0 0), .ref (q 1), .ref (q 2), .ref (q 3), .int (u 4 0), .int (u 5 0), .int (u 6 0), .int (u 7 0)])), ((q 1), .inl (cI, 10, .inl (u 1))), ((q 2), .inl (cI, 10, .inl (u 2))), ((q 3), .inl (cI, 10, .inl (u 3)))] := hw
  subst ex_2
  refine lv_isub S.1 S.2.1 dX3_leaving_11 ?_
  refine lv_aload_n S.1 S.2.1 dX3_leaving_12 rfl (lv_at hl 0 rfl) ?_
  refine lv_iload_n S.1 S.2.1 dX3_leaving_13 rfl (lv_at hl 1 rfl) ?_
  refine y_callI (As := [.int (nI k)]) (rest := [.int (((u 1) k) - (jStay u k))]) S hw hl.1 (c_X3_leaking l D cI cC cL q u k (by omega)) (cwV 1 S.2.2.2.2 gX3_leaving_X3_leaking rfl rfl rfl (by decide +kernel) ⟨Nat.le_of_ble_eq_true rfl, Nat.le_of_ble_eq_true rfl⟩) 0 rfl rfl [0, 1, 2, 3] [] rfl (by decide +kernel) (wr := []) rfl (by decide +kernel) (by decide +kernel) rfl (Nat.le_of_ble_eq_true rfl) dX3_leaving_14 rfl ⟨Nat.le_refl _, Nat.le_refl _⟩ (fun H locs v_3 x_4 ev_3 ex_4 hw => ?_)
  have hw : y_W D cI cC cL A s H locs [((q 0), .inr (3, [.int (u 0 0), .ref (q 1), .ref (q 2), .ref (q 3), .int (u 4 0), .int (u 5 0), .int (u 6 0), .int (u 7 0)])), ((q 1), .inl (cI, 10, .inl (u 1))), ((q 2), .inl (cI, 10, .inl (u 2))), ((q 3), .inl (cI, 10, .inl (u 3)))] := hw
  subst ex_4
  refine lv_isub S.1 S.2.1 dX3_leaving_17 ?_
  exact ret _ _ _ _ _ (by exact hw) (by rfl) dX3_leaving_18

theorem i_X3_has_X3 : ∀ w ∈ u_ws RX3 TX3 8, w ∈ wsX3_has := by decide +kernel
theorem f_X3_has_9 : Cond.fieldLink RX3 9 "ChargeLines$Stages" "many" "I" ∈ wsX3_has := by decide +kernel
set_option maxHeartbeats 4000000 in
set_option maxRecDepth 100000 in
/-- Stages.has -/
theorem c_X3_has (l : Launch) (D : va_G) (cI cC cL : ClassId) (q : Nat → Nat) (u : U) (x : Int32) : y_MI l yX3_has wsX3_has 0 0 D cI cC cL [.ref (q 0), .int x] (cSt cI q u) (jHas x (u 0 0)) (fun _ : Unit => cSt cI q u) () := by
  refine y_startI (cc := cX3_has) (maxL := 2) (ret := some .boolean) (by decide +kernel) rfl (Nat.le_of_ble_eq_true rfl) ⟨_, rfl, fun x h => by rcases h rfl with rfl | rfl <;> rfl⟩ (fun _ => jHas_01) ?_
  intro p e s m args below meth c A Q ls S hw ret hl
  have S : CallFix p m c cX3_has 2 s args wsX3_has RX3 := S
  have hw : y_W D cI cC cL A s s.heap [] [((q 0), .inr (3, [.int (u 0 0), .ref (q 1), .ref (q 2), .ref (q 3), .int (u 4 0), .int (u 5 0), .int (u 6 0), .int (u 7 0)])), ((q 1), .inl (cI, 10, .inl (u 1))), ((q 2), .inl (cI, 10, .inl (u 2))), ((q 3), .inl (cI, 10, .inl (u 3)))] := hw
  have hl : lv_has ls 2 [(0, .ref (q 0)), (1, .int x)] := hl
  refine lv_iload_n S.1 S.2.1 dX3_has_0 rfl (lv_at hl 1 rfl) ?_
  refine lv_if_lt (tgt := 16) S.1 S.2.1 dX3_has_1 (by decide) (fun c_1 => ?_) (fun c_1 => ?_)
  · skip
    refine lv_iconst (v := 0) S.1 S.2.1 dX3_has_16 (by decide) ?_
    exact ret _ _ _ _ _ (by exact hw) (by simp only [jHas, c_1, ↓reduceIte]) dX3_has_17
  · skip
    refine lv_iload_n S.1 S.2.1 dX3_has_4 rfl (lv_at hl 1 rfl) ?_
    refine lv_aload_n S.1 S.2.1 dX3_has_5 rfl (lv_at hl 0 rfl) ?_
    refine y_get S hw (C := RX3) (T := TX3) (N := 8) i_X3_has_X3 0 rfl rfl 0 (by decide) f_X3_has_9 rfl dX3_has_6 ?_
    refine lv_icmp_ge (tgt := 16) S.1 S.2.1 dX3_has_9 (by decide) (fun c_2 => ?_) (fun c_2 => ?_)
    · skip
      refine lv_iconst (v := 0) S.1 S.2.1 dX3_has_16 (by decide) ?_
      exact ret _ _ _ _ _ (by exact hw) (by simp only [jHas, c_1, c_2, ↓reduceIte]) dX3_has_17
    · skip
      refine lv_iconst (v := 1) S.1 S.2.1 dX3_has_12 (by decide) ?_
      refine lv_goto (tgt := 17) S.1 S.2.1 dX3_has_13 (by decide) ?_
      exact ret _ _ _ _ _ (by exact hw) (by simp only [jHas, c_1, c_2, ↓reduceIte]) dX3_has_17

theorem i_X3_changeShares_X3 : ∀ w ∈ u_ws RX3 TX3 8, w ∈ wsX3_changeShares := by decide +kernel
theorem f_X3_changeShares_19 : Cond.fieldLink RX3 19 "ChargeLines$Stages" "stays" "[I" ∈ wsX3_changeShares := by decide +kernel
theorem f_X3_changeShares_22 : Cond.fieldLink RX3 22 "ChargeLines$Stages" "leaks" "[I" ∈ wsX3_changeShares := by decide +kernel
set_option maxHeartbeats 4000000 in
set_option maxRecDepth 100000 in
/-- Stages.changeShares -/
theorem c_X3_changeShares (l : Launch) (D : va_G) (cI cC cL : ClassId) (q : Nat → Nat) (u : U) (k : Nat) (x y : Int32) (hk : k < 10) : y_MV l yX3_changeShares wsX3_changeShares 0 0 D cI cC cL [.ref (q 0), .int (nI k), .int x, .int y] (cSt cI q u) (fun v : U => cSt cI q v) (jCS u k x y) := by
  refine y_startV (cc := cX3_changeShares) (maxL := 4) (by decide) rfl (Nat.le_of_ble_eq_true rfl) ?_
  intro p e s m args below meth c A Q ls S hw ret hl
  have S : CallFix p m c cX3_changeShares 4 s args wsX3_changeShares RX3 := S
  have hw : y_W D cI cC cL A s s.heap [] [((q 0), .inr (3, [.int (u 0 0), .ref (q 1), .ref (q 2), .ref (q 3), .int (u 4 0), .int (u 5 0), .int (u 6 0), .int (u 7 0)])), ((q 1), .inl (cI, 10, .inl (u 1))), ((q 2), .inl (cI, 10, .inl (u 2))), ((q 3), .inl (cI, 10, .inl (u 3)))] := hw
  have hl : lv_has ls 4 [(0, .ref (q 0)), (1, .int (nI k)), (2, .int x), (3, .int y)] := hl
  refine lv_aload_n S.1 S.2.1 dX3_changeShares_0 rfl (lv_at hl 0 rfl) ?_
  refine y_get S hw (C := RX3) (T := TX3) (N := 8) i_X3_changeShares_X3 0 rfl rfl 2 (by decide) f_X3_changeShares_19 rfl dX3_changeShares_1 ?_
  refine lv_iload_n S.1 S.2.1 dX3_changeShares_4 rfl (lv_at hl 1 rfl) ?_
  refine lv_iload_n S.1 S.2.1 dX3_changeShares_5 rfl (lv_at hl 2 rfl) ?_
  refine y_iast S hw 2 (k := k) rfl (by omega) (Nat.le_of_ble_eq_true rfl) dX3_changeShares_6 (ws' := [((q 0), .inr (3, [.int (u 0 0), .ref (q 1), .ref (q 2), .ref (q 3), .int (u 4 0), .int (u 5 0), .int (u 6 0), .int (u 7 0)])), ((q 1), .inl (cI, 10, .inl (u 1))), ((q 2), .inl (cI, 10, .inl (upd (u 2) k x))), ((q 3), .inl (cI, 10, .inl (u 3)))]) rfl (fun H locs hw => ?_)
  refine lv_aload_n S.1 S.2.1 dX3_changeShares_7 rfl (lv_at hl 0 rfl) ?_
  refine y_get S hw (C := RX3) (T := TX3) (N := 8) i_X3_changeShares_X3 0 rfl rfl 3 (by decide) f_X3_changeShares_22 rfl dX3_changeShares_8 ?_
  refine lv_iload_n S.1 S.2.1 dX3_changeShares_11 rfl (lv_at hl 1 rfl) ?_
  refine lv_iload_n S.1 S.2.1 dX3_changeShares_12 rfl (lv_at hl 3 rfl) ?_
  refine y_iast S hw 3 (k := k) rfl (by omega) (Nat.le_of_ble_eq_true rfl) dX3_changeShares_13 (ws' := [((q 0), .inr (3, [.int (u 0 0), .ref (q 1), .ref (q 2), .ref (q 3), .int (u 4 0), .int (u 5 0), .int (u 6 0), .int (u 7 0)])), ((q 1), .inl (cI, 10, .inl (u 1))), ((q 2), .inl (cI, 10, .inl (upd (u 2) k x))), ((q 3), .inl (cI, 10, .inl (upd (u 3) k y)))]) rfl (fun H locs hw => ?_)
  exact ret _ _ _ _ (by exact hw) dX3_changeShares_14

theorem i_X3_changeMany_X3 : ∀ w ∈ u_ws RX3 TX3 8, w ∈ wsX3_changeMany := by decide +kernel
theorem f_X3_changeMany_9 : Cond.fieldLink RX3 9 "ChargeLines$Stages" "many" "I" ∈ wsX3_changeMany := by decide +kernel
set_option maxHeartbeats 4000000 in
set_option maxRecDepth 100000 in
/-- Stages.changeMany -/
theorem c_X3_changeMany (l : Launch) (D : va_G) (cI cC cL : ClassId) (q : Nat → Nat) (u : U) (a : Nat) (ha : a ≤ 10) : y_MV l yX3_changeMany wsX3_changeMany 1 23 D cI cC cL [.ref (q 0), .int (nI a)] (cSt cI q u) (fun v : U => cSt cI q v) (va_up (jCM u a (10 - a)) 0 (fun _ => nI a)) := by
  refine y_startV (cc := cX3_changeMany) (maxL := 3) (by decide) rfl (Nat.le_of_ble_eq_true rfl) ?_
  intro p e s m args below meth c A Q ls S hw ret hl
  have S : CallFix p m c cX3_changeMany 3 s args wsX3_changeMany RX3 := S
  have hw : y_W D cI cC cL A s s.heap [] [((q 0), .inr (3, [.int (u 0 0), .ref (q 1), .ref (q 2), .ref (q 3), .int (u 4 0), .int (u 5 0), .int (u 6 0), .int (u 7 0)])), ((q 1), .inl (cI, 10, .inl (u 1))), ((q 2), .inl (cI, 10, .inl (u 2))), ((q 3), .inl (cI, 10, .inl (u 3)))] := hw
  have hl : lv_has ls 3 [(0, .ref (q 0)), (1, .int (nI a))] := hl
  refine lv_iload_n S.1 S.2.1 dX3_changeMany_0 rfl (lv_at hl 1 rfl) ?_
  refine lv_istore_n (lv' := [(2, .int (nI a)), (0, .ref (q 0)), (1, .int (nI a))]) S.1 S.2.1 dX3_changeMany_1 rfl hl (by decide) rfl (fun ls hl => ?_)
  have lp2 : ∀ (fuel : Nat) (i : Nat) (w : U), (a + i ≤ 10) → (w = jCM u a i) → (10 - i) < fuel → ∀ (H : Heap) (locs : List Loc) (ls : Array Slot), y_W D cI cC cL A s H locs [((q 0), .inr (3, [.int (w 0 0), .ref (q 1), .ref (q 2), .ref (q 3), .int (w 4 0), .int (w 5 0), .int (w 6 0), .int (w 7 0)])), ((q 1), .inl (cI, 10, .inl (w 1))), ((q 2), .inl (cI, 10, .inl (w 2))), ((q 3), .inl (cI, 10, .inl (w 3)))] → lv_has ls 3 [(0, .ref (q 0)), (1, .int (nI a)), (2, .int (nI (a + i)))] → W p l e (y_R 1 23) s m args below meth c H locs 0 0 Q (F0 m 2 ls []) := by
    intro fuel
    induction fuel with
    | zero =>
      intro i w hi hv hfu
      exact absurd hfu (Nat.not_lt_zero _)
    | succ fuel ih2 =>
      intro i w hi hv hfu H locs ls hw hl
      refine lv_iload_n S.1 S.2.1 dX3_changeMany_2 rfl (lv_at hl 2 rfl) ?_
      refine lv_bipush (v := 10) S.1 S.2.1 dX3_changeMany_3 (by decide) ?_
      refine lv_icmp_ge (tgt := 21) S.1 S.2.1 dX3_changeMany_5 (by decide) (fun c_1 => ?_) (fun c_1 => ?_)
      · skip
        have c_1N : 10 ≤ (a + i) := (nI_leI (a := 10) (b := (a + i)) (by omega) (by omega)).mp c_1
        refine lv_aload_n S.1 S.2.1 dX3_changeMany_21 rfl (lv_at hl 0 rfl) ?_
        refine lv_iload_n S.1 S.2.1 dX3_changeMany_22 rfl (lv_at hl 1 rfl) ?_
        refine y_put S hw (C := RX3) (T := TX3) (N := 8) i_X3_changeMany_X3 tyX3_ok nmX3 0 rfl rfl 0 (by decide) f_X3_changeMany_9 (by decide +kernel) rfl rfl (Nat.le_of_ble_eq_true rfl) dX3_changeMany_23 (ws' := [((q 0), .inr (3, [.int (nI a), .ref (q 1), .ref (q 2), .ref (q 3), .int (w 4 0), .int (w 5 0), .int (w 6 0), .int (w 7 0)])), ((q 1), .inl (cI, 10, .inl (w 1))), ((q 2), .inl (cI, 10, .inl (w 2))), ((q 3), .inl (cI, 10, .inl (w 3)))]) rfl (fun H locs hw => ?_)
        exact ret _ _ _ _ (by rw [show 10 - a = i from by omega, ← hv]; exact hw) dX3_changeMany_26
      · skip
        have c_1N : ¬ 10 ≤ (a + i) := fun z => c_1 ((nI_leI (a := 10) (b := (a + i)) (by omega) (by omega)).mpr z)
        refine lv_aload_n S.1 S.2.1 dX3_changeMany_8 rfl (lv_at hl 0 rfl) ?_
        refine lv_iload_n S.1 S.2.1 dX3_changeMany_9 rfl (lv_at hl 2 rfl) ?_
        refine lv_iconst (v := 0) S.1 S.2.1 dX3_changeMany_10 (by decide) ?_
        refine lv_iconst (v := 0) S.1 S.2.1 dX3_changeMany_11 (by decide) ?_
        refine y_callV (As := [.int (nI (a + i)), .int 0, .int 0]) (rest := []) S hw hl.1 (c_X3_changeShares l D cI cC cL q w (a + i) 0 0 (by omega)) (cwV 3 S.2.2.2.2 gX3_changeMany_X3_changeShares rfl rfl rfl (by decide +kernel) ⟨Nat.le_of_ble_eq_true rfl, Nat.le_of_ble_eq_true rfl⟩) 0 rfl rfl [0, 1, 2, 3] [] rfl (by decide +kernel) (wr := []) rfl (by decide +kernel) (by decide +kernel) rfl (Nat.le_of_ble_eq_true rfl) dX3_changeMany_12 rfl ⟨Nat.le_refl _, Nat.le_refl _⟩ (fun H locs v_2 ev_2 hw => ?_)
        have hw : y_W D cI cC cL A s H locs [((q 0), .inr (3, [.int (v_2 0 0), .ref (q 1), .ref (q 2), .ref (q 3), .int (v_2 4 0), .int (v_2 5 0), .int (v_2 6 0), .int (v_2 7 0)])), ((q 1), .inl (cI, 10, .inl (v_2 1))), ((q 2), .inl (cI, 10, .inl (v_2 2))), ((q 3), .inl (cI, 10, .inl (v_2 3)))] := hw
        refine lv_iinc (v := (nI ((a + i) + 1))) (lv' := [(2, .int (nI ((a + i) + 1))), (0, .ref (q 0)), (1, .int (nI a))]) S.1 S.2.1 dX3_changeMany_15 hl (k := 2) rfl (by first | exact nI_1 _ | exact nI_add _ _) (by decide) rfl (fun ls hl => ?_)
        refine lv_goto (tgt := 2) S.1 S.2.1 dX3_changeMany_18 (by decide) ?_
        exact ih2 (i + 1) v_2 (by omega) (by rw [ev_2, hv]; rfl) (by omega) _ _ ls hw (lv_sub hl [1, 2, 0] rfl)
  exact lp2 ((10 - 0) + 1) 0 u (by omega) (rfl) (Nat.lt_succ_self _) _ _ ls hw (lv_sub hl [1, 2, 0] rfl)

theorem i_X3_empty_X3 : ∀ w ∈ u_ws RX3 TX3 8, w ∈ wsX3_empty := by decide +kernel
theorem f_X3_empty_15 : Cond.fieldLink RX3 15 "ChargeLines$Stages" "charge" "[I" ∈ wsX3_empty := by decide +kernel
theorem f_X3_empty_31 : Cond.fieldLink RX3 31 "ChargeLines$Stages" "given" "I" ∈ wsX3_empty := by decide +kernel
theorem f_X3_empty_34 : Cond.fieldLink RX3 34 "ChargeLines$Stages" "cameOut" "I" ∈ wsX3_empty := by decide +kernel
theorem f_X3_empty_37 : Cond.fieldLink RX3 37 "ChargeLines$Stages" "leaked" "I" ∈ wsX3_empty := by decide +kernel
theorem f_X3_empty_40 : Cond.fieldLink RX3 40 "ChargeLines$Stages" "spilled" "I" ∈ wsX3_empty := by decide +kernel
set_option maxHeartbeats 4000000 in
set_option maxRecDepth 100000 in
/-- Stages.empty -/
theorem c_X3_empty (l : Launch) (D : va_G) (cI cC cL : ClassId) (q : Nat → Nat) (u : U) : y_MV l yX3_empty wsX3_empty 1 23 D cI cC cL [.ref (q 0)] (cSt cI q u) (fun v : U => cSt cI q v) (jEm u) := by
  refine y_startV (cc := cX3_empty) (maxL := 1) (by decide) rfl (Nat.le_of_ble_eq_true rfl) ?_
  intro p e s m args below meth c A Q ls S hw ret hl
  have S : CallFix p m c cX3_empty 1 s args wsX3_empty RX3 := S
  have hw : y_W D cI cC cL A s s.heap [] [((q 0), .inr (3, [.int (u 0 0), .ref (q 1), .ref (q 2), .ref (q 3), .int (u 4 0), .int (u 5 0), .int (u 6 0), .int (u 7 0)])), ((q 1), .inl (cI, 10, .inl (u 1))), ((q 2), .inl (cI, 10, .inl (u 2))), ((q 3), .inl (cI, 10, .inl (u 3)))] := hw
  have hl : lv_has ls 1 [(0, .ref (q 0))] := hl
  refine lv_aload_n S.1 S.2.1 dX3_empty_0 rfl (lv_at hl 0 rfl) ?_
  refine y_get S hw (C := RX3) (T := TX3) (N := 8) i_X3_empty_X3 0 rfl rfl 1 (by decide) f_X3_empty_15 rfl dX3_empty_1 ?_
  refine lv_iconst (v := 0) S.1 S.2.1 dX3_empty_4 (by decide) ?_
  refine y_callSV (As := [.ref (q 1), .int 0]) (rest := []) S hw hl.1 (c_J7_fill_53178 l D cI cC cL (q 1) 10 (u 1) 0 (by decide)) (va_cwS 2 S.2.2.2.2 gX3_empty_J7_fill_53178 rfl rfl rfl (by decide +kernel) ⟨Nat.le_of_ble_eq_true rfl, Nat.le_of_ble_eq_true rfl⟩) [1] [0, 2, 3] rfl (by decide +kernel) (wr := [((q 0), .inr (3, [.int (u 0 0), .ref (q 1), .ref (q 2), .ref (q 3), .int (u 4 0), .int (u 5 0), .int (u 6 0), .int (u 7 0)])), ((q 2), .inl (cI, 10, .inl (u 2))), ((q 3), .inl (cI, 10, .inl (u 3)))]) rfl (by decide +kernel) (by decide +kernel) rfl (Nat.le_of_ble_eq_true rfl) dX3_empty_5 rfl ⟨Nat.le_refl _, Nat.le_refl _⟩ (fun H locs v_1 ev_1 hw => ?_)
  have hw : y_W D cI cC cL A s H locs [((q 0), .inr (3, [.int (u 0 0), .ref (q 1), .ref (q 2), .ref (q 3), .int (u 4 0), .int (u 5 0), .int (u 6 0), .int (u 7 0)])), ((q 2), .inl (cI, 10, .inl (u 2))), ((q 3), .inl (cI, 10, .inl (u 3))), ((q 1), .inl (cI, 10, .inl (fun _ => 0)))] := hw
  refine lv_aload_n S.1 S.2.1 dX3_empty_8 rfl (lv_at hl 0 rfl) ?_
  refine lv_iconst (v := 0) S.1 S.2.1 dX3_empty_9 (by decide) ?_
  refine y_put S hw (C := RX3) (T := TX3) (N := 8) i_X3_empty_X3 tyX3_ok nmX3 0 rfl rfl 4 (by decide) f_X3_empty_31 (by decide +kernel) rfl rfl (Nat.le_of_ble_eq_true rfl) dX3_empty_10 (ws' := [((q 0), .inr (3, [.int (u 0 0), .ref (q 1), .ref (q 2), .ref (q 3), .int 0, .int (u 5 0), .int (u 6 0), .int (u 7 0)])), ((q 2), .inl (cI, 10, .inl (u 2))), ((q 3), .inl (cI, 10, .inl (u 3))), ((q 1), .inl (cI, 10, .inl (fun _ => 0)))]) rfl (fun H locs hw => ?_)
  refine lv_aload_n S.1 S.2.1 dX3_empty_13 rfl (lv_at hl 0 rfl) ?_
  refine lv_iconst (v := 0) S.1 S.2.1 dX3_empty_14 (by decide) ?_
  refine y_put S hw (C := RX3) (T := TX3) (N := 8) i_X3_empty_X3 tyX3_ok nmX3 0 rfl rfl 5 (by decide) f_X3_empty_34 (by decide +kernel) rfl rfl (Nat.le_of_ble_eq_true rfl) dX3_empty_15 (ws' := [((q 0), .inr (3, [.int (u 0 0), .ref (q 1), .ref (q 2), .ref (q 3), .int 0, .int 0, .int (u 6 0), .int (u 7 0)])), ((q 2), .inl (cI, 10, .inl (u 2))), ((q 3), .inl (cI, 10, .inl (u 3))), ((q 1), .inl (cI, 10, .inl (fun _ => 0)))]) rfl (fun H locs hw => ?_)
  refine lv_aload_n S.1 S.2.1 dX3_empty_18 rfl (lv_at hl 0 rfl) ?_
  refine lv_iconst (v := 0) S.1 S.2.1 dX3_empty_19 (by decide) ?_
  refine y_put S hw (C := RX3) (T := TX3) (N := 8) i_X3_empty_X3 tyX3_ok nmX3 0 rfl rfl 6 (by decide) f_X3_empty_37 (by decide +kernel) rfl rfl (Nat.le_of_ble_eq_true rfl) dX3_empty_20 (ws' := [((q 0), .inr (3, [.int (u 0 0), .ref (q 1), .ref (q 2), .ref (q 3), .int 0, .int 0, .int 0, .int (u 7 0)])), ((q 2), .inl (cI, 10, .inl (u 2))), ((q 3), .inl (cI, 10, .inl (u 3))), ((q 1), .inl (cI, 10, .inl (fun _ => 0)))]) rfl (fun H locs hw => ?_)
  refine lv_aload_n S.1 S.2.1 dX3_empty_23 rfl (lv_at hl 0 rfl) ?_
  refine lv_iconst (v := 0) S.1 S.2.1 dX3_empty_24 (by decide) ?_
  refine y_put S hw (C := RX3) (T := TX3) (N := 8) i_X3_empty_X3 tyX3_ok nmX3 0 rfl rfl 7 (by decide) f_X3_empty_40 (by decide +kernel) rfl rfl (Nat.le_of_ble_eq_true rfl) dX3_empty_25 (ws' := [((q 0), .inr (3, [.int (u 0 0), .ref (q 1), .ref (q 2), .ref (q 3), .int 0, .int 0, .int 0, .int 0])), ((q 2), .inl (cI, 10, .inl (u 2))), ((q 3), .inl (cI, 10, .inl (u 3))), ((q 1), .inl (cI, 10, .inl (fun _ => 0)))]) rfl (fun H locs hw => ?_)
  exact ret _ _ _ _ (by exact (hw.sub [0, 3, 1, 2] (by decide +kernel) rfl)) dX3_empty_28

theorem i_X3_inStages_X3 : ∀ w ∈ u_ws RX3 TX3 8, w ∈ wsX3_inStages := by decide +kernel
theorem f_X3_inStages_9 : Cond.fieldLink RX3 9 "ChargeLines$Stages" "many" "I" ∈ wsX3_inStages := by decide +kernel
theorem f_X3_inStages_15 : Cond.fieldLink RX3 15 "ChargeLines$Stages" "charge" "[I" ∈ wsX3_inStages := by decide +kernel
set_option maxHeartbeats 4000000 in
set_option maxRecDepth 100000 in
/-- Stages.inStages -/
theorem c_X3_inStages (l : Launch) (D : va_G) (cI cC cL : ClassId) (q : Nat → Nat) (u : U) (n : Nat) (hn : u 0 0 = nI n) (h10 : n ≤ 10) : y_MI l yX3_inStages wsX3_inStages 0 0 D cI cC cL [.ref (q 0)] (cSt cI q u) (jSum (u 1) n) (fun _ : Unit => cSt cI q u) () := by
  refine y_startI (cc := cX3_inStages) (maxL := 3) (ret := some .int) (by decide +kernel) rfl (Nat.le_of_ble_eq_true rfl) ⟨_, rfl, fun x _ => rfl⟩ (fun h => by cases h) ?_
  intro p e s m args below meth c A Q ls S hw ret hl
  have S : CallFix p m c cX3_inStages 3 s args wsX3_inStages RX3 := S
  have hw : y_W D cI cC cL A s s.heap [] [((q 0), .inr (3, [.int (u 0 0), .ref (q 1), .ref (q 2), .ref (q 3), .int (u 4 0), .int (u 5 0), .int (u 6 0), .int (u 7 0)])), ((q 1), .inl (cI, 10, .inl (u 1))), ((q 2), .inl (cI, 10, .inl (u 2))), ((q 3), .inl (cI, 10, .inl (u 3)))] := hw
  have hl : lv_has ls 3 [(0, .ref (q 0))] := hl
  refine lv_iconst (v := 0) S.1 S.2.1 dX3_inStages_0 (by decide) ?_
  refine lv_istore_n (lv' := [(1, .int 0), (0, .ref (q 0))]) S.1 S.2.1 dX3_inStages_1 rfl hl (by decide) rfl (fun ls hl => ?_)
  refine lv_iconst (v := 0) S.1 S.2.1 dX3_inStages_2 (by decide) ?_
  refine lv_istore_n (lv' := [(2, .int 0), (1, .int 0), (0, .ref (q 0))]) S.1 S.2.1 dX3_inStages_3 rfl hl (by decide) rfl (fun ls hl => ?_)
  have lp4 : ∀ (fuel : Nat) (i : Nat), (i ≤ n) → (n - i) < fuel → ∀ (H : Heap) (locs : List Loc) (ls : Array Slot), y_W D cI cC cL A s H locs [((q 0), .inr (3, [.int (u 0 0), .ref (q 1), .ref (q 2), .ref (q 3), .int (u 4 0), .int (u 5 0), .int (u 6 0), .int (u 7 0)])), ((q 1), .inl (cI, 10, .inl (u 1))), ((q 2), .inl (cI, 10, .inl (u 2))), ((q 3), .inl (cI, 10, .inl (u 3)))] → lv_has ls 3 [(0, .ref (q 0)), (1, .int (jSum (u 1) i)), (2, .int (nI i))] → W p l e (y_R 0 0) s m args below meth c H locs 0 0 Q (F0 m 4 ls []) := by
    intro fuel
    induction fuel with
    | zero =>
      intro i hi hfu
      exact absurd hfu (Nat.not_lt_zero _)
    | succ fuel ih4 =>
      intro i hi hfu H locs ls hw hl
      refine lv_iload_n S.1 S.2.1 dX3_inStages_4 rfl (lv_at hl 2 rfl) ?_
      refine lv_aload_n S.1 S.2.1 dX3_inStages_5 rfl (lv_at hl 0 rfl) ?_
      refine y_get S hw (C := RX3) (T := TX3) (N := 8) i_X3_inStages_X3 0 rfl rfl 0 (by decide) f_X3_inStages_9 rfl dX3_inStages_6 ?_
      refine y_top (y := (nI n)) (hn) ?_
      refine lv_icmp_ge (tgt := 27) S.1 S.2.1 dX3_inStages_9 (by decide) (fun c_1 => ?_) (fun c_1 => ?_)
      · skip
        have c_1N : n ≤ i := (nI_leI (a := n) (b := i) (by omega) (by omega)).mp c_1
        refine lv_iload_n S.1 S.2.1 dX3_inStages_27 rfl (lv_at hl 1 rfl) ?_
        exact ret _ _ _ _ _ (by exact hw) (by rw [show n = i from by omega]) dX3_inStages_28
      · skip
        have c_1N : ¬ n ≤ i := fun z => c_1 ((nI_leI (a := n) (b := i) (by omega) (by omega)).mpr z)
        refine lv_iload_n S.1 S.2.1 dX3_inStages_12 rfl (lv_at hl 1 rfl) ?_
        refine lv_aload_n S.1 S.2.1 dX3_inStages_13 rfl (lv_at hl 0 rfl) ?_
        refine y_get S hw (C := RX3) (T := TX3) (N := 8) i_X3_inStages_X3 0 rfl rfl 1 (by decide) f_X3_inStages_15 rfl dX3_inStages_14 ?_
        refine lv_iload_n S.1 S.2.1 dX3_inStages_17 rfl (lv_at hl 2 rfl) ?_
        refine y_iald S hw 1 (k := i) rfl (by omega) (Nat.le_of_ble_eq_true rfl) dX3_inStages_18 ?_
        refine lv_iadd S.1 S.2.1 dX3_inStages_19 ?_
        refine lv_istore_n (lv' := [(1, .int ((jSum (u 1) i) + ((u 1) i))), (0, .ref (q 0)), (2, .int (nI i))]) S.1 S.2.1 dX3_inStages_20 rfl hl (by decide) rfl (fun ls hl => ?_)
        refine lv_iinc (v := (nI (i + 1))) (lv' := [(2, .int (nI (i + 1))), (1, .int ((jSum (u 1) i) + ((u 1) i))), (0, .ref (q 0))]) S.1 S.2.1 dX3_inStages_21 hl (k := 2) rfl (by first | exact nI_1 _ | exact nI_add _ _) (by decide) rfl (fun ls hl => ?_)
        refine lv_goto (tgt := 4) S.1 S.2.1 dX3_inStages_24 (by decide) ?_
        exact ih4 (i + 1) (by omega) (by omega) _ _ ls hw (lv_sub hl [2, 1, 0] rfl)
  exact lp4 ((n - 0) + 1) 0 (Nat.zero_le _) (Nat.lt_succ_self _) _ _ ls hw (lv_sub hl [2, 1, 0] rfl)

theorem i_X3_handOver_X3 : ∀ w ∈ u_ws RX3 TX3 8, w ∈ wsX3_handOver := by decide +kernel
theorem f_X3_handOver_9 : Cond.fieldLink RX3 9 "ChargeLines$Stages" "many" "I" ∈ wsX3_handOver := by decide +kernel
theorem f_X3_handOver_31 : Cond.fieldLink RX3 31 "ChargeLines$Stages" "given" "I" ∈ wsX3_handOver := by decide +kernel
theorem f_X3_handOver_34 : Cond.fieldLink RX3 34 "ChargeLines$Stages" "cameOut" "I" ∈ wsX3_handOver := by decide +kernel
theorem f_X3_handOver_15 : Cond.fieldLink RX3 15 "ChargeLines$Stages" "charge" "[I" ∈ wsX3_handOver := by decide +kernel
theorem w_X3_handOver_ml60 : Cond.methodLink RX3 60 Lib.Math.min.name ∈ wsX3_handOver := by decide +kernel
theorem w_X3_handOver_ms60 : Cond.static Lib.Math.min.name ∈ wsX3_handOver := by decide +kernel
theorem w_X3_handOver_mi60 : Cond.initialized "java/lang/Math" ∈ wsX3_handOver := by decide +kernel
theorem w_X3_handOver_mc60 : Cond.code Lib.Math.min.name Lib.Math.min.code 2 (some .int) ∈ wsX3_handOver := by decide +kernel
theorem f_X3_handOver_40 : Cond.fieldLink RX3 40 "ChargeLines$Stages" "spilled" "I" ∈ wsX3_handOver := by decide +kernel
theorem f_X3_handOver_37 : Cond.fieldLink RX3 37 "ChargeLines$Stages" "leaked" "I" ∈ wsX3_handOver := by decide +kernel
set_option maxHeartbeats 4000000 in
set_option maxRecDepth 100000 in
/-- Stages.handOver -/
theorem c_X3_handOver (l : Launch) (D : va_G) (cI cC cL : ClassId) (q : Nat → Nat) (u : U) (x cap : Int32) (n : Nat) (hn : u 0 0 = nI n) (h10 : n ≤ 10) : y_MI l yX3_handOver wsX3_handOver 2 42 D cI cC cL [.ref (q 0), .int x, .int cap] (cSt cI q u) ((jHO x cap u n).2) (fun v : U => cSt cI q v) ((jHO x cap u n).1) := by
  refine y_startI (cc := cX3_handOver) (maxL := 9) (ret := some .int) (by decide +kernel) rfl (Nat.le_of_ble_eq_true rfl) ⟨_, rfl, fun x _ => rfl⟩ (fun h => by cases h) ?_
  intro p e s m args below meth c A Q ls S hw ret hl
  have S : CallFix p m c cX3_handOver 9 s args wsX3_handOver RX3 := S
  have hw : y_W D cI cC cL A s s.heap [] [((q 0), .inr (3, [.int (u 0 0), .ref (q 1), .ref (q 2), .ref (q 3), .int (u 4 0), .int (u 5 0), .int (u 6 0), .int (u 7 0)])), ((q 1), .inl (cI, 10, .inl (u 1))), ((q 2), .inl (cI, 10, .inl (u 2))), ((q 3), .inl (cI, 10, .inl (u 3)))] := hw
  have hl : lv_has ls 9 [(0, .ref (q 0)), (1, .int x), (2, .int cap)] := hl
  refine lv_iload_n S.1 S.2.1 dX3_handOver_0 rfl (lv_at hl 1 rfl) ?_
  refine lv_istore_n (lv' := [(3, .int x), (0, .ref (q 0)), (1, .int x), (2, .int cap)]) S.1 S.2.1 dX3_handOver_1 rfl hl (by decide) rfl (fun ls hl => ?_)
  refine lv_iconst (v := 0) S.1 S.2.1 dX3_handOver_2 (by decide) ?_
  refine lv_istore (lv' := [(4, .int 0), (3, .int x), (0, .ref (q 0)), (1, .int x), (2, .int cap)]) S.1 S.2.1 dX3_handOver_3 hl (by decide) rfl (fun ls hl => ?_)
  have lp5 : ∀ (fuel : Nat) (i : Nat) (w : U × Int32), (i ≤ n) → (w = jHL x cap u i) → (w.1 0 0 = nI n) → (n - i) < fuel → ∀ (H : Heap) (locs : List Loc) (ls : Array Slot), y_W D cI cC cL A s H locs [((q 0), .inr (3, [.int (w.1 0 0), .ref (q 1), .ref (q 2), .ref (q 3), .int (w.1 4 0), .int (w.1 5 0), .int (w.1 6 0), .int (w.1 7 0)])), ((q 1), .inl (cI, 10, .inl (w.1 1))), ((q 2), .inl (cI, 10, .inl (w.1 2))), ((q 3), .inl (cI, 10, .inl (w.1 3)))] → lv_has ls 9 [(0, .ref (q 0)), (1, .int x), (2, .int cap), (3, .int w.2), (4, .int (nI i))] → W p l e (y_R 2 42) s m args below meth c H locs 0 0 Q (F0 m 5 ls []) := by
    intro fuel
    induction fuel with
    | zero =>
      intro i w hi hv h0 hfu
      exact absurd hfu (Nat.not_lt_zero _)
    | succ fuel ih5 =>
      intro i w hi hv h0 hfu H locs ls hw hl
      refine lv_iload S.1 S.2.1 dX3_handOver_5 (lv_at hl 4 rfl) ?_
      refine lv_aload_n S.1 S.2.1 dX3_handOver_7 rfl (lv_at hl 0 rfl) ?_
      refine y_get S hw (C := RX3) (T := TX3) (N := 8) i_X3_handOver_X3 0 rfl rfl 0 (by decide) f_X3_handOver_9 rfl dX3_handOver_8 ?_
      refine y_top (y := (nI n)) (h0) ?_
      refine lv_icmp_ge (tgt := 103) S.1 S.2.1 dX3_handOver_11 (by decide) (fun c_1 => ?_) (fun c_1 => ?_)
      · skip
        have c_1N : n ≤ i := (nI_leI (a := n) (b := i) (by omega) (by omega)).mp c_1
        refine lv_aload_n S.1 S.2.1 dX3_handOver_103 rfl (lv_at hl 0 rfl) ?_
        refine lv_dup S.1 S.2.1 dX3_handOver_104 rfl ?_
        refine y_get S hw (C := RX3) (T := TX3) (N := 8) i_X3_handOver_X3 0 rfl rfl 4 (by decide) f_X3_handOver_31 rfl dX3_handOver_105 ?_
        refine lv_iload_n S.1 S.2.1 dX3_handOver_108 rfl (lv_at hl 1 rfl) ?_
        refine lv_iadd S.1 S.2.1 dX3_handOver_109 ?_
        refine y_put S hw (C := RX3) (T := TX3) (N := 8) i_X3_handOver_X3 tyX3_ok nmX3 0 rfl rfl 4 (by decide) f_X3_handOver_31 (by decide +kernel) rfl rfl (Nat.le_of_ble_eq_true rfl) dX3_handOver_110 (ws' := [((q 0), .inr (3, [.int (w.1 0 0), .ref (q 1), .ref (q 2), .ref (q 3), .int ((w.1 4 0) + x), .int (w.1 5 0), .int (w.1 6 0), .int (w.1 7 0)])), ((q 1), .inl (cI, 10, .inl (w.1 1))), ((q 2), .inl (cI, 10, .inl (w.1 2))), ((q 3), .inl (cI, 10, .inl (w.1 3)))]) rfl (fun H locs hw => ?_)
        refine lv_aload_n S.1 S.2.1 dX3_handOver_113 rfl (lv_at hl 0 rfl) ?_
        refine lv_dup S.1 S.2.1 dX3_handOver_114 rfl ?_
        refine y_get S hw (C := RX3) (T := TX3) (N := 8) i_X3_handOver_X3 0 rfl rfl 5 (by decide) f_X3_handOver_34 rfl dX3_handOver_115 ?_
        refine lv_iload_n S.1 S.2.1 dX3_handOver_118 rfl (lv_at hl 3 rfl) ?_
        refine lv_iadd S.1 S.2.1 dX3_handOver_119 ?_
        refine y_put S hw (C := RX3) (T := TX3) (N := 8) i_X3_handOver_X3 tyX3_ok nmX3 0 rfl rfl 5 (by decide) f_X3_handOver_34 (by decide +kernel) rfl rfl (Nat.le_of_ble_eq_true rfl) dX3_handOver_120 (ws' := [((q 0), .inr (3, [.int (w.1 0 0), .ref (q 1), .ref (q 2), .ref (q 3), .int ((w.1 4 0) + x), .int ((w.1 5 0) + w.2), .int (w.1 6 0), .int (w.1 7 0)])), ((q 1), .inl (cI, 10, .inl (w.1 1))), ((q 2), .inl (cI, 10, .inl (w.1 2))), ((q 3), .inl (cI, 10, .inl (w.1 3)))]) rfl (fun H locs hw => ?_)
        have hJ : jHO x cap u n = ((va_up (va_up w.1 4 (fun _ => ((w.1 4 0) + x))) 5 (fun _ => ((w.1 5 0) + w.2))), w.2) := by
          rw [show n = i from by omega, hv]
          rfl
        refine lv_iload_n S.1 S.2.1 dX3_handOver_123 rfl (lv_at hl 3 rfl) ?_
        exact ret _ _ _ _ _ (by rw [hJ]; exact hw) (by rw [hJ]) dX3_handOver_124
      · skip
        have c_1N : ¬ n ≤ i := fun z => c_1 ((nI_leI (a := n) (b := i) (by omega) (by omega)).mpr z)
        refine lv_aload_n S.1 S.2.1 dX3_handOver_14 rfl (lv_at hl 0 rfl) ?_
        refine lv_iload S.1 S.2.1 dX3_handOver_15 (lv_at hl 4 rfl) ?_
        refine y_callI (As := [.int (nI i)]) (rest := []) S hw hl.1 (c_X3_staying l D cI cC cL q w.1 i (by omega)) (cwV 1 S.2.2.2.2 gX3_handOver_X3_staying rfl rfl rfl (by decide +kernel) ⟨Nat.le_of_ble_eq_true rfl, Nat.le_of_ble_eq_true rfl⟩) 0 rfl rfl [0, 1, 2, 3] [] rfl (by decide +kernel) (wr := []) rfl (by decide +kernel) (by decide +kernel) rfl (Nat.le_of_ble_eq_true rfl) dX3_handOver_17 rfl ⟨Nat.le_refl _, Nat.le_refl _⟩ (fun H locs v_2 x_3 ev_2 ex_3 hw => ?_)
        have hw : y_W D cI cC cL A s H locs [((q 0), .inr (3, [.int (w.1 0 0), .ref (q 1), .ref (q 2), .ref (q 3), .int (w.1 4 0), .int (w.1 5 0), .int (w.1 6 0), .int (w.1 7 0)])), ((q 1), .inl (cI, 10, .inl (w.1 1))), ((q 2), .inl (cI, 10, .inl (w.1 2))), ((q 3), .inl (cI, 10, .inl (w.1 3)))] := hw
        subst ex_3
        refine lv_istore (lv' := [(5, .int (jStay w.1 i)), (0, .ref (q 0)), (1, .int x), (2, .int cap), (3, .int w.2), (4, .int (nI i))]) S.1 S.2.1 dX3_handOver_20 hl (by decide) rfl (fun ls hl => ?_)
        refine lv_aload_n S.1 S.2.1 dX3_handOver_22 rfl (lv_at hl 1 rfl) ?_
        refine lv_iload S.1 S.2.1 dX3_handOver_23 (lv_at hl 5 rfl) ?_
        refine y_callI (As := [.int (nI i)]) (rest := []) S hw hl.1 (c_X3_leaking l D cI cC cL q w.1 i (by omega)) (cwV 1 S.2.2.2.2 gX3_handOver_X3_leaking rfl rfl rfl (by decide +kernel) ⟨Nat.le_of_ble_eq_true rfl, Nat.le_of_ble_eq_true rfl⟩) 0 rfl rfl [0, 1, 2, 3] [] rfl (by decide +kernel) (wr := []) rfl (by decide +kernel) (by decide +kernel) rfl (Nat.le_of_ble_eq_true rfl) dX3_handOver_25 rfl ⟨Nat.le_refl _, Nat.le_refl _⟩ (fun H locs v_4 x_5 ev_4 ex_5 hw => ?_)
        have hw : y_W D cI cC cL A s H locs [((q 0), .inr (3, [.int (w.1 0 0), .ref (q 1), .ref (q 2), .ref (q 3), .int (w.1 4 0), .int (w.1 5 0), .int (w.1 6 0), .int (w.1 7 0)])), ((q 1), .inl (cI, 10, .inl (w.1 1))), ((q 2), .inl (cI, 10, .inl (w.1 2))), ((q 3), .inl (cI, 10, .inl (w.1 3)))] := hw
        subst ex_5
        refine lv_istore (lv' := [(6, .int (jLeak w.1 i)), (5, .int (jStay w.1 i)), (0, .ref (q 0)), (1, .int x), (2, .int cap), (3, .int w.2), (4, .int (nI i))]) S.1 S.2.1 dX3_handOver_28 hl (by decide) rfl (fun ls hl => ?_)
        refine lv_aload_n S.1 S.2.1 dX3_handOver_30 rfl (lv_at hl 2 rfl) ?_
        refine y_get S hw (C := RX3) (T := TX3) (N := 8) i_X3_handOver_X3 0 rfl rfl 1 (by decide) f_X3_handOver_15 rfl dX3_handOver_31 ?_
        refine lv_iload S.1 S.2.1 dX3_handOver_34 (lv_at hl 6 rfl) ?_
        refine y_iald S hw 1 (k := i) rfl (by omega) (Nat.le_of_ble_eq_true rfl) dX3_handOver_36 ?_
        refine lv_iload S.1 S.2.1 dX3_handOver_37 (lv_at hl 1 rfl) ?_
        refine lv_isub S.1 S.2.1 dX3_handOver_39 ?_
        refine lv_iload S.1 S.2.1 dX3_handOver_40 (lv_at hl 0 rfl) ?_
        refine lv_isub S.1 S.2.1 dX3_handOver_42 ?_
        refine lv_istore (lv' := [(7, .int ((((w.1 1) i) - (jStay w.1 i)) - (jLeak w.1 i))), (6, .int (jLeak w.1 i)), (5, .int (jStay w.1 i)), (0, .ref (q 0)), (1, .int x), (2, .int cap), (3, .int w.2), (4, .int (nI i))]) S.1 S.2.1 dX3_handOver_43 hl (by decide) rfl (fun ls hl => ?_)
        refine lv_iload S.1 S.2.1 dX3_handOver_45 (lv_at hl 2 rfl) ?_
        refine lv_iload_n S.1 S.2.1 dX3_handOver_47 rfl (lv_at hl 6 rfl) ?_
        refine lv_iadd S.1 S.2.1 dX3_handOver_48 ?_
        refine lv_istore (lv' := [(8, .int ((jStay w.1 i) + w.2)), (7, .int ((((w.1 1) i) - (jStay w.1 i)) - (jLeak w.1 i))), (6, .int (jLeak w.1 i)), (5, .int (jStay w.1 i)), (0, .ref (q 0)), (1, .int x), (2, .int cap), (3, .int w.2), (4, .int (nI i))]) S.1 S.2.1 dX3_handOver_49 hl (by decide) rfl (fun ls hl => ?_)
        refine lv_aload_n S.1 S.2.1 dX3_handOver_51 rfl (lv_at hl 4 rfl) ?_
        refine y_get S hw (C := RX3) (T := TX3) (N := 8) i_X3_handOver_X3 0 rfl rfl 1 (by decide) f_X3_handOver_15 rfl dX3_handOver_52 ?_
        refine lv_iload S.1 S.2.1 dX3_handOver_55 (lv_at hl 8 rfl) ?_
        refine lv_iload S.1 S.2.1 dX3_handOver_57 (lv_at hl 0 rfl) ?_
        refine lv_iload_n S.1 S.2.1 dX3_handOver_59 rfl (lv_at hl 6 rfl) ?_
        refine va_mmin S.1 S.2.1 (by rw [S.2.2.1, hl.1]) S.2.2.2.1 (S.2.2.2.2 _ w_X3_handOver_ml60) (S.2.2.2.2 _ w_X3_handOver_ms60) (S.2.2.2.2 _ w_X3_handOver_mi60) (S.2.2.2.2 _ w_X3_handOver_mc60) (Nat.le_of_ble_eq_true rfl) (rest := [.int (nI i), .ref (q 1)]) (Nat.le_of_ble_eq_true rfl) (Nat.le_of_ble_eq_true rfl) (Nat.le_of_ble_eq_true rfl) (x := ((jStay w.1 i) + w.2)) (y := cap) dX3_handOver_60 ?_
        refine y_iast S hw 1 (k := i) rfl (by omega) (Nat.le_of_ble_eq_true rfl) dX3_handOver_63 (ws' := [((q 0), .inr (3, [.int (w.1 0 0), .ref (q 1), .ref (q 2), .ref (q 3), .int (w.1 4 0), .int (w.1 5 0), .int (w.1 6 0), .int (w.1 7 0)])), ((q 1), .inl (cI, 10, .inl (upd (w.1 1) i (if cap < ((jStay w.1 i) + w.2) then cap else ((jStay w.1 i) + w.2))))), ((q 2), .inl (cI, 10, .inl (w.1 2))), ((q 3), .inl (cI, 10, .inl (w.1 3)))]) rfl (fun H locs hw => ?_)
        refine lv_aload_n S.1 S.2.1 dX3_handOver_64 rfl (lv_at hl 4 rfl) ?_
        refine lv_dup S.1 S.2.1 dX3_handOver_65 rfl ?_
        refine y_get S hw (C := RX3) (T := TX3) (N := 8) i_X3_handOver_X3 0 rfl rfl 7 (by decide) f_X3_handOver_40 rfl dX3_handOver_66 ?_
        refine lv_iload S.1 S.2.1 dX3_handOver_69 (lv_at hl 0 rfl) ?_
        refine lv_aload_n S.1 S.2.1 dX3_handOver_71 rfl (lv_at hl 4 rfl) ?_
        refine y_get S hw (C := RX3) (T := TX3) (N := 8) i_X3_handOver_X3 0 rfl rfl 1 (by decide) f_X3_handOver_15 rfl dX3_handOver_72 ?_
        refine lv_iload S.1 S.2.1 dX3_handOver_75 (lv_at hl 8 rfl) ?_
        refine y_iald S hw 1 (k := i) rfl (by omega) (Nat.le_of_ble_eq_true rfl) dX3_handOver_77 ?_
        refine y_top (y := (if cap < ((jStay w.1 i) + w.2) then cap else ((jStay w.1 i) + w.2))) pk_us ?_
        refine lv_isub S.1 S.2.1 dX3_handOver_78 ?_
        refine lv_iadd S.1 S.2.1 dX3_handOver_79 ?_
        refine y_put S hw (C := RX3) (T := TX3) (N := 8) i_X3_handOver_X3 tyX3_ok nmX3 0 rfl rfl 7 (by decide) f_X3_handOver_40 (by decide +kernel) rfl rfl (Nat.le_of_ble_eq_true rfl) dX3_handOver_80 (ws' := [((q 0), .inr (3, [.int (w.1 0 0), .ref (q 1), .ref (q 2), .ref (q 3), .int (w.1 4 0), .int (w.1 5 0), .int (w.1 6 0), .int ((w.1 7 0) + (((jStay w.1 i) + w.2) - (if cap < ((jStay w.1 i) + w.2) then cap else ((jStay w.1 i) + w.2))))])), ((q 1), .inl (cI, 10, .inl (upd (w.1 1) i (if cap < ((jStay w.1 i) + w.2) then cap else ((jStay w.1 i) + w.2))))), ((q 2), .inl (cI, 10, .inl (w.1 2))), ((q 3), .inl (cI, 10, .inl (w.1 3)))]) rfl (fun H locs hw => ?_)
        refine lv_aload_n S.1 S.2.1 dX3_handOver_83 rfl (lv_at hl 4 rfl) ?_
        refine lv_dup S.1 S.2.1 dX3_handOver_84 rfl ?_
        refine y_get S hw (C := RX3) (T := TX3) (N := 8) i_X3_handOver_X3 0 rfl rfl 6 (by decide) f_X3_handOver_37 rfl dX3_handOver_85 ?_
        refine lv_iload S.1 S.2.1 dX3_handOver_88 (lv_at hl 2 rfl) ?_
        refine lv_iadd S.1 S.2.1 dX3_handOver_90 ?_
        refine y_put S hw (C := RX3) (T := TX3) (N := 8) i_X3_handOver_X3 tyX3_ok nmX3 0 rfl rfl 6 (by decide) f_X3_handOver_37 (by decide +kernel) rfl rfl (Nat.le_of_ble_eq_true rfl) dX3_handOver_91 (ws' := [((q 0), .inr (3, [.int (w.1 0 0), .ref (q 1), .ref (q 2), .ref (q 3), .int (w.1 4 0), .int (w.1 5 0), .int ((w.1 6 0) + (jLeak w.1 i)), .int ((w.1 7 0) + (((jStay w.1 i) + w.2) - (if cap < ((jStay w.1 i) + w.2) then cap else ((jStay w.1 i) + w.2))))])), ((q 1), .inl (cI, 10, .inl (upd (w.1 1) i (if cap < ((jStay w.1 i) + w.2) then cap else ((jStay w.1 i) + w.2))))), ((q 2), .inl (cI, 10, .inl (w.1 2))), ((q 3), .inl (cI, 10, .inl (w.1 3)))]) rfl (fun H locs hw => ?_)
        refine lv_iload S.1 S.2.1 dX3_handOver_94 (lv_at hl 1 rfl) ?_
        refine lv_istore_n (lv' := [(3, .int ((((w.1 1) i) - (jStay w.1 i)) - (jLeak w.1 i))), (8, .int ((jStay w.1 i) + w.2)), (7, .int ((((w.1 1) i) - (jStay w.1 i)) - (jLeak w.1 i))), (6, .int (jLeak w.1 i)), (5, .int (jStay w.1 i)), (0, .ref (q 0)), (1, .int x), (2, .int cap), (4, .int (nI i))]) S.1 S.2.1 dX3_handOver_96 rfl hl (by decide) rfl (fun ls hl => ?_)
        refine lv_iinc (v := (nI (i + 1))) (lv' := [(4, .int (nI (i + 1))), (3, .int ((((w.1 1) i) - (jStay w.1 i)) - (jLeak w.1 i))), (8, .int ((jStay w.1 i) + w.2)), (7, .int ((((w.1 1) i) - (jStay w.1 i)) - (jLeak w.1 i))), (6, .int (jLeak w.1 i)), (5, .int (jStay w.1 i)), (0, .ref (q 0)), (1, .int x), (2, .int cap)]) S.1 S.2.1 dX3_handOver_97 hl (k := 8) rfl (by first | exact nI_1 _ | exact nI_add _ _) (by decide) rfl (fun ls hl => ?_)
        refine lv_goto (tgt := 5) S.1 S.2.1 dX3_handOver_100 (by decide) ?_
        exact ih5 (i + 1) ((va_up (va_up (va_up w.1 1 (upd (w.1 1) i (if cap < ((jStay w.1 i) + w.2) then cap else ((jStay w.1 i) + w.2)))) 6 (fun _ => ((w.1 6 0) + (jLeak w.1 i)))) 7 (fun _ => ((w.1 7 0) + (((jStay w.1 i) + w.2) - (if cap < ((jStay w.1 i) + w.2) then cap else ((jStay w.1 i) + w.2)))))), ((((w.1 1) i) - (jStay w.1 i)) - (jLeak w.1 i))) (by omega) (by rw [hv]; rfl) (h0) (by omega) _ _ ls hw (lv_sub hl [6, 7, 8, 1, 0] rfl)
  exact lp5 ((n - 0) + 1) 0 (u, x) (Nat.zero_le _) (rfl) (hn) (Nat.lt_succ_self _) _ _ ls hw (lv_sub hl [2, 3, 4, 1, 0] rfl)
end
section
theorem i_X3_copyFrom_X3 : ∀ w ∈ u_ws RX3 TX3 8, w ∈ wsX3_copyFrom := by decide +kernel
theorem f_X3_copyFrom_9 : Cond.fieldLink RX3 9 "ChargeLines$Stages" "many" "I" ∈ wsX3_copyFrom := by decide +kernel
theorem f_X3_copyFrom_15 : Cond.fieldLink RX3 15 "ChargeLines$Stages" "charge" "[I" ∈ wsX3_copyFrom := by decide +kernel
theorem w_X3_copyFrom_cl25 : Cond.methodLink RX3 25 arraycopyName ∈ wsX3_copyFrom := by decide +kernel
theorem w_X3_copyFrom_cn : Cond.native arraycopyName ∈ wsX3_copyFrom := by decide +kernel
theorem w_X3_copyFrom_cs : Cond.static arraycopyName ∈ wsX3_copyFrom := by decide +kernel
theorem w_X3_copyFrom_ci : Cond.initialized "java/lang/System" ∈ wsX3_copyFrom := by decide +kernel
theorem f_X3_copyFrom_19 : Cond.fieldLink RX3 19 "ChargeLines$Stages" "stays" "[I" ∈ wsX3_copyFrom := by decide +kernel
theorem f_X3_copyFrom_22 : Cond.fieldLink RX3 22 "ChargeLines$Stages" "leaks" "[I" ∈ wsX3_copyFrom := by decide +kernel
theorem f_X3_copyFrom_31 : Cond.fieldLink RX3 31 "ChargeLines$Stages" "given" "I" ∈ wsX3_copyFrom := by decide +kernel
theorem f_X3_copyFrom_34 : Cond.fieldLink RX3 34 "ChargeLines$Stages" "cameOut" "I" ∈ wsX3_copyFrom := by decide +kernel
theorem f_X3_copyFrom_37 : Cond.fieldLink RX3 37 "ChargeLines$Stages" "leaked" "I" ∈ wsX3_copyFrom := by decide +kernel
theorem f_X3_copyFrom_40 : Cond.fieldLink RX3 40 "ChargeLines$Stages" "spilled" "I" ∈ wsX3_copyFrom := by decide +kernel
set_option maxHeartbeats 4000000 in
set_option maxRecDepth 100000 in
/-- Stages.copyFrom -/
theorem c_X3_copyFrom (l : Launch) (D : va_G) (cI cC cL : ClassId) (q q2 : Nat → Nat) (u u2 : U) : y_MV l yX3_copyFrom wsX3_copyFrom 1 18 D cI cC cL [.ref (q 0), .ref (q2 0)] (cSt cI q u ++ cSt cI q2 u2) (fun v : U => cSt cI q v ++ cSt cI q2 u2) (stMix u2 u) := by
  refine y_startV (cc := cX3_copyFrom) (maxL := 2) (by decide) rfl (Nat.le_of_ble_eq_true rfl) ?_
  intro p e s m args below meth c A Q ls S hw ret hl
  have S : CallFix p m c cX3_copyFrom 2 s args wsX3_copyFrom RX3 := S
  have hw : y_W D cI cC cL A s s.heap [] [((q 0), .inr (3, [.int (u 0 0), .ref (q 1), .ref (q 2), .ref (q 3), .int (u 4 0), .int (u 5 0), .int (u 6 0), .int (u 7 0)])), ((q 1), .inl (cI, 10, .inl (u 1))), ((q 2), .inl (cI, 10, .inl (u 2))), ((q 3), .inl (cI, 10, .inl (u 3))), ((q2 0), .inr (3, [.int (u2 0 0), .ref (q2 1), .ref (q2 2), .ref (q2 3), .int (u2 4 0), .int (u2 5 0), .int (u2 6 0), .int (u2 7 0)])), ((q2 1), .inl (cI, 10, .inl (u2 1))), ((q2 2), .inl (cI, 10, .inl (u2 2))), ((q2 3), .inl (cI, 10, .inl (u2 3)))] := hw
  have hl : lv_has ls 2 [(0, .ref (q 0)), (1, .ref (q2 0))] := hl
  refine lv_aload_n S.1 S.2.1 dX3_copyFrom_0 rfl (lv_at hl 0 rfl) ?_
  refine lv_aload_n S.1 S.2.1 dX3_copyFrom_1 rfl (lv_at hl 1 rfl) ?_
  refine y_get S hw (C := RX3) (T := TX3) (N := 8) i_X3_copyFrom_X3 4 rfl rfl 0 (by decide) f_X3_copyFrom_9 rfl dX3_copyFrom_2 ?_
  refine y_put S hw (C := RX3) (T := TX3) (N := 8) i_X3_copyFrom_X3 tyX3_ok nmX3 0 rfl rfl 0 (by decide) f_X3_copyFrom_9 (by decide +kernel) rfl rfl (Nat.le_of_ble_eq_true rfl) dX3_copyFrom_5 (ws' := [((q 0), .inr (3, [.int (u2 0 0), .ref (q 1), .ref (q 2), .ref (q 3), .int (u 4 0), .int (u 5 0), .int (u 6 0), .int (u 7 0)])), ((q 1), .inl (cI, 10, .inl (u 1))), ((q 2), .inl (cI, 10, .inl (u 2))), ((q 3), .inl (cI, 10, .inl (u 3))), ((q2 0), .inr (3, [.int (u2 0 0), .ref (q2 1), .ref (q2 2), .ref (q2 3), .int (u2 4 0), .int (u2 5 0), .int (u2 6 0), .int (u2 7 0)])), ((q2 1), .inl (cI, 10, .inl (u2 1))), ((q2 2), .inl (cI, 10, .inl (u2 2))), ((q2 3), .inl (cI, 10, .inl (u2 3)))]) rfl (fun H locs hw => ?_)
  refine lv_aload_n S.1 S.2.1 dX3_copyFrom_8 rfl (lv_at hl 1 rfl) ?_
  refine y_get S hw (C := RX3) (T := TX3) (N := 8) i_X3_copyFrom_X3 4 rfl rfl 1 (by decide) f_X3_copyFrom_15 rfl dX3_copyFrom_9 ?_
  refine lv_iconst (v := 0) S.1 S.2.1 dX3_copyFrom_12 (by decide) ?_
  refine lv_aload_n S.1 S.2.1 dX3_copyFrom_13 rfl (lv_at hl 0 rfl) ?_
  refine y_get S hw (C := RX3) (T := TX3) (N := 8) i_X3_copyFrom_X3 0 rfl rfl 1 (by decide) f_X3_copyFrom_15 rfl dX3_copyFrom_14 ?_
  refine lv_iconst (v := 0) S.1 S.2.1 dX3_copyFrom_17 (by decide) ?_
  refine lv_bipush (v := 10) S.1 S.2.1 dX3_copyFrom_18 (by decide) ?_
  refine y_copy (rest := []) S hw hl.1 w_X3_copyFrom_cl25 w_X3_copyFrom_cn w_X3_copyFrom_cs w_X3_copyFrom_ci 5 1 rfl rfl (by decide) (Nat.le_of_ble_eq_true rfl) (Nat.le_of_ble_eq_true rfl) (Nat.le_of_ble_eq_true rfl) dX3_copyFrom_20 (ws' := [((q 0), .inr (3, [.int (u2 0 0), .ref (q 1), .ref (q 2), .ref (q 3), .int (u 4 0), .int (u 5 0), .int (u 6 0), .int (u 7 0)])), ((q 1), .inl (cI, 10, .inl (u2 1))), ((q 2), .inl (cI, 10, .inl (u 2))), ((q 3), .inl (cI, 10, .inl (u 3))), ((q2 0), .inr (3, [.int (u2 0 0), .ref (q2 1), .ref (q2 2), .ref (q2 3), .int (u2 4 0), .int (u2 5 0), .int (u2 6 0), .int (u2 7 0)])), ((q2 1), .inl (cI, 10, .inl (u2 1))), ((q2 2), .inl (cI, 10, .inl (u2 2))), ((q2 3), .inl (cI, 10, .inl (u2 3)))]) rfl (fun H locs hw => ?_)
  refine lv_aload_n S.1 S.2.1 dX3_copyFrom_23 rfl (lv_at hl 1 rfl) ?_
  refine y_get S hw (C := RX3) (T := TX3) (N := 8) i_X3_copyFrom_X3 4 rfl rfl 2 (by decide) f_X3_copyFrom_19 rfl dX3_copyFrom_24 ?_
  refine lv_iconst (v := 0) S.1 S.2.1 dX3_copyFrom_27 (by decide) ?_
  refine lv_aload_n S.1 S.2.1 dX3_copyFrom_28 rfl (lv_at hl 0 rfl) ?_
  refine y_get S hw (C := RX3) (T := TX3) (N := 8) i_X3_copyFrom_X3 0 rfl rfl 2 (by decide) f_X3_copyFrom_19 rfl dX3_copyFrom_29 ?_
  refine lv_iconst (v := 0) S.1 S.2.1 dX3_copyFrom_32 (by decide) ?_
  refine lv_bipush (v := 10) S.1 S.2.1 dX3_copyFrom_33 (by decide) ?_
  refine y_copy (rest := []) S hw hl.1 w_X3_copyFrom_cl25 w_X3_copyFrom_cn w_X3_copyFrom_cs w_X3_copyFrom_ci 6 2 rfl rfl (by decide) (Nat.le_of_ble_eq_true rfl) (Nat.le_of_ble_eq_true rfl) (Nat.le_of_ble_eq_true rfl) dX3_copyFrom_35 (ws' := [((q 0), .inr (3, [.int (u2 0 0), .ref (q 1), .ref (q 2), .ref (q 3), .int (u 4 0), .int (u 5 0), .int (u 6 0), .int (u 7 0)])), ((q 1), .inl (cI, 10, .inl (u2 1))), ((q 2), .inl (cI, 10, .inl (u2 2))), ((q 3), .inl (cI, 10, .inl (u 3))), ((q2 0), .inr (3, [.int (u2 0 0), .ref (q2 1), .ref (q2 2), .ref (q2 3), .int (u2 4 0), .int (u2 5 0), .int (u2 6 0), .int (u2 7 0)])), ((q2 1), .inl (cI, 10, .inl (u2 1))), ((q2 2), .inl (cI, 10, .inl (u2 2))), ((q2 3), .inl (cI, 10, .inl (u2 3)))]) rfl (fun H locs hw => ?_)
  refine lv_aload_n S.1 S.2.1 dX3_copyFrom_38 rfl (lv_at hl 1 rfl) ?_
  refine y_get S hw (C := RX3) (T := TX3) (N := 8) i_X3_copyFrom_X3 4 rfl rfl 3 (by decide) f_X3_copyFrom_22 rfl dX3_copyFrom_39 ?_
  refine lv_iconst (v := 0) S.1 S.2.1 dX3_copyFrom_42 (by decide) ?_
  refine lv_aload_n S.1 S.2.1 dX3_copyFrom_43 rfl (lv_at hl 0 rfl) ?_
  refine y_get S hw (C := RX3) (T := TX3) (N := 8) i_X3_copyFrom_X3 0 rfl rfl 3 (by decide) f_X3_copyFrom_22 rfl dX3_copyFrom_44 ?_
  refine lv_iconst (v := 0) S.1 S.2.1 dX3_copyFrom_47 (by decide) ?_
  refine lv_bipush (v := 10) S.1 S.2.1 dX3_copyFrom_48 (by decide) ?_
  refine y_copy (rest := []) S hw hl.1 w_X3_copyFrom_cl25 w_X3_copyFrom_cn w_X3_copyFrom_cs w_X3_copyFrom_ci 7 3 rfl rfl (by decide) (Nat.le_of_ble_eq_true rfl) (Nat.le_of_ble_eq_true rfl) (Nat.le_of_ble_eq_true rfl) dX3_copyFrom_50 (ws' := [((q 0), .inr (3, [.int (u2 0 0), .ref (q 1), .ref (q 2), .ref (q 3), .int (u 4 0), .int (u 5 0), .int (u 6 0), .int (u 7 0)])), ((q 1), .inl (cI, 10, .inl (u2 1))), ((q 2), .inl (cI, 10, .inl (u2 2))), ((q 3), .inl (cI, 10, .inl (u2 3))), ((q2 0), .inr (3, [.int (u2 0 0), .ref (q2 1), .ref (q2 2), .ref (q2 3), .int (u2 4 0), .int (u2 5 0), .int (u2 6 0), .int (u2 7 0)])), ((q2 1), .inl (cI, 10, .inl (u2 1))), ((q2 2), .inl (cI, 10, .inl (u2 2))), ((q2 3), .inl (cI, 10, .inl (u2 3)))]) rfl (fun H locs hw => ?_)
  refine lv_aload_n S.1 S.2.1 dX3_copyFrom_53 rfl (lv_at hl 0 rfl) ?_
  refine lv_aload_n S.1 S.2.1 dX3_copyFrom_54 rfl (lv_at hl 1 rfl) ?_
  refine y_get S hw (C := RX3) (T := TX3) (N := 8) i_X3_copyFrom_X3 4 rfl rfl 4 (by decide) f_X3_copyFrom_31 rfl dX3_copyFrom_55 ?_
  refine y_put S hw (C := RX3) (T := TX3) (N := 8) i_X3_copyFrom_X3 tyX3_ok nmX3 0 rfl rfl 4 (by decide) f_X3_copyFrom_31 (by decide +kernel) rfl rfl (Nat.le_of_ble_eq_true rfl) dX3_copyFrom_58 (ws' := [((q 0), .inr (3, [.int (u2 0 0), .ref (q 1), .ref (q 2), .ref (q 3), .int (u2 4 0), .int (u 5 0), .int (u 6 0), .int (u 7 0)])), ((q 1), .inl (cI, 10, .inl (u2 1))), ((q 2), .inl (cI, 10, .inl (u2 2))), ((q 3), .inl (cI, 10, .inl (u2 3))), ((q2 0), .inr (3, [.int (u2 0 0), .ref (q2 1), .ref (q2 2), .ref (q2 3), .int (u2 4 0), .int (u2 5 0), .int (u2 6 0), .int (u2 7 0)])), ((q2 1), .inl (cI, 10, .inl (u2 1))), ((q2 2), .inl (cI, 10, .inl (u2 2))), ((q2 3), .inl (cI, 10, .inl (u2 3)))]) rfl (fun H locs hw => ?_)
  refine lv_aload_n S.1 S.2.1 dX3_copyFrom_61 rfl (lv_at hl 0 rfl) ?_
  refine lv_aload_n S.1 S.2.1 dX3_copyFrom_62 rfl (lv_at hl 1 rfl) ?_
  refine y_get S hw (C := RX3) (T := TX3) (N := 8) i_X3_copyFrom_X3 4 rfl rfl 5 (by decide) f_X3_copyFrom_34 rfl dX3_copyFrom_63 ?_
  refine y_put S hw (C := RX3) (T := TX3) (N := 8) i_X3_copyFrom_X3 tyX3_ok nmX3 0 rfl rfl 5 (by decide) f_X3_copyFrom_34 (by decide +kernel) rfl rfl (Nat.le_of_ble_eq_true rfl) dX3_copyFrom_66 (ws' := [((q 0), .inr (3, [.int (u2 0 0), .ref (q 1), .ref (q 2), .ref (q 3), .int (u2 4 0), .int (u2 5 0), .int (u 6 0), .int (u 7 0)])), ((q 1), .inl (cI, 10, .inl (u2 1))), ((q 2), .inl (cI, 10, .inl (u2 2))), ((q 3), .inl (cI, 10, .inl (u2 3))), ((q2 0), .inr (3, [.int (u2 0 0), .ref (q2 1), .ref (q2 2), .ref (q2 3), .int (u2 4 0), .int (u2 5 0), .int (u2 6 0), .int (u2 7 0)])), ((q2 1), .inl (cI, 10, .inl (u2 1))), ((q2 2), .inl (cI, 10, .inl (u2 2))), ((q2 3), .inl (cI, 10, .inl (u2 3)))]) rfl (fun H locs hw => ?_)
  refine lv_aload_n S.1 S.2.1 dX3_copyFrom_69 rfl (lv_at hl 0 rfl) ?_
  refine lv_aload_n S.1 S.2.1 dX3_copyFrom_70 rfl (lv_at hl 1 rfl) ?_
  refine y_get S hw (C := RX3) (T := TX3) (N := 8) i_X3_copyFrom_X3 4 rfl rfl 6 (by decide) f_X3_copyFrom_37 rfl dX3_copyFrom_71 ?_
  refine y_put S hw (C := RX3) (T := TX3) (N := 8) i_X3_copyFrom_X3 tyX3_ok nmX3 0 rfl rfl 6 (by decide) f_X3_copyFrom_37 (by decide +kernel) rfl rfl (Nat.le_of_ble_eq_true rfl) dX3_copyFrom_74 (ws' := [((q 0), .inr (3, [.int (u2 0 0), .ref (q 1), .ref (q 2), .ref (q 3), .int (u2 4 0), .int (u2 5 0), .int (u2 6 0), .int (u 7 0)])), ((q 1), .inl (cI, 10, .inl (u2 1))), ((q 2), .inl (cI, 10, .inl (u2 2))), ((q 3), .inl (cI, 10, .inl (u2 3))), ((q2 0), .inr (3, [.int (u2 0 0), .ref (q2 1), .ref (q2 2), .ref (q2 3), .int (u2 4 0), .int (u2 5 0), .int (u2 6 0), .int (u2 7 0)])), ((q2 1), .inl (cI, 10, .inl (u2 1))), ((q2 2), .inl (cI, 10, .inl (u2 2))), ((q2 3), .inl (cI, 10, .inl (u2 3)))]) rfl (fun H locs hw => ?_)
  refine lv_aload_n S.1 S.2.1 dX3_copyFrom_77 rfl (lv_at hl 0 rfl) ?_
  refine lv_aload_n S.1 S.2.1 dX3_copyFrom_78 rfl (lv_at hl 1 rfl) ?_
  refine y_get S hw (C := RX3) (T := TX3) (N := 8) i_X3_copyFrom_X3 4 rfl rfl 7 (by decide) f_X3_copyFrom_40 rfl dX3_copyFrom_79 ?_
  refine y_put S hw (C := RX3) (T := TX3) (N := 8) i_X3_copyFrom_X3 tyX3_ok nmX3 0 rfl rfl 7 (by decide) f_X3_copyFrom_40 (by decide +kernel) rfl rfl (Nat.le_of_ble_eq_true rfl) dX3_copyFrom_82 (ws' := [((q 0), .inr (3, [.int (u2 0 0), .ref (q 1), .ref (q 2), .ref (q 3), .int (u2 4 0), .int (u2 5 0), .int (u2 6 0), .int (u2 7 0)])), ((q 1), .inl (cI, 10, .inl (u2 1))), ((q 2), .inl (cI, 10, .inl (u2 2))), ((q 3), .inl (cI, 10, .inl (u2 3))), ((q2 0), .inr (3, [.int (u2 0 0), .ref (q2 1), .ref (q2 2), .ref (q2 3), .int (u2 4 0), .int (u2 5 0), .int (u2 6 0), .int (u2 7 0)])), ((q2 1), .inl (cI, 10, .inl (u2 1))), ((q2 2), .inl (cI, 10, .inl (u2 2))), ((q2 3), .inl (cI, 10, .inl (u2 3)))]) rfl (fun H locs hw => ?_)
  exact ret _ _ _ _ (by exact hw) dX3_copyFrom_85

set_option maxHeartbeats 4000000 in
set_option maxRecDepth 100000 in
/-- Stages.outputOfLone -/
theorem c_X3_outputOfLone (l : Launch) (D : va_G) (cI cC cL : ClassId) (q : Nat → Nat) (u : U) (x cap : Int32) (n k : Nat) (hn : u 0 0 = nI n) (h10 : n ≤ 10) (hk : k ≤ 40) : y_MI l yX3_outputOfLone wsX3_outputOfLone 3 70 D cI cC cL [.ref (q 0), .int x, .int (nI k), .int cap] (cSt cI q u) ((jLone x cap u n k).2) (fun v : U => cSt cI q v) ((jLone x cap u n k).1) := by
  refine y_startI (cc := cX3_outputOfLone) (maxL := 6) (ret := some .int) (by decide +kernel) rfl (Nat.le_of_ble_eq_true rfl) ⟨_, rfl, fun x _ => rfl⟩ (fun h => by cases h) ?_
  intro p e s m args below meth c A Q ls S hw ret hl
  have S : CallFix p m c cX3_outputOfLone 6 s args wsX3_outputOfLone RX3 := S
  have hw : y_W D cI cC cL A s s.heap [] [((q 0), .inr (3, [.int (u 0 0), .ref (q 1), .ref (q 2), .ref (q 3), .int (u 4 0), .int (u 5 0), .int (u 6 0), .int (u 7 0)])), ((q 1), .inl (cI, 10, .inl (u 1))), ((q 2), .inl (cI, 10, .inl (u 2))), ((q 3), .inl (cI, 10, .inl (u 3)))] := hw
  have hl : lv_has ls 6 [(0, .ref (q 0)), (1, .int x), (2, .int (nI k)), (3, .int cap)] := hl
  refine lv_aload_n S.1 S.2.1 dX3_outputOfLone_0 rfl (lv_at hl 0 rfl) ?_
  refine y_callV (As := []) (rest := []) S hw hl.1 (c_X3_empty l D cI cC cL q u) (cwV 0 S.2.2.2.2 gX3_outputOfLone_X3_empty rfl rfl rfl (by decide +kernel) ⟨Nat.le_of_ble_eq_true rfl, Nat.le_of_ble_eq_true rfl⟩) 0 rfl rfl [0, 1, 2, 3] [] rfl (by decide +kernel) (wr := []) rfl (by decide +kernel) (by decide +kernel) rfl (Nat.le_of_ble_eq_true rfl) dX3_outputOfLone_1 rfl ⟨Nat.le_refl _, Nat.le_refl _⟩ (fun H locs v_1 ev_1 hw => ?_)
  have hw : y_W D cI cC cL A s H locs [((q 0), .inr (3, [.int (v_1 0 0), .ref (q 1), .ref (q 2), .ref (q 3), .int (v_1 4 0), .int (v_1 5 0), .int (v_1 6 0), .int (v_1 7 0)])), ((q 1), .inl (cI, 10, .inl (v_1 1))), ((q 2), .inl (cI, 10, .inl (v_1 2))), ((q 3), .inl (cI, 10, .inl (v_1 3)))] := hw
  refine lv_aload_n S.1 S.2.1 dX3_outputOfLone_4 rfl (lv_at hl 0 rfl) ?_
  refine lv_iload_n S.1 S.2.1 dX3_outputOfLone_5 rfl (lv_at hl 1 rfl) ?_
  refine lv_iload_n S.1 S.2.1 dX3_outputOfLone_6 rfl (lv_at hl 3 rfl) ?_
  refine y_callI (As := [.int x, .int cap]) (rest := []) S hw hl.1 (c_X3_handOver l D cI cC cL q v_1 x cap n (by rw [ev_1]; exact hn) (by omega)) (cwV 2 S.2.2.2.2 gX3_outputOfLone_X3_handOver rfl rfl rfl (by decide +kernel) ⟨Nat.le_of_ble_eq_true rfl, Nat.le_of_ble_eq_true rfl⟩) 0 rfl rfl [0, 1, 2, 3] [] rfl (by decide +kernel) (wr := []) rfl (by decide +kernel) (by decide +kernel) rfl (Nat.le_of_ble_eq_true rfl) dX3_outputOfLone_7 rfl ⟨Nat.le_refl _, Nat.le_refl _⟩ (fun H locs v_3 x_4 ev_3 ex_4 hw => ?_)
  have hw : y_W D cI cC cL A s H locs [((q 0), .inr (3, [.int (v_3 0 0), .ref (q 1), .ref (q 2), .ref (q 3), .int (v_3 4 0), .int (v_3 5 0), .int (v_3 6 0), .int (v_3 7 0)])), ((q 1), .inl (cI, 10, .inl (v_3 1))), ((q 2), .inl (cI, 10, .inl (v_3 2))), ((q 3), .inl (cI, 10, .inl (v_3 3)))] := hw
  subst ex_4
  refine lv_istore (lv' := [(4, .int ((jHO x cap v_1 n).2)), (0, .ref (q 0)), (1, .int x), (2, .int (nI k)), (3, .int cap)]) S.1 S.2.1 dX3_outputOfLone_10 hl (by decide) rfl (fun ls hl => ?_)
  refine lv_iconst (v := 0) S.1 S.2.1 dX3_outputOfLone_12 (by decide) ?_
  refine lv_istore (lv' := [(5, .int 0), (4, .int ((jHO x cap v_1 n).2)), (0, .ref (q 0)), (1, .int x), (2, .int (nI k)), (3, .int cap)]) S.1 S.2.1 dX3_outputOfLone_13 hl (by decide) rfl (fun ls hl => ?_)
  have lp15 : ∀ (fuel : Nat) (i : Nat) (w : U × Int32), (i ≤ k) → (w = jIt cap n (jHO x cap (jEm u) n) i) → (w.1 0 0 = nI n) → (k - i) < fuel → ∀ (H : Heap) (locs : List Loc) (ls : Array Slot), y_W D cI cC cL A s H locs [((q 0), .inr (3, [.int (w.1 0 0), .ref (q 1), .ref (q 2), .ref (q 3), .int (w.1 4 0), .int (w.1 5 0), .int (w.1 6 0), .int (w.1 7 0)])), ((q 1), .inl (cI, 10, .inl (w.1 1))), ((q 2), .inl (cI, 10, .inl (w.1 2))), ((q 3), .inl (cI, 10, .inl (w.1 3)))] → lv_has ls 6 [(0, .ref (q 0)), (1, .int x), (2, .int (nI k)), (3, .int cap), (4, .int w.2), (5, .int (nI i))] → W p l e (y_R 3 70) s m args below meth c H locs 0 0 Q (F0 m 15 ls []) := by
    intro fuel
    induction fuel with
    | zero =>
      intro i w hi hv h0 hfu
      exact absurd hfu (Nat.not_lt_zero _)
    | succ fuel ih15 =>
      intro i w hi hv h0 hfu H locs ls hw hl
      refine lv_iload S.1 S.2.1 dX3_outputOfLone_15 (lv_at hl 5 rfl) ?_
      refine lv_iload_n S.1 S.2.1 dX3_outputOfLone_17 rfl (lv_at hl 2 rfl) ?_
      refine lv_icmp_ge (tgt := 35) S.1 S.2.1 dX3_outputOfLone_18 (by decide) (fun c_5 => ?_) (fun c_5 => ?_)
      · skip
        have c_5N : k ≤ i := (nI_leI (a := k) (b := i) (by omega) (by omega)).mp c_5
        refine lv_iload S.1 S.2.1 dX3_outputOfLone_35 (lv_at hl 4 rfl) ?_
        exact ret _ _ _ _ _ (by rw [jLone, show k = i from by omega, ← hv]; exact hw) (by rw [jLone, show k = i from by omega, ← hv]) dX3_outputOfLone_37
      · skip
        have c_5N : ¬ k ≤ i := fun z => c_5 ((nI_leI (a := k) (b := i) (by omega) (by omega)).mpr z)
        refine lv_aload_n S.1 S.2.1 dX3_outputOfLone_21 rfl (lv_at hl 0 rfl) ?_
        refine lv_iconst (v := 0) S.1 S.2.1 dX3_outputOfLone_22 (by decide) ?_
        refine lv_iload_n S.1 S.2.1 dX3_outputOfLone_23 rfl (lv_at hl 3 rfl) ?_
        refine y_callI (As := [.int 0, .int cap]) (rest := []) S hw hl.1 (c_X3_handOver l D cI cC cL q w.1 0 cap n h0 (by omega)) (cwV 2 S.2.2.2.2 gX3_outputOfLone_X3_handOver rfl rfl rfl (by decide +kernel) ⟨Nat.le_of_ble_eq_true rfl, Nat.le_of_ble_eq_true rfl⟩) 0 rfl rfl [0, 1, 2, 3] [] rfl (by decide +kernel) (wr := []) rfl (by decide +kernel) (by decide +kernel) rfl (Nat.le_of_ble_eq_true rfl) dX3_outputOfLone_24 rfl ⟨Nat.le_refl _, Nat.le_refl _⟩ (fun H locs v_6 x_7 ev_6 ex_7 hw => ?_)
        have hw : y_W D cI cC cL A s H locs [((q 0), .inr (3, [.int (v_6 0 0), .ref (q 1), .ref (q 2), .ref (q 3), .int (v_6 4 0), .int (v_6 5 0), .int (v_6 6 0), .int (v_6 7 0)])), ((q 1), .inl (cI, 10, .inl (v_6 1))), ((q 2), .inl (cI, 10, .inl (v_6 2))), ((q 3), .inl (cI, 10, .inl (v_6 3)))] := hw
        subst ex_7
        refine lv_istore (lv' := [(4, .int ((jHO 0 cap w.1 n).2)), (0, .ref (q 0)), (1, .int x), (2, .int (nI k)), (3, .int cap), (5, .int (nI i))]) S.1 S.2.1 dX3_outputOfLone_27 hl (by decide) rfl (fun ls hl => ?_)
        refine lv_iinc (v := (nI (i + 1))) (lv' := [(5, .int (nI (i + 1))), (4, .int ((jHO 0 cap w.1 n).2)), (0, .ref (q 0)), (1, .int x), (2, .int (nI k)), (3, .int cap)]) S.1 S.2.1 dX3_outputOfLone_29 hl (k := 5) rfl (by first | exact nI_1 _ | exact nI_add _ _) (by decide) rfl (fun ls hl => ?_)
        refine lv_goto (tgt := 15) S.1 S.2.1 dX3_outputOfLone_32 (by decide) ?_
        exact ih15 (i + 1) (v_6, ((jHO 0 cap w.1 n).2)) (by omega) (by rw [ev_6, hv]; rfl) (by rw [ev_6]; exact jHO_n h0) (by omega) _ _ ls hw (lv_sub hl [2, 3, 4, 5, 1, 0] rfl)
  exact lp15 ((k - 0) + 1) 0 (v_3, (jHO x cap v_1 n).2) (Nat.zero_le _) (by rw [ev_3, ev_1]; rfl) (by rw [ev_3, ev_1]; exact jHO_n hn) (Nat.lt_succ_self _) _ _ ls hw (lv_sub hl [2, 3, 4, 5, 1, 0] rfl)

theorem i_X3_holds_X3 : ∀ w ∈ u_ws RX3 TX3 8, w ∈ wsX3_holds := by decide +kernel
theorem f_X3_holds_40 : Cond.fieldLink RX3 40 "ChargeLines$Stages" "spilled" "I" ∈ wsX3_holds := by decide +kernel
set_option maxHeartbeats 4000000 in
set_option maxRecDepth 100000 in
/-- Stages.holds -/
theorem c_X3_holds (l : Launch) (D : va_G) (cI cC cL : ClassId) (q : Nat → Nat) (u : U) (x cap : Int32) (n k : Nat) (hn : u 0 0 = nI n) (h10 : n ≤ 10) (hk : k ≤ 40) : y_MI l yX3_holds wsX3_holds 3 70 D cI cC cL [.ref (q 0), .int x, .int (nI k), .int cap] (cSt cI q u) (if jHd x cap (jEm u) n k 7 0 = 0 then 1 else 0) (fun v : U => cSt cI q v) (jHd x cap (jEm u) n k) := by
  refine y_startI (cc := cX3_holds) (maxL := 5) (ret := some .boolean) (by decide +kernel) rfl (Nat.le_of_ble_eq_true rfl) ⟨_, rfl, fun x h => by rcases h rfl with rfl | rfl <;> rfl⟩ (fun _ => y_b01) ?_
  intro p e s m args below meth c A Q ls S hw ret hl
  have S : CallFix p m c cX3_holds 5 s args wsX3_holds RX3 := S
  have hw : y_W D cI cC cL A s s.heap [] [((q 0), .inr (3, [.int (u 0 0), .ref (q 1), .ref (q 2), .ref (q 3), .int (u 4 0), .int (u 5 0), .int (u 6 0), .int (u 7 0)])), ((q 1), .inl (cI, 10, .inl (u 1))), ((q 2), .inl (cI, 10, .inl (u 2))), ((q 3), .inl (cI, 10, .inl (u 3)))] := hw
  have hl : lv_has ls 5 [(0, .ref (q 0)), (1, .int x), (2, .int (nI k)), (3, .int cap)] := hl
  refine lv_aload_n S.1 S.2.1 dX3_holds_0 rfl (lv_at hl 0 rfl) ?_
  refine y_callV (As := []) (rest := []) S hw hl.1 (c_X3_empty l D cI cC cL q u) (cwV 0 S.2.2.2.2 gX3_holds_X3_empty rfl rfl rfl (by decide +kernel) ⟨Nat.le_of_ble_eq_true rfl, Nat.le_of_ble_eq_true rfl⟩) 0 rfl rfl [0, 1, 2, 3] [] rfl (by decide +kernel) (wr := []) rfl (by decide +kernel) (by decide +kernel) rfl (Nat.le_of_ble_eq_true rfl) dX3_holds_1 rfl ⟨Nat.le_refl _, Nat.le_refl _⟩ (fun H locs v_1 ev_1 hw => ?_)
  have hw : y_W D cI cC cL A s H locs [((q 0), .inr (3, [.int (v_1 0 0), .ref (q 1), .ref (q 2), .ref (q 3), .int (v_1 4 0), .int (v_1 5 0), .int (v_1 6 0), .int (v_1 7 0)])), ((q 1), .inl (cI, 10, .inl (v_1 1))), ((q 2), .inl (cI, 10, .inl (v_1 2))), ((q 3), .inl (cI, 10, .inl (v_1 3)))] := hw
  refine lv_iconst (v := 0) S.1 S.2.1 dX3_holds_4 (by decide) ?_
  refine lv_istore (lv' := [(4, .int 0), (0, .ref (q 0)), (1, .int x), (2, .int (nI k)), (3, .int cap)]) S.1 S.2.1 dX3_holds_5 hl (by decide) rfl (fun ls hl => ?_)
  have lp7 : ∀ (fuel : Nat) (i : Nat) (w : U), (i ≤ k) → (w = jHd x cap (jEm u) n i) → (w 0 0 = nI n) → (k - i) < fuel → ∀ (H : Heap) (locs : List Loc) (ls : Array Slot), y_W D cI cC cL A s H locs [((q 0), .inr (3, [.int (w 0 0), .ref (q 1), .ref (q 2), .ref (q 3), .int (w 4 0), .int (w 5 0), .int (w 6 0), .int (w 7 0)])), ((q 1), .inl (cI, 10, .inl (w 1))), ((q 2), .inl (cI, 10, .inl (w 2))), ((q 3), .inl (cI, 10, .inl (w 3)))] → lv_has ls 5 [(0, .ref (q 0)), (1, .int x), (2, .int (nI k)), (3, .int cap), (4, .int (nI i))] → W p l e (y_R 3 70) s m args below meth c H locs 0 0 Q (F0 m 7 ls []) := by
    intro fuel
    induction fuel with
    | zero =>
      intro i w hi hv h0 hfu
      exact absurd hfu (Nat.not_lt_zero _)
    | succ fuel ih7 =>
      intro i w hi hv h0 hfu H locs ls hw hl
      refine lv_iload S.1 S.2.1 dX3_holds_7 (lv_at hl 4 rfl) ?_
      refine lv_iload_n S.1 S.2.1 dX3_holds_9 rfl (lv_at hl 2 rfl) ?_
      refine lv_icmp_ge (tgt := 33) S.1 S.2.1 dX3_holds_10 (by decide) (fun c_3 => ?_) (fun c_3 => ?_)
      · skip
        have c_3N : k ≤ i := (nI_leI (a := k) (b := i) (by omega) (by omega)).mp c_3
        have hJ : jHd x cap (jEm u) n k = w := by rw [hv, show k = i from by omega]
        refine lv_aload_n S.1 S.2.1 dX3_holds_33 rfl (lv_at hl 0 rfl) ?_
        refine y_get S hw (C := RX3) (T := TX3) (N := 8) i_X3_holds_X3 0 rfl rfl 7 (by decide) f_X3_holds_40 rfl dX3_holds_34 ?_
        refine lv_if_ne (tgt := 44) S.1 S.2.1 dX3_holds_37 (by decide) (fun c_4 => ?_) (fun c_4 => ?_)
        · skip
          refine lv_iconst (v := 0) S.1 S.2.1 dX3_holds_44 (by decide) ?_
          exact ret _ _ _ _ _ (by rw [hJ]; exact hw) (by rw [hJ]; first | exact (if_pos c_4).symm | exact (if_neg c_4).symm) dX3_holds_45
        · skip
          refine lv_iconst (v := 1) S.1 S.2.1 dX3_holds_40 (by decide) ?_
          refine lv_goto (tgt := 45) S.1 S.2.1 dX3_holds_41 (by decide) ?_
          exact ret _ _ _ _ _ (by rw [hJ]; exact hw) (by rw [hJ]; first | exact (if_pos c_4).symm | exact (if_neg c_4).symm) dX3_holds_45
      · skip
        have c_3N : ¬ k ≤ i := fun z => c_3 ((nI_leI (a := k) (b := i) (by omega) (by omega)).mpr z)
        refine lv_aload_n S.1 S.2.1 dX3_holds_13 rfl (lv_at hl 0 rfl) ?_
        refine y_get S hw (C := RX3) (T := TX3) (N := 8) i_X3_holds_X3 0 rfl rfl 7 (by decide) f_X3_holds_40 rfl dX3_holds_14 ?_
        refine lv_if_ne (tgt := 33) S.1 S.2.1 dX3_holds_17 (by decide) (fun c_5 => ?_) (fun c_5 => ?_)
        · skip
          have hJ : jHd x cap (jEm u) n k = w := by
            rw [show k = i + (k - i) from by omega, hv]
            exact jHd_on x cap (jEm u) n i (by rw [← hv]; exact c_5) _
          refine lv_aload_n S.1 S.2.1 dX3_holds_33 rfl (lv_at hl 0 rfl) ?_
          refine y_get S hw (C := RX3) (T := TX3) (N := 8) i_X3_holds_X3 0 rfl rfl 7 (by decide) f_X3_holds_40 rfl dX3_holds_34 ?_
          refine lv_if_ne (tgt := 44) S.1 S.2.1 dX3_holds_37 (by decide) (fun c_6 => ?_) (fun c_6 => ?_)
          · skip
            refine lv_iconst (v := 0) S.1 S.2.1 dX3_holds_44 (by decide) ?_
            exact ret _ _ _ _ _ (by rw [hJ]; exact hw) (by rw [hJ]; first | exact (if_pos c_6).symm | exact (if_neg c_6).symm) dX3_holds_45
          · skip
            exact absurd c_6 c_5
        · skip
          refine lv_aload_n S.1 S.2.1 dX3_holds_20 rfl (lv_at hl 0 rfl) ?_
          refine lv_iload_n S.1 S.2.1 dX3_holds_21 rfl (lv_at hl 1 rfl) ?_
          refine lv_iload_n S.1 S.2.1 dX3_holds_22 rfl (lv_at hl 3 rfl) ?_
          refine y_callI (As := [.int x, .int cap]) (rest := []) S hw hl.1 (c_X3_handOver l D cI cC cL q w x cap n h0 (by omega)) (cwV 2 S.2.2.2.2 gX3_holds_X3_handOver rfl rfl rfl (by decide +kernel) ⟨Nat.le_of_ble_eq_true rfl, Nat.le_of_ble_eq_true rfl⟩) 0 rfl rfl [0, 1, 2, 3] [] rfl (by decide +kernel) (wr := []) rfl (by decide +kernel) (by decide +kernel) rfl (Nat.le_of_ble_eq_true rfl) dX3_holds_23 rfl ⟨Nat.le_refl _, Nat.le_refl _⟩ (fun H locs v_7 x_8 ev_7 ex_8 hw => ?_)
          have hw : y_W D cI cC cL A s H locs [((q 0), .inr (3, [.int (v_7 0 0), .ref (q 1), .ref (q 2), .ref (q 3), .int (v_7 4 0), .int (v_7 5 0), .int (v_7 6 0), .int (v_7 7 0)])), ((q 1), .inl (cI, 10, .inl (v_7 1))), ((q 2), .inl (cI, 10, .inl (v_7 2))), ((q 3), .inl (cI, 10, .inl (v_7 3)))] := hw
          subst ex_8
          refine lv_pop S.1 S.2.1 dX3_holds_26 rfl ?_
          refine lv_iinc (v := (nI (i + 1))) (lv' := [(4, .int (nI (i + 1))), (0, .ref (q 0)), (1, .int x), (2, .int (nI k)), (3, .int cap)]) S.1 S.2.1 dX3_holds_27 hl (k := 4) rfl (by first | exact nI_1 _ | exact nI_add _ _) (by decide) rfl (fun ls hl => ?_)
          refine lv_goto (tgt := 7) S.1 S.2.1 dX3_holds_30 (by decide) ?_
          exact ih7 (i + 1) v_7 (by omega) (by rw [ev_7, hv]; rw [hv] at c_5; exact (if_pos c_5).symm) (by rw [ev_7]; exact jHO_n h0) (by omega) _ _ ls hw (lv_sub hl [1, 2, 3, 4, 0] rfl)
  exact lp7 ((k - 0) + 1) 0 v_1 (Nat.zero_le _) (ev_1) (by rw [ev_1]; exact hn) (Nat.lt_succ_self _) _ _ ls hw (lv_sub hl [1, 2, 3, 4, 0] rfl)

set_option maxHeartbeats 4000000 in
set_option maxRecDepth 100000 in
/-- Math.floorDiv -/
theorem c_J9_floorDiv_7cf53 (l : Launch) (D : va_G) (cI cC cL : ClassId) (x y : Int32) (hy : ¬ y = 0) : y_MI l yJ9_floorDiv_7cf53 wsJ9_floorDiv_7cf53 0 0 D cI cC cL [.int x, .int y] [] (jFD x y) (fun _ : Unit => []) () := by
  refine y_startIF (cc := cJ9_floorDiv_7cf53) (maxL := 3) (ret := some .int) (by decide +kernel) rfl (Nat.le_of_ble_eq_true rfl) ⟨_, rfl, fun x _ => rfl⟩ (fun h => by cases h) ?_
  intro p e s m args below meth c A Q ls S hw ret hl
  have S : CallFix p m c cJ9_floorDiv_7cf53 3 s args wsJ9_floorDiv_7cf53 RJ9 := S
  have hw : y_W D cI cC cL A s s.heap [] [] := hw
  have hl : lv_has ls 3 [(0, .int x), (1, .int y)] := hl
  refine lv_iload_n S.1 S.2.1 dJ9_floorDiv_7cf53_0 rfl (lv_at hl 0 rfl) ?_
  refine lv_iload_n S.1 S.2.1 dJ9_floorDiv_7cf53_1 rfl (lv_at hl 1 rfl) ?_
  refine lv_idiv S.1 S.2.1 dJ9_floorDiv_7cf53_2 hy ?_
  refine lv_istore_n (lv' := [(2, .int (x / y)), (0, .int x), (1, .int y)]) S.1 S.2.1 dJ9_floorDiv_7cf53_3 rfl hl (by decide) rfl (fun ls hl => ?_)
  refine lv_iload_n S.1 S.2.1 dJ9_floorDiv_7cf53_4 rfl (lv_at hl 1 rfl) ?_
  refine lv_iload_n S.1 S.2.1 dJ9_floorDiv_7cf53_5 rfl (lv_at hl 2 rfl) ?_
  refine lv_ixor S.1 S.2.1 dJ9_floorDiv_7cf53_6 ?_
  refine lv_if_ge (tgt := 21) S.1 S.2.1 dJ9_floorDiv_7cf53_7 (by decide) (fun c_1 => ?_) (fun c_1 => ?_)
  · skip
    refine lv_iload_n S.1 S.2.1 dJ9_floorDiv_7cf53_21 rfl (lv_at hl 0 rfl) ?_
    exact ret _ _ _ _ _ (by exact hw) (by simp only [jFD, c_1, ↓reduceIte]) dJ9_floorDiv_7cf53_22
  · skip
    refine lv_iload_n S.1 S.2.1 dJ9_floorDiv_7cf53_10 rfl (lv_at hl 0 rfl) ?_
    refine lv_iload_n S.1 S.2.1 dJ9_floorDiv_7cf53_11 rfl (lv_at hl 2 rfl) ?_
    refine lv_imul S.1 S.2.1 dJ9_floorDiv_7cf53_12 ?_
    refine lv_iload_n S.1 S.2.1 dJ9_floorDiv_7cf53_13 rfl (lv_at hl 1 rfl) ?_
    refine lv_icmp_eq (tgt := 21) S.1 S.2.1 dJ9_floorDiv_7cf53_14 (by decide) (fun c_2 => ?_) (fun c_2 => ?_)
    · skip
      refine lv_iload_n S.1 S.2.1 dJ9_floorDiv_7cf53_21 rfl (lv_at hl 0 rfl) ?_
      exact ret _ _ _ _ _ (by exact hw) (by simp only [jFD, c_1, c_2, ↓reduceIte]) dJ9_floorDiv_7cf53_22
    · skip
      refine lv_iload_n S.1 S.2.1 dJ9_floorDiv_7cf53_17 rfl (lv_at hl 0 rfl) ?_
      refine lv_iconst (v := 1) S.1 S.2.1 dJ9_floorDiv_7cf53_18 (by decide) ?_
      refine lv_isub S.1 S.2.1 dJ9_floorDiv_7cf53_19 ?_
      exact ret _ _ _ _ _ (by exact hw) (by simp only [jFD, c_1, c_2, ↓reduceIte]) dJ9_floorDiv_7cf53_20

theorem i_X2_copyFrom_X2 : ∀ w ∈ u_ws RX2 TX2 2, w ∈ wsX2_copyFrom := by decide +kernel
theorem f_X2_copyFrom_9 : Cond.fieldLink RX2 9 "ChargeLines$Pairs" "outputs" "[I" ∈ wsX2_copyFrom := by decide +kernel
theorem w_X2_copyFrom_cl18 : Cond.methodLink RX2 18 arraycopyName ∈ wsX2_copyFrom := by decide +kernel
theorem w_X2_copyFrom_cn : Cond.native arraycopyName ∈ wsX2_copyFrom := by decide +kernel
theorem w_X2_copyFrom_cs : Cond.static arraycopyName ∈ wsX2_copyFrom := by decide +kernel
theorem w_X2_copyFrom_ci : Cond.initialized "java/lang/System" ∈ wsX2_copyFrom := by decide +kernel
theorem f_X2_copyFrom_15 : Cond.fieldLink RX2 15 "ChargeLines$Pairs" "sizes" "[I" ∈ wsX2_copyFrom := by decide +kernel
set_option maxHeartbeats 4000000 in
set_option maxRecDepth 100000 in
/-- Pairs.copyFrom -/
theorem c_X2_copyFrom (l : Launch) (D : va_G) (cI cC cL : ClassId) (q q2 : Nat → Nat) (u u2 : U) : y_MV l yX2_copyFrom wsX2_copyFrom 1 18 D cI cC cL [.ref (q 4), .ref (q2 4)] (cPr cI q u ++ cPr cI q2 u2) (fun v : U => cPr cI q v ++ cPr cI q2 u2) (prMix u2 u) := by
  refine y_startV (cc := cX2_copyFrom) (maxL := 2) (by decide) rfl (Nat.le_of_ble_eq_true rfl) ?_
  intro p e s m args below meth c A Q ls S hw ret hl
  have S : CallFix p m c cX2_copyFrom 2 s args wsX2_copyFrom RX2 := S
  have hw : y_W D cI cC cL A s s.heap [] [((q 4), .inr (2, [.ref (q 5), .ref (q 6)])), ((q 5), .inl (cI, 3, .inl (u 8))), ((q 6), .inl (cI, 3, .inl (u 9))), ((q2 4), .inr (2, [.ref (q2 5), .ref (q2 6)])), ((q2 5), .inl (cI, 3, .inl (u2 8))), ((q2 6), .inl (cI, 3, .inl (u2 9)))] := hw
  have hl : lv_has ls 2 [(0, .ref (q 4)), (1, .ref (q2 4))] := hl
  refine lv_aload_n S.1 S.2.1 dX2_copyFrom_0 rfl (lv_at hl 1 rfl) ?_
  refine y_get S hw (C := RX2) (T := TX2) (N := 2) i_X2_copyFrom_X2 3 rfl rfl 0 (by decide) f_X2_copyFrom_9 rfl dX2_copyFrom_1 ?_
  refine lv_iconst (v := 0) S.1 S.2.1 dX2_copyFrom_4 (by decide) ?_
  refine lv_aload_n S.1 S.2.1 dX2_copyFrom_5 rfl (lv_at hl 0 rfl) ?_
  refine y_get S hw (C := RX2) (T := TX2) (N := 2) i_X2_copyFrom_X2 0 rfl rfl 0 (by decide) f_X2_copyFrom_9 rfl dX2_copyFrom_6 ?_
  refine lv_iconst (v := 0) S.1 S.2.1 dX2_copyFrom_9 (by decide) ?_
  refine lv_iconst (v := 3) S.1 S.2.1 dX2_copyFrom_10 (by decide) ?_
  refine y_copy (rest := []) S hw hl.1 w_X2_copyFrom_cl18 w_X2_copyFrom_cn w_X2_copyFrom_cs w_X2_copyFrom_ci 4 1 rfl rfl (by decide) (Nat.le_of_ble_eq_true rfl) (Nat.le_of_ble_eq_true rfl) (Nat.le_of_ble_eq_true rfl) dX2_copyFrom_11 (ws' := [((q 4), .inr (2, [.ref (q 5), .ref (q 6)])), ((q 5), .inl (cI, 3, .inl (u2 8))), ((q 6), .inl (cI, 3, .inl (u 9))), ((q2 4), .inr (2, [.ref (q2 5), .ref (q2 6)])), ((q2 5), .inl (cI, 3, .inl (u2 8))), ((q2 6), .inl (cI, 3, .inl (u2 9)))]) rfl (fun H locs hw => ?_)
  refine lv_aload_n S.1 S.2.1 dX2_copyFrom_14 rfl (lv_at hl 1 rfl) ?_
  refine y_get S hw (C := RX2) (T := TX2) (N := 2) i_X2_copyFrom_X2 3 rfl rfl 1 (by decide) f_X2_copyFrom_15 rfl dX2_copyFrom_15 ?_
  refine lv_iconst (v := 0) S.1 S.2.1 dX2_copyFrom_18 (by decide) ?_
  refine lv_aload_n S.1 S.2.1 dX2_copyFrom_19 rfl (lv_at hl 0 rfl) ?_
  refine y_get S hw (C := RX2) (T := TX2) (N := 2) i_X2_copyFrom_X2 0 rfl rfl 1 (by decide) f_X2_copyFrom_15 rfl dX2_copyFrom_20 ?_
  refine lv_iconst (v := 0) S.1 S.2.1 dX2_copyFrom_23 (by decide) ?_
  refine lv_iconst (v := 3) S.1 S.2.1 dX2_copyFrom_24 (by decide) ?_
  refine y_copy (rest := []) S hw hl.1 w_X2_copyFrom_cl18 w_X2_copyFrom_cn w_X2_copyFrom_cs w_X2_copyFrom_ci 5 2 rfl rfl (by decide) (Nat.le_of_ble_eq_true rfl) (Nat.le_of_ble_eq_true rfl) (Nat.le_of_ble_eq_true rfl) dX2_copyFrom_25 (ws' := [((q 4), .inr (2, [.ref (q 5), .ref (q 6)])), ((q 5), .inl (cI, 3, .inl (u2 8))), ((q 6), .inl (cI, 3, .inl (u2 9))), ((q2 4), .inr (2, [.ref (q2 5), .ref (q2 6)])), ((q2 5), .inl (cI, 3, .inl (u2 8))), ((q2 6), .inl (cI, 3, .inl (u2 9)))]) rfl (fun H locs hw => ?_)
  exact ret _ _ _ _ (by exact hw) dX2_copyFrom_28

theorem i_X2_forget_X2 : ∀ w ∈ u_ws RX2 TX2 2, w ∈ wsX2_forget := by decide +kernel
theorem f_X2_forget_9 : Cond.fieldLink RX2 9 "ChargeLines$Pairs" "outputs" "[I" ∈ wsX2_forget := by decide +kernel
theorem f_X2_forget_15 : Cond.fieldLink RX2 15 "ChargeLines$Pairs" "sizes" "[I" ∈ wsX2_forget := by decide +kernel
set_option maxHeartbeats 4000000 in
set_option maxRecDepth 100000 in
/-- Pairs.forget -/
theorem c_X2_forget (l : Launch) (D : va_G) (cI cC cL : ClassId) (q : Nat → Nat) (u : U) : y_MV l yX2_forget wsX2_forget 1 23 D cI cC cL [.ref (q 4)] (cPr cI q u) (fun v : U => cPr cI q v) (jForget u) := by
  refine y_startV (cc := cX2_forget) (maxL := 1) (by decide) rfl (Nat.le_of_ble_eq_true rfl) ?_
  intro p e s m args below meth c A Q ls S hw ret hl
  have S : CallFix p m c cX2_forget 1 s args wsX2_forget RX2 := S
  have hw : y_W D cI cC cL A s s.heap [] [((q 4), .inr (2, [.ref (q 5), .ref (q 6)])), ((q 5), .inl (cI, 3, .inl (u 8))), ((q 6), .inl (cI, 3, .inl (u 9)))] := hw
  have hl : lv_has ls 1 [(0, .ref (q 4))] := hl
  refine lv_aload_n S.1 S.2.1 dX2_forget_0 rfl (lv_at hl 0 rfl) ?_
  refine y_get S hw (C := RX2) (T := TX2) (N := 2) i_X2_forget_X2 0 rfl rfl 0 (by decide) f_X2_forget_9 rfl dX2_forget_1 ?_
  refine lv_iconst (v := 0) S.1 S.2.1 dX2_forget_4 (by decide) ?_
  refine y_callSV (As := [.ref (q 5), .int 0]) (rest := []) S hw hl.1 (c_J7_fill_53178 l D cI cC cL (q 5) 3 (u 8) 0 (by decide)) (va_cwS 2 S.2.2.2.2 gX2_forget_J7_fill_53178 rfl rfl rfl (by decide +kernel) ⟨Nat.le_of_ble_eq_true rfl, Nat.le_of_ble_eq_true rfl⟩) [1] [0, 2] rfl (by decide +kernel) (wr := [((q 4), .inr (2, [.ref (q 5), .ref (q 6)])), ((q 6), .inl (cI, 3, .inl (u 9)))]) rfl (by decide +kernel) (by decide +kernel) rfl (Nat.le_of_ble_eq_true rfl) dX2_forget_5 rfl ⟨Nat.le_refl _, Nat.le_refl _⟩ (fun H locs v_1 ev_1 hw => ?_)
  have hw : y_W D cI cC cL A s H locs [((q 4), .inr (2, [.ref (q 5), .ref (q 6)])), ((q 6), .inl (cI, 3, .inl (u 9))), ((q 5), .inl (cI, 3, .inl (fun _ => 0)))] := hw
  refine lv_aload_n S.1 S.2.1 dX2_forget_8 rfl (lv_at hl 0 rfl) ?_
  refine y_get S hw (C := RX2) (T := TX2) (N := 2) i_X2_forget_X2 0 rfl rfl 1 (by decide) f_X2_forget_15 rfl dX2_forget_9 ?_
  refine lv_iconst (v := 0) S.1 S.2.1 dX2_forget_12 (by decide) ?_
  refine y_callSV (As := [.ref (q 6), .int 0]) (rest := []) S hw hl.1 (c_J7_fill_53178 l D cI cC cL (q 6) 3 (u 9) 0 (by decide)) (va_cwS 2 S.2.2.2.2 gX2_forget_J7_fill_53178 rfl rfl rfl (by decide +kernel) ⟨Nat.le_of_ble_eq_true rfl, Nat.le_of_ble_eq_true rfl⟩) [1] [0, 2] rfl (by decide +kernel) (wr := [((q 4), .inr (2, [.ref (q 5), .ref (q 6)])), ((q 5), .inl (cI, 3, .inl (fun _ => 0)))]) rfl (by decide +kernel) (by decide +kernel) rfl (Nat.le_of_ble_eq_true rfl) dX2_forget_13 rfl ⟨Nat.le_refl _, Nat.le_refl _⟩ (fun H locs v_3 ev_3 hw => ?_)
  have hw : y_W D cI cC cL A s H locs [((q 4), .inr (2, [.ref (q 5), .ref (q 6)])), ((q 5), .inl (cI, 3, .inl (fun _ => 0))), ((q 6), .inl (cI, 3, .inl (fun _ => 0)))] := hw
  exact ret _ _ _ _ (by exact hw) dX2_forget_16

theorem i_X2_learn_X2 : ∀ w ∈ u_ws RX2 TX2 2, w ∈ wsX2_learn := by decide +kernel
theorem f_X2_learn_9 : Cond.fieldLink RX2 9 "ChargeLines$Pairs" "outputs" "[I" ∈ wsX2_learn := by decide +kernel
theorem f_X2_learn_15 : Cond.fieldLink RX2 15 "ChargeLines$Pairs" "sizes" "[I" ∈ wsX2_learn := by decide +kernel
set_option maxHeartbeats 4000000 in
set_option maxRecDepth 100000 in
/-- Pairs.learn -/
theorem c_X2_learn (l : Launch) (D : va_G) (cI cC cL : ClassId) (q : Nat → Nat) (u : U) (k : Nat) (o z : Int32) (hk : k < 3) : y_MV l yX2_learn wsX2_learn 0 0 D cI cC cL [.ref (q 4), .int (nI k), .int o, .int z] (cPr cI q u) (fun v : U => cPr cI q v) (jLearn u k o z) := by
  refine y_startV (cc := cX2_learn) (maxL := 4) (by decide) rfl (Nat.le_of_ble_eq_true rfl) ?_
  intro p e s m args below meth c A Q ls S hw ret hl
  have S : CallFix p m c cX2_learn 4 s args wsX2_learn RX2 := S
  have hw : y_W D cI cC cL A s s.heap [] [((q 4), .inr (2, [.ref (q 5), .ref (q 6)])), ((q 5), .inl (cI, 3, .inl (u 8))), ((q 6), .inl (cI, 3, .inl (u 9)))] := hw
  have hl : lv_has ls 4 [(0, .ref (q 4)), (1, .int (nI k)), (2, .int o), (3, .int z)] := hl
  refine lv_aload_n S.1 S.2.1 dX2_learn_0 rfl (lv_at hl 0 rfl) ?_
  refine y_get S hw (C := RX2) (T := TX2) (N := 2) i_X2_learn_X2 0 rfl rfl 0 (by decide) f_X2_learn_9 rfl dX2_learn_1 ?_
  refine lv_iload_n S.1 S.2.1 dX2_learn_4 rfl (lv_at hl 1 rfl) ?_
  refine lv_iload_n S.1 S.2.1 dX2_learn_5 rfl (lv_at hl 2 rfl) ?_
  refine y_iast S hw 1 (k := k) rfl (by omega) (Nat.le_of_ble_eq_true rfl) dX2_learn_6 (ws' := [((q 4), .inr (2, [.ref (q 5), .ref (q 6)])), ((q 5), .inl (cI, 3, .inl (upd (u 8) k o))), ((q 6), .inl (cI, 3, .inl (u 9)))]) rfl (fun H locs hw => ?_)
  refine lv_aload_n S.1 S.2.1 dX2_learn_7 rfl (lv_at hl 0 rfl) ?_
  refine y_get S hw (C := RX2) (T := TX2) (N := 2) i_X2_learn_X2 0 rfl rfl 1 (by decide) f_X2_learn_15 rfl dX2_learn_8 ?_
  refine lv_iload_n S.1 S.2.1 dX2_learn_11 rfl (lv_at hl 1 rfl) ?_
  refine lv_iload_n S.1 S.2.1 dX2_learn_12 rfl (lv_at hl 3 rfl) ?_
  refine y_iast S hw 2 (k := k) rfl (by omega) (Nat.le_of_ble_eq_true rfl) dX2_learn_13 (ws' := [((q 4), .inr (2, [.ref (q 5), .ref (q 6)])), ((q 5), .inl (cI, 3, .inl (upd (u 8) k o))), ((q 6), .inl (cI, 3, .inl (upd (u 9) k z)))]) rfl (fun H locs hw => ?_)
  exact ret _ _ _ _ (by exact hw) dX2_learn_14

theorem i_X2_isKnown_X2 : ∀ w ∈ u_ws RX2 TX2 2, w ∈ wsX2_isKnown := by decide +kernel
theorem f_X2_isKnown_15 : Cond.fieldLink RX2 15 "ChargeLines$Pairs" "sizes" "[I" ∈ wsX2_isKnown := by decide +kernel
set_option maxHeartbeats 4000000 in
set_option maxRecDepth 100000 in
/-- Pairs.isKnown -/
theorem c_X2_isKnown (l : Launch) (D : va_G) (cI cC cL : ClassId) (q : Nat → Nat) (u : U) (k : Nat) (hk : k < 3) : y_MI l yX2_isKnown wsX2_isKnown 0 0 D cI cC cL [.ref (q 4), .int (nI k)] (cPr cI q u) (jKn (u 9 k)) (fun _ : Unit => cPr cI q u) () := by
  refine y_startI (cc := cX2_isKnown) (maxL := 2) (ret := some .boolean) (by decide +kernel) rfl (Nat.le_of_ble_eq_true rfl) ⟨_, rfl, fun x h => by rcases h rfl with rfl | rfl <;> rfl⟩ (fun _ => jKn_01) ?_
  intro p e s m args below meth c A Q ls S hw ret hl
  have S : CallFix p m c cX2_isKnown 2 s args wsX2_isKnown RX2 := S
  have hw : y_W D cI cC cL A s s.heap [] [((q 4), .inr (2, [.ref (q 5), .ref (q 6)])), ((q 5), .inl (cI, 3, .inl (u 8))), ((q 6), .inl (cI, 3, .inl (u 9)))] := hw
  have hl : lv_has ls 2 [(0, .ref (q 4)), (1, .int (nI k))] := hl
  refine lv_aload_n S.1 S.2.1 dX2_isKnown_0 rfl (lv_at hl 0 rfl) ?_
  refine y_get S hw (C := RX2) (T := TX2) (N := 2) i_X2_isKnown_X2 0 rfl rfl 1 (by decide) f_X2_isKnown_15 rfl dX2_isKnown_1 ?_
  refine lv_iload_n S.1 S.2.1 dX2_isKnown_4 rfl (lv_at hl 1 rfl) ?_
  refine y_iald S hw 2 (k := k) rfl (by omega) (Nat.le_of_ble_eq_true rfl) dX2_isKnown_5 ?_
  refine lv_if_le (tgt := 13) S.1 S.2.1 dX2_isKnown_6 (by decide) (fun c_1 => ?_) (fun c_1 => ?_)
  · skip
    refine lv_iconst (v := 0) S.1 S.2.1 dX2_isKnown_13 (by decide) ?_
    exact ret _ _ _ _ _ (by exact hw) (by simp only [jKn, c_1, ↓reduceIte]) dX2_isKnown_14
  · skip
    refine lv_iconst (v := 1) S.1 S.2.1 dX2_isKnown_9 (by decide) ?_
    refine lv_goto (tgt := 14) S.1 S.2.1 dX2_isKnown_10 (by decide) ?_
    exact ret _ _ _ _ _ (by exact hw) (by simp only [jKn, c_1, ↓reduceIte]) dX2_isKnown_14

set_option maxHeartbeats 4000000 in
set_option maxRecDepth 100000 in
/-- Pairs.known -/
theorem c_X2_known (l : Launch) (D : va_G) (cI cC cL : ClassId) (q : Nat → Nat) (u : U) : y_MI l yX2_known wsX2_known 1 21 D cI cC cL [.ref (q 4)] (cPr cI q u) (jCnt (u 9) 3) (fun _ : Unit => cPr cI q u) () := by
  refine y_startI (cc := cX2_known) (maxL := 3) (ret := some .int) (by decide +kernel) rfl (Nat.le_of_ble_eq_true rfl) ⟨_, rfl, fun x _ => rfl⟩ (fun h => by cases h) ?_
  intro p e s m args below meth c A Q ls S hw ret hl
  have S : CallFix p m c cX2_known 3 s args wsX2_known RX2 := S
  have hw : y_W D cI cC cL A s s.heap [] [((q 4), .inr (2, [.ref (q 5), .ref (q 6)])), ((q 5), .inl (cI, 3, .inl (u 8))), ((q 6), .inl (cI, 3, .inl (u 9)))] := hw
  have hl : lv_has ls 3 [(0, .ref (q 4))] := hl
  refine lv_iconst (v := 0) S.1 S.2.1 dX2_known_0 (by decide) ?_
  refine lv_istore_n (lv' := [(1, .int 0), (0, .ref (q 4))]) S.1 S.2.1 dX2_known_1 rfl hl (by decide) rfl (fun ls hl => ?_)
  refine lv_iconst (v := 0) S.1 S.2.1 dX2_known_2 (by decide) ?_
  refine lv_istore_n (lv' := [(2, .int 0), (1, .int 0), (0, .ref (q 4))]) S.1 S.2.1 dX2_known_3 rfl hl (by decide) rfl (fun ls hl => ?_)
  have lp4 : ∀ (fuel : Nat) (i : Nat) (z : Int32), (i ≤ 3) → (z = jCnt (u 9) i) → (3 - i) < fuel → ∀ (H : Heap) (locs : List Loc) (ls : Array Slot), y_W D cI cC cL A s H locs [((q 4), .inr (2, [.ref (q 5), .ref (q 6)])), ((q 5), .inl (cI, 3, .inl (u 8))), ((q 6), .inl (cI, 3, .inl (u 9)))] → lv_has ls 3 [(0, .ref (q 4)), (1, .int z), (2, .int (nI i))] → W p l e (y_R 1 21) s m args below meth c H locs 0 0 Q (F0 m 4 ls []) := by
    intro fuel
    induction fuel with
    | zero =>
      intro i z hi hz hfu
      exact absurd hfu (Nat.not_lt_zero _)
    | succ fuel ih4 =>
      intro i z hi hz hfu H locs ls hw hl
      refine lv_iload_n S.1 S.2.1 dX2_known_4 rfl (lv_at hl 2 rfl) ?_
      refine lv_iconst (v := 3) S.1 S.2.1 dX2_known_5 (by decide) ?_
      refine lv_icmp_ge (tgt := 31) S.1 S.2.1 dX2_known_6 (by decide) (fun c_1 => ?_) (fun c_1 => ?_)
      · skip
        have c_1N : 3 ≤ i := (nI_leI (a := 3) (b := i) (by omega) (by omega)).mp c_1
        refine lv_iload_n S.1 S.2.1 dX2_known_31 rfl (lv_at hl 1 rfl) ?_
        exact ret _ _ _ _ _ (by exact hw) (by rw [hz, show i = 3 from by omega]) dX2_known_32
      · skip
        have c_1N : ¬ 3 ≤ i := fun z => c_1 ((nI_leI (a := 3) (b := i) (by omega) (by omega)).mpr z)
        refine lv_iload_n S.1 S.2.1 dX2_known_9 rfl (lv_at hl 1 rfl) ?_
        refine lv_aload_n S.1 S.2.1 dX2_known_10 rfl (lv_at hl 0 rfl) ?_
        refine lv_iload_n S.1 S.2.1 dX2_known_11 rfl (lv_at hl 2 rfl) ?_
        refine y_callI (As := [.int (nI i)]) (rest := [.int z]) S hw hl.1 (c_X2_isKnown l D cI cC cL q u i (by omega)) (cwV 1 S.2.2.2.2 gX2_known_X2_isKnown rfl rfl rfl (by decide +kernel) ⟨Nat.le_of_ble_eq_true rfl, Nat.le_of_ble_eq_true rfl⟩) 0 rfl rfl [0, 1, 2] [] rfl (by decide +kernel) (wr := []) rfl (by decide +kernel) (by decide +kernel) rfl (Nat.le_of_ble_eq_true rfl) dX2_known_12 rfl ⟨Nat.le_refl _, Nat.le_refl _⟩ (fun H locs v_2 x_3 ev_2 ex_3 hw => ?_)
        have hw : y_W D cI cC cL A s H locs [((q 4), .inr (2, [.ref (q 5), .ref (q 6)])), ((q 5), .inl (cI, 3, .inl (u 8))), ((q 6), .inl (cI, 3, .inl (u 9)))] := hw
        subst ex_3
        refine lv_if_eq (tgt := 22) S.1 S.2.1 dX2_known_15 (by decide) (fun c_4 => ?_) (fun c_4 => ?_)
        · skip
          refine lv_iconst (v := 0) S.1 S.2.1 dX2_known_22 (by decide) ?_
          refine lv_iadd S.1 S.2.1 dX2_known_23 ?_
          refine lv_istore_n (lv' := [(1, .int (z + 0)), (0, .ref (q 4)), (2, .int (nI i))]) S.1 S.2.1 dX2_known_24 rfl hl (by decide) rfl (fun ls hl => ?_)
          refine lv_iinc (v := (nI (i + 1))) (lv' := [(2, .int (nI (i + 1))), (1, .int (z + 0)), (0, .ref (q 4))]) S.1 S.2.1 dX2_known_25 hl (k := 2) rfl (by first | exact nI_1 _ | exact nI_add _ _) (by decide) rfl (fun ls hl => ?_)
          refine lv_goto (tgt := 4) S.1 S.2.1 dX2_known_28 (by decide) ?_
          exact ih4 (i + 1) (z + 0) (by omega) (by rw [hz, jCnt]; simp only [c_1, c_4, ↓reduceIte]) (by omega) _ _ ls hw (lv_sub hl [2, 1, 0] rfl)
        · skip
          refine lv_iconst (v := 1) S.1 S.2.1 dX2_known_18 (by decide) ?_
          refine lv_goto (tgt := 23) S.1 S.2.1 dX2_known_19 (by decide) ?_
          refine lv_iadd S.1 S.2.1 dX2_known_23 ?_
          refine lv_istore_n (lv' := [(1, .int (z + 1)), (0, .ref (q 4)), (2, .int (nI i))]) S.1 S.2.1 dX2_known_24 rfl hl (by decide) rfl (fun ls hl => ?_)
          refine lv_iinc (v := (nI (i + 1))) (lv' := [(2, .int (nI (i + 1))), (1, .int (z + 1)), (0, .ref (q 4))]) S.1 S.2.1 dX2_known_25 hl (k := 2) rfl (by first | exact nI_1 _ | exact nI_add _ _) (by decide) rfl (fun ls hl => ?_)
          refine lv_goto (tgt := 4) S.1 S.2.1 dX2_known_28 (by decide) ?_
          exact ih4 (i + 1) (z + 1) (by omega) (by rw [hz, jCnt]; simp only [c_1, c_4, ↓reduceIte]) (by omega) _ _ ls hw (lv_sub hl [2, 1, 0] rfl)
  exact lp4 ((3 - 0) + 1) 0 0 (Nat.zero_le _) (rfl) (Nat.lt_succ_self _) _ _ ls hw (lv_sub hl [2, 1, 0] rfl)

theorem i_X2_mendBetween_X2 : ∀ w ∈ u_ws RX2 TX2 2, w ∈ wsX2_mendBetween := by decide +kernel
theorem f_X2_mendBetween_9 : Cond.fieldLink RX2 9 "ChargeLines$Pairs" "outputs" "[I" ∈ wsX2_mendBetween := by decide +kernel
theorem f_X2_mendBetween_15 : Cond.fieldLink RX2 15 "ChargeLines$Pairs" "sizes" "[I" ∈ wsX2_mendBetween := by decide +kernel
set_option maxHeartbeats 4000000 in
set_option maxRecDepth 100000 in
/-- Pairs.mendBetween -/
theorem c_X2_mendBetween (l : Launch) (D : va_G) (cI cC cL : ClassId) (q : Nat → Nat) (u : U) (j i : Nat) (o : Int32) (hj : j < 3) (hi : i < 3) : y_MI l yX2_mendBetween wsX2_mendBetween 1 22 D cI cC cL [.ref (q 4), .int (nI j), .int (nI i), .int o] (cPr cI q u) (jMBt u j i o) (fun _ : Unit => cPr cI q u) () := by
  refine y_startI (cc := cX2_mendBetween) (maxL := 6) (ret := some .int) (by decide +kernel) rfl (Nat.le_of_ble_eq_true rfl) ⟨_, rfl, fun x _ => rfl⟩ (fun h => by cases h) ?_
  intro p e s m args below meth c A Q ls S hw ret hl
  have S : CallFix p m c cX2_mendBetween 6 s args wsX2_mendBetween RX2 := S
  have hw : y_W D cI cC cL A s s.heap [] [((q 4), .inr (2, [.ref (q 5), .ref (q 6)])), ((q 5), .inl (cI, 3, .inl (u 8))), ((q 6), .inl (cI, 3, .inl (u 9)))] := hw
  have hl : lv_has ls 6 [(0, .ref (q 4)), (1, .int (nI j)), (2, .int (nI i)), (3, .int o)] := hl
  refine lv_aload_n S.1 S.2.1 dX2_mendBetween_0 rfl (lv_at hl 0 rfl) ?_
  refine y_get S hw (C := RX2) (T := TX2) (N := 2) i_X2_mendBetween_X2 0 rfl rfl 0 (by decide) f_X2_mendBetween_9 rfl dX2_mendBetween_1 ?_
  refine lv_iload_n S.1 S.2.1 dX2_mendBetween_4 rfl (lv_at hl 2 rfl) ?_
  refine y_iald S hw 1 (k := i) rfl (by omega) (Nat.le_of_ble_eq_true rfl) dX2_mendBetween_5 ?_
  refine lv_aload_n S.1 S.2.1 dX2_mendBetween_6 rfl (lv_at hl 0 rfl) ?_
  refine y_get S hw (C := RX2) (T := TX2) (N := 2) i_X2_mendBetween_X2 0 rfl rfl 0 (by decide) f_X2_mendBetween_9 rfl dX2_mendBetween_7 ?_
  refine lv_iload_n S.1 S.2.1 dX2_mendBetween_10 rfl (lv_at hl 1 rfl) ?_
  refine y_iald S hw 1 (k := j) rfl (by omega) (Nat.le_of_ble_eq_true rfl) dX2_mendBetween_11 ?_
  refine lv_isub S.1 S.2.1 dX2_mendBetween_12 ?_
  refine lv_istore (lv' := [(4, .int (((u 8) i) - ((u 8) j))), (0, .ref (q 4)), (1, .int (nI j)), (2, .int (nI i)), (3, .int o)]) S.1 S.2.1 dX2_mendBetween_13 hl (by decide) rfl (fun ls hl => ?_)
  refine lv_iload S.1 S.2.1 dX2_mendBetween_15 (lv_at hl 0 rfl) ?_
  refine lv_if_ne (tgt := 27) S.1 S.2.1 dX2_mendBetween_17 (by decide) (fun c_1 => ?_) (fun c_1 => ?_)
  · skip
    refine lv_iload_n S.1 S.2.1 dX2_mendBetween_27 rfl (lv_at hl 4 rfl) ?_
    refine lv_aload_n S.1 S.2.1 dX2_mendBetween_28 rfl (lv_at hl 1 rfl) ?_
    refine y_get S hw (C := RX2) (T := TX2) (N := 2) i_X2_mendBetween_X2 0 rfl rfl 0 (by decide) f_X2_mendBetween_9 rfl dX2_mendBetween_29 ?_
    refine lv_iload_n S.1 S.2.1 dX2_mendBetween_32 rfl (lv_at hl 2 rfl) ?_
    refine y_iald S hw 1 (k := j) rfl (by omega) (Nat.le_of_ble_eq_true rfl) dX2_mendBetween_33 ?_
    refine lv_isub S.1 S.2.1 dX2_mendBetween_34 ?_
    refine lv_aload_n S.1 S.2.1 dX2_mendBetween_35 rfl (lv_at hl 1 rfl) ?_
    refine y_get S hw (C := RX2) (T := TX2) (N := 2) i_X2_mendBetween_X2 0 rfl rfl 1 (by decide) f_X2_mendBetween_15 rfl dX2_mendBetween_36 ?_
    refine lv_iload_n S.1 S.2.1 dX2_mendBetween_39 rfl (lv_at hl 3 rfl) ?_
    refine y_iald S hw 2 (k := i) rfl (by omega) (Nat.le_of_ble_eq_true rfl) dX2_mendBetween_40 ?_
    refine lv_aload_n S.1 S.2.1 dX2_mendBetween_41 rfl (lv_at hl 1 rfl) ?_
    refine y_get S hw (C := RX2) (T := TX2) (N := 2) i_X2_mendBetween_X2 0 rfl rfl 1 (by decide) f_X2_mendBetween_15 rfl dX2_mendBetween_42 ?_
    refine lv_iload_n S.1 S.2.1 dX2_mendBetween_45 rfl (lv_at hl 2 rfl) ?_
    refine y_iald S hw 2 (k := j) rfl (by omega) (Nat.le_of_ble_eq_true rfl) dX2_mendBetween_46 ?_
    refine lv_isub S.1 S.2.1 dX2_mendBetween_47 ?_
    refine lv_imul S.1 S.2.1 dX2_mendBetween_48 ?_
    refine lv_istore (lv' := [(5, .int ((o - ((u 8) j)) * (((u 9) i) - ((u 9) j)))), (4, .int (((u 8) i) - ((u 8) j))), (0, .ref (q 4)), (1, .int (nI j)), (2, .int (nI i)), (3, .int o)]) S.1 S.2.1 dX2_mendBetween_49 hl (by decide) rfl (fun ls hl => ?_)
    refine lv_aload_n S.1 S.2.1 dX2_mendBetween_51 rfl (lv_at hl 2 rfl) ?_
    refine y_get S hw (C := RX2) (T := TX2) (N := 2) i_X2_mendBetween_X2 0 rfl rfl 1 (by decide) f_X2_mendBetween_15 rfl dX2_mendBetween_52 ?_
    refine lv_iload_n S.1 S.2.1 dX2_mendBetween_55 rfl (lv_at hl 3 rfl) ?_
    refine y_iald S hw 2 (k := j) rfl (by omega) (Nat.le_of_ble_eq_true rfl) dX2_mendBetween_56 ?_
    refine lv_iload S.1 S.2.1 dX2_mendBetween_57 (lv_at hl 0 rfl) ?_
    refine lv_iload S.1 S.2.1 dX2_mendBetween_59 (lv_at hl 1 rfl) ?_
    refine y_callSI (As := [.int ((o - ((u 8) j)) * (((u 9) i) - ((u 9) j))), .int (((u 8) i) - ((u 8) j))]) (rest := [.int ((u 9) j)]) S hw hl.1 (c_J9_floorDiv_7cf53 l D cI cC cL ((o - ((u 8) j)) * (((u 9) i) - ((u 9) j))) (((u 8) i) - ((u 8) j)) c_1) (va_cwS 2 S.2.2.2.2 gX2_mendBetween_J9_floorDiv_7cf53 rfl rfl rfl (by decide +kernel) ⟨Nat.le_of_ble_eq_true rfl, Nat.le_of_ble_eq_true rfl⟩) [] [0, 1, 2] rfl (by decide +kernel) (wr := [((q 4), .inr (2, [.ref (q 5), .ref (q 6)])), ((q 5), .inl (cI, 3, .inl (u 8))), ((q 6), .inl (cI, 3, .inl (u 9)))]) rfl (by decide +kernel) (by decide +kernel) rfl (Nat.le_of_ble_eq_true rfl) dX2_mendBetween_61 rfl ⟨Nat.le_refl _, Nat.le_refl _⟩ (fun H locs v_2 x_3 ev_2 ex_3 hw => ?_)
    have hw : y_W D cI cC cL A s H locs [((q 4), .inr (2, [.ref (q 5), .ref (q 6)])), ((q 5), .inl (cI, 3, .inl (u 8))), ((q 6), .inl (cI, 3, .inl (u 9)))] := hw
    subst ex_3
    refine lv_iadd S.1 S.2.1 dX2_mendBetween_64 ?_
    exact ret _ _ _ _ _ (by exact hw) (by rw [jMBt]; first | exact (if_neg c_1).symm | exact (if_pos c_1).symm) dX2_mendBetween_65
  · skip
    refine lv_aload_n S.1 S.2.1 dX2_mendBetween_20 rfl (lv_at hl 1 rfl) ?_
    refine y_get S hw (C := RX2) (T := TX2) (N := 2) i_X2_mendBetween_X2 0 rfl rfl 1 (by decide) f_X2_mendBetween_15 rfl dX2_mendBetween_21 ?_
    refine lv_iload_n S.1 S.2.1 dX2_mendBetween_24 rfl (lv_at hl 2 rfl) ?_
    refine y_iald S hw 2 (k := j) rfl (by omega) (Nat.le_of_ble_eq_true rfl) dX2_mendBetween_25 ?_
    exact ret _ _ _ _ _ (by exact hw) (by rw [jMBt]; first | exact (if_neg c_1).symm | exact (if_pos c_1).symm) dX2_mendBetween_26

theorem i_X2_mendBy_X2 : ∀ w ∈ u_ws RX2 TX2 2, w ∈ wsX2_mendBy := by decide +kernel
theorem f_X2_mendBy_9 : Cond.fieldLink RX2 9 "ChargeLines$Pairs" "outputs" "[I" ∈ wsX2_mendBy := by decide +kernel
theorem f_X2_mendBy_15 : Cond.fieldLink RX2 15 "ChargeLines$Pairs" "sizes" "[I" ∈ wsX2_mendBy := by decide +kernel
theorem k_X2_mendBy_48 : Cond.constantLong RX2 48 (1000000) ∈ wsX2_mendBy := by decide +kernel
theorem w_X2_mendBy_ml50 : Cond.methodLink RX2 50 Lib.MathLoose.min_long.x ∈ wsX2_mendBy := by decide +kernel
theorem w_X2_mendBy_ms50 : Cond.static Lib.MathLoose.min_long.x ∈ wsX2_mendBy := by decide +kernel
theorem w_X2_mendBy_mi50 : Cond.initialized "java/lang/Math" ∈ wsX2_mendBy := by decide +kernel
theorem w_X2_mendBy_mc50 : Cond.code Lib.MathLoose.min_long.x Lib.MathLoose.min_long.code 4 (some .long) ∈ wsX2_mendBy := by decide +kernel
theorem k_X2_mendBy_34 : Cond.constant RX2 34 (-2000004) ∈ wsX2_mendBy := by decide +kernel
set_option maxHeartbeats 4000000 in
set_option maxRecDepth 100000 in
/-- Pairs.mendBy -/
theorem c_X2_mendBy (l : Launch) (D : va_G) (cI cC cL : ClassId) (q : Nat → Nat) (u : U) (j : Nat) (o : Int32) (hj : j < 3) : y_MI l yX2_mendBy wsX2_mendBy 1 15 D cI cC cL [.ref (q 4), .int (nI j), .int o] (cPr cI q u) (jMBy u j o) (fun _ : Unit => cPr cI q u) () := by
  refine y_startI (cc := cX2_mendBy) (maxL := 6) (ret := some .int) (by decide +kernel) rfl (Nat.le_of_ble_eq_true rfl) ⟨_, rfl, fun x _ => rfl⟩ (fun h => by cases h) ?_
  intro p e s m args below meth c A Q ls S hw ret hl
  have S : CallFix p m c cX2_mendBy 6 s args wsX2_mendBy RX2 := S
  have hw : y_W D cI cC cL A s s.heap [] [((q 4), .inr (2, [.ref (q 5), .ref (q 6)])), ((q 5), .inl (cI, 3, .inl (u 8))), ((q 6), .inl (cI, 3, .inl (u 9)))] := hw
  have hl : lv_has ls 6 [(0, .ref (q 4)), (1, .int (nI j)), (2, .int o)] := hl
  refine lv_aload_n S.1 S.2.1 dX2_mendBy_0 rfl (lv_at hl 0 rfl) ?_
  refine y_get S hw (C := RX2) (T := TX2) (N := 2) i_X2_mendBy_X2 0 rfl rfl 0 (by decide) f_X2_mendBy_9 rfl dX2_mendBy_1 ?_
  refine lv_iload_n S.1 S.2.1 dX2_mendBy_4 rfl (lv_at hl 1 rfl) ?_
  refine y_iald S hw 1 (k := j) rfl (by omega) (Nat.le_of_ble_eq_true rfl) dX2_mendBy_5 ?_
  refine lv_istore_n (lv' := [(3, .int ((u 8) j)), (0, .ref (q 4)), (1, .int (nI j)), (2, .int o)]) S.1 S.2.1 dX2_mendBy_6 rfl hl (by decide) rfl (fun ls hl => ?_)
  refine lv_iload_n S.1 S.2.1 dX2_mendBy_7 rfl (lv_at hl 0 rfl) ?_
  refine lv_if_ne (tgt := 14) S.1 S.2.1 dX2_mendBy_8 (by decide) (fun c_1 => ?_) (fun c_1 => ?_)
  · skip
    refine lv_iload_n S.1 S.2.1 dX2_mendBy_14 rfl (lv_at hl 3 rfl) ?_
    refine lv_i2l (v := o.toInt64) S.1 S.2.1 dX2_mendBy_15 rfl ?_
    refine lv_aload_n S.1 S.2.1 dX2_mendBy_16 rfl (lv_at hl 1 rfl) ?_
    refine y_get S hw (C := RX2) (T := TX2) (N := 2) i_X2_mendBy_X2 0 rfl rfl 1 (by decide) f_X2_mendBy_15 rfl dX2_mendBy_17 ?_
    refine lv_iload_n S.1 S.2.1 dX2_mendBy_20 rfl (lv_at hl 2 rfl) ?_
    refine y_iald S hw 2 (k := j) rfl (by omega) (Nat.le_of_ble_eq_true rfl) dX2_mendBy_21 ?_
    refine lv_i2l (v := ((u 9) j).toInt64) S.1 S.2.1 dX2_mendBy_22 rfl ?_
    refine lv_lmul S.1 S.2.1 dX2_mendBy_23 ?_
    refine lv_iload_n S.1 S.2.1 dX2_mendBy_24 rfl (lv_at hl 0 rfl) ?_
    refine lv_i2l (v := ((u 8) j).toInt64) S.1 S.2.1 dX2_mendBy_25 rfl ?_
    refine lv_ldiv S.1 S.2.1 dX2_mendBy_26 (y_l0 c_1) ?_
    refine lv_lstore (lv' := [(4, .long (((o.toInt64) * (((u 9) j).toInt64)) / (((u 8) j).toInt64))), (3, .int ((u 8) j)), (0, .ref (q 4)), (1, .int (nI j)), (2, .int o)]) S.1 S.2.1 dX2_mendBy_27 hl (by decide) rfl (fun ls hl => ?_)
    refine lv_lload S.1 S.2.1 dX2_mendBy_29 (lv_at hl 0 rfl) ?_
    refine lv_ldc2 (v := 1000000) S.1 S.2.1 S.2.2.2.1 (S.2.2.2.2 _ k_X2_mendBy_48) dX2_mendBy_31 ?_
    refine va_mmin_long S.1 S.2.1 (by rw [S.2.2.1, hl.1]) S.2.2.2.1 (S.2.2.2.2 _ w_X2_mendBy_ml50) (S.2.2.2.2 _ w_X2_mendBy_ms50) (S.2.2.2.2 _ w_X2_mendBy_mi50) (S.2.2.2.2 _ w_X2_mendBy_mc50) (Nat.le_of_ble_eq_true rfl) (rest := []) (Nat.le_of_ble_eq_true rfl) (Nat.le_of_ble_eq_true rfl) (Nat.le_of_ble_eq_true rfl) (x := (((o.toInt64) * (((u 9) j).toInt64)) / (((u 8) j).toInt64))) (y := 1000000) dX2_mendBy_34 ?_
    refine lv_l2i (v := (if 1000000 < (((o.toInt64) * (((u 9) j).toInt64)) / (((u 8) j).toInt64)) then 1000000 else (((o.toInt64) * (((u 9) j).toInt64)) / (((u 8) j).toInt64))).toInt32) S.1 S.2.1 dX2_mendBy_37 rfl ?_
    exact ret _ _ _ _ _ (by exact hw) (by rw [jMBy]; first | exact (if_neg c_1).symm | exact (if_pos c_1).symm) dX2_mendBy_38
  · skip
    refine lv_ldc (v := (-2000004)) S.1 S.2.1 S.2.2.2.1 (S.2.2.2.2 _ k_X2_mendBy_34) dX2_mendBy_11 ?_
    exact ret _ _ _ _ _ (by exact hw) (by rw [jMBy]; first | exact (if_neg c_1).symm | exact (if_pos c_1).symm) dX2_mendBy_13

theorem k_X2_mend_34 : Cond.constant RX2 34 (-2000004) ∈ wsX2_mend := by decide +kernel
theorem i_X2_mend_X2 : ∀ w ∈ u_ws RX2 TX2 2, w ∈ wsX2_mend := by decide +kernel
theorem f_X2_mend_9 : Cond.fieldLink RX2 9 "ChargeLines$Pairs" "outputs" "[I" ∈ wsX2_mend := by decide +kernel
set_option maxHeartbeats 4000000 in
set_option maxRecDepth 100000 in
/-- Pairs.mend -/
theorem c_X2_mend (l : Launch) (D : va_G) (cI cC cL : ClassId) (q : Nat → Nat) (u : U) (o : Int32) : y_MI l yX2_mend wsX2_mend 2 47 D cI cC cL [.ref (q 4), .int o] (cPr cI q u) (jMend u o) (fun _ : Unit => cPr cI q u) () := by
  refine y_startI (cc := cX2_mend) (maxL := 6) (ret := some .int) (by decide +kernel) rfl (Nat.le_of_ble_eq_true rfl) ⟨_, rfl, fun x _ => rfl⟩ (fun h => by cases h) ?_
  intro p e s m args below meth c A Q ls S hw ret hl
  have S : CallFix p m c cX2_mend 6 s args wsX2_mend RX2 := S
  have hw : y_W D cI cC cL A s s.heap [] [((q 4), .inr (2, [.ref (q 5), .ref (q 6)])), ((q 5), .inl (cI, 3, .inl (u 8))), ((q 6), .inl (cI, 3, .inl (u 9)))] := hw
  have hl : lv_has ls 6 [(0, .ref (q 4)), (1, .int o)] := hl
  refine lv_iconst (v := (-1)) S.1 S.2.1 dX2_mend_0 (by decide) ?_
  refine lv_istore_n (lv' := [(2, .int (-1)), (0, .ref (q 4)), (1, .int o)]) S.1 S.2.1 dX2_mend_1 rfl hl (by decide) rfl (fun ls hl => ?_)
  refine lv_iconst (v := (-1)) S.1 S.2.1 dX2_mend_2 (by decide) ?_
  refine lv_istore_n (lv' := [(3, .int (-1)), (2, .int (-1)), (0, .ref (q 4)), (1, .int o)]) S.1 S.2.1 dX2_mend_3 rfl hl (by decide) rfl (fun ls hl => ?_)
  refine lv_iconst (v := 0) S.1 S.2.1 dX2_mend_4 (by decide) ?_
  refine lv_istore (lv' := [(4, .int 0), (3, .int (-1)), (2, .int (-1)), (0, .ref (q 4)), (1, .int o)]) S.1 S.2.1 dX2_mend_5 hl (by decide) rfl (fun ls hl => ?_)
  have lp7 : ∀ (fuel : Nat) (i : Nat) (lo : Int32) (hi : Int32), (i ≤ 3) → ((lo, hi) = jML u o i) → (lo = -1 ∨ ∃ j, j < 3 ∧ lo = nI j) → (hi = -1 ∨ ∃ j, j < 3 ∧ hi = nI j) → (3 - i) < fuel → ∀ (H : Heap) (locs : List Loc) (ls : Array Slot), y_W D cI cC cL A s H locs [((q 4), .inr (2, [.ref (q 5), .ref (q 6)])), ((q 5), .inl (cI, 3, .inl (u 8))), ((q 6), .inl (cI, 3, .inl (u 9)))] → lv_has ls 6 [(0, .ref (q 4)), (1, .int o), (2, .int lo), (3, .int hi), (4, .int (nI i))] → W p l e (y_R 2 47) s m args below meth c H locs 0 0 Q (F0 m 7 ls []) := by
    intro fuel
    induction fuel with
    | zero =>
      intro i lo hi hi3 hv hlo hhi hfu
      exact absurd hfu (Nat.not_lt_zero _)
    | succ fuel ih7 =>
      intro i lo hi hi3 hv hlo hhi hfu H locs ls hw hl
      refine lv_iload S.1 S.2.1 dX2_mend_7 (lv_at hl 4 rfl) ?_
      refine lv_iconst (v := 3) S.1 S.2.1 dX2_mend_9 (by decide) ?_
      refine lv_icmp_ge (tgt := 92) S.1 S.2.1 dX2_mend_10 (by decide) (fun c_1 => ?_) (fun c_1 => ?_)
      · skip
        have c_1N : 3 ≤ i := (nI_leI (a := 3) (b := i) (by omega) (by omega)).mp c_1
        have hJ : jML u o 3 = (lo, hi) := by rw [show 3 = i from by omega, ← hv]
        refine lv_iload_n S.1 S.2.1 dX2_mend_92 rfl (lv_at hl 2 rfl) ?_
        refine lv_iconst (v := (-1)) S.1 S.2.1 dX2_mend_93 (by decide) ?_
        refine lv_icmp_ne (tgt := 105) S.1 S.2.1 dX2_mend_94 (by decide) (fun c_2 => ?_) (fun c_2 => ?_)
        · skip
          obtain ⟨j_lo, hj_lo, ej_lo⟩ := hlo.resolve_left c_2
          refine lv_iload_n S.1 S.2.1 dX2_mend_105 rfl (lv_at hl 2 rfl) ?_
          refine y_top (y := (nI j_lo)) (ej_lo) ?_
          refine lv_iconst (v := (-1)) S.1 S.2.1 dX2_mend_106 (by decide) ?_
          refine lv_icmp_ne (tgt := 117) S.1 S.2.1 dX2_mend_107 (by decide) (fun c_3 => ?_) (fun c_3 => ?_)
          · skip
            refine lv_iload_n S.1 S.2.1 dX2_mend_117 rfl (lv_at hl 3 rfl) ?_
            refine lv_iconst (v := (-1)) S.1 S.2.1 dX2_mend_118 (by decide) ?_
            refine lv_icmp_ne (tgt := 131) S.1 S.2.1 dX2_mend_119 (by decide) (fun c_4 => ?_) (fun c_4 => ?_)
            · skip
              obtain ⟨j_hi, hj_hi, ej_hi⟩ := hhi.resolve_left c_4
              refine lv_aload_n S.1 S.2.1 dX2_mend_131 rfl (lv_at hl 0 rfl) ?_
              refine lv_iload_n S.1 S.2.1 dX2_mend_132 rfl (lv_at hl 2 rfl) ?_
              refine y_top (y := (nI j_lo)) (ej_lo) ?_
              refine lv_iload_n S.1 S.2.1 dX2_mend_133 rfl (lv_at hl 3 rfl) ?_
              refine y_top (y := (nI j_hi)) (ej_hi) ?_
              refine lv_iload_n S.1 S.2.1 dX2_mend_134 rfl (lv_at hl 1 rfl) ?_
              refine y_callI (As := [.int (nI j_lo), .int (nI j_hi), .int o]) (rest := []) S hw hl.1 (c_X2_mendBetween l D cI cC cL q u j_lo j_hi o (by omega) (by omega)) (cwV 3 S.2.2.2.2 gX2_mend_X2_mendBetween rfl rfl rfl (by decide +kernel) ⟨Nat.le_of_ble_eq_true rfl, Nat.le_of_ble_eq_true rfl⟩) 0 rfl rfl [0, 1, 2] [] rfl (by decide +kernel) (wr := []) rfl (by decide +kernel) (by decide +kernel) rfl (Nat.le_of_ble_eq_true rfl) dX2_mend_135 rfl ⟨Nat.le_refl _, Nat.le_refl _⟩ (fun H locs v_5 x_6 ev_5 ex_6 hw => ?_)
              have hw : y_W D cI cC cL A s H locs [((q 4), .inr (2, [.ref (q 5), .ref (q 6)])), ((q 5), .inl (cI, 3, .inl (u 8))), ((q 6), .inl (cI, 3, .inl (u 9)))] := hw
              subst ex_6
              exact ret _ _ _ _ _ (by exact hw) (by rw [jMend, hJ]; simp only [c_1, c_2, c_3, c_4, ej_lo, ej_hi, nI_clamp (show j_lo < 2 ^ 31 by omega), nI_clamp (show j_hi < 2 ^ 31 by omega), y_m1 j_lo hj_lo, y_m1 j_hi hj_hi, not_true_eq_false, not_false_eq_true, Decidable.not_not, ↓reduceIte]) dX2_mend_138
            · skip
              refine lv_aload_n S.1 S.2.1 dX2_mend_122 rfl (lv_at hl 0 rfl) ?_
              refine lv_iload_n S.1 S.2.1 dX2_mend_123 rfl (lv_at hl 2 rfl) ?_
              refine y_top (y := (nI j_lo)) (ej_lo) ?_
              refine lv_iload_n S.1 S.2.1 dX2_mend_124 rfl (lv_at hl 1 rfl) ?_
              refine y_callI (As := [.int (nI j_lo), .int o]) (rest := []) S hw hl.1 (c_X2_mendBy l D cI cC cL q u j_lo o (by omega)) (cwV 2 S.2.2.2.2 gX2_mend_X2_mendBy rfl rfl rfl (by decide +kernel) ⟨Nat.le_of_ble_eq_true rfl, Nat.le_of_ble_eq_true rfl⟩) 0 rfl rfl [0, 1, 2] [] rfl (by decide +kernel) (wr := []) rfl (by decide +kernel) (by decide +kernel) rfl (Nat.le_of_ble_eq_true rfl) dX2_mend_125 rfl ⟨Nat.le_refl _, Nat.le_refl _⟩ (fun H locs v_7 x_8 ev_7 ex_8 hw => ?_)
              have hw : y_W D cI cC cL A s H locs [((q 4), .inr (2, [.ref (q 5), .ref (q 6)])), ((q 5), .inl (cI, 3, .inl (u 8))), ((q 6), .inl (cI, 3, .inl (u 9)))] := hw
              subst ex_8
              refine lv_goto (tgt := 138) S.1 S.2.1 dX2_mend_128 (by decide) ?_
              exact ret _ _ _ _ _ (by exact hw) (by rw [jMend, hJ]; simp only [c_1, c_2, c_3, c_4, ej_lo, nI_clamp (show j_lo < 2 ^ 31 by omega), y_m1 j_lo hj_lo, not_true_eq_false, not_false_eq_true, Decidable.not_not, ↓reduceIte]) dX2_mend_138
          · skip
            exact absurd c_3 (y_m1 j_lo hj_lo)
        · skip
          refine lv_iload_n S.1 S.2.1 dX2_mend_97 rfl (lv_at hl 3 rfl) ?_
          refine lv_iconst (v := (-1)) S.1 S.2.1 dX2_mend_98 (by decide) ?_
          refine lv_icmp_ne (tgt := 105) S.1 S.2.1 dX2_mend_99 (by decide) (fun c_9 => ?_) (fun c_9 => ?_)
          · skip
            obtain ⟨j_hi, hj_hi, ej_hi⟩ := hhi.resolve_left c_9
            refine lv_iload_n S.1 S.2.1 dX2_mend_105 rfl (lv_at hl 2 rfl) ?_
            refine lv_iconst (v := (-1)) S.1 S.2.1 dX2_mend_106 (by decide) ?_
            refine lv_icmp_ne (tgt := 117) S.1 S.2.1 dX2_mend_107 (by decide) (fun c_10 => ?_) (fun c_10 => ?_)
            · skip
              exact absurd c_2 c_10
            · skip
              refine lv_aload_n S.1 S.2.1 dX2_mend_110 rfl (lv_at hl 0 rfl) ?_
              refine lv_iload_n S.1 S.2.1 dX2_mend_111 rfl (lv_at hl 3 rfl) ?_
              refine y_top (y := (nI j_hi)) (ej_hi) ?_
              refine lv_iload_n S.1 S.2.1 dX2_mend_112 rfl (lv_at hl 1 rfl) ?_
              refine y_callI (As := [.int (nI j_hi), .int o]) (rest := []) S hw hl.1 (c_X2_mendBy l D cI cC cL q u j_hi o (by omega)) (cwV 2 S.2.2.2.2 gX2_mend_X2_mendBy rfl rfl rfl (by decide +kernel) ⟨Nat.le_of_ble_eq_true rfl, Nat.le_of_ble_eq_true rfl⟩) 0 rfl rfl [0, 1, 2] [] rfl (by decide +kernel) (wr := []) rfl (by decide +kernel) (by decide +kernel) rfl (Nat.le_of_ble_eq_true rfl) dX2_mend_113 rfl ⟨Nat.le_refl _, Nat.le_refl _⟩ (fun H locs v_11 x_12 ev_11 ex_12 hw => ?_)
              have hw : y_W D cI cC cL A s H locs [((q 4), .inr (2, [.ref (q 5), .ref (q 6)])), ((q 5), .inl (cI, 3, .inl (u 8))), ((q 6), .inl (cI, 3, .inl (u 9)))] := hw
              subst ex_12
              exact ret _ _ _ _ _ (by exact hw) (by rw [jMend, hJ]; simp only [c_1, c_2, c_9, c_10, ej_hi, nI_clamp (show j_hi < 2 ^ 31 by omega), y_m1 j_hi hj_hi, not_true_eq_false, not_false_eq_true, Decidable.not_not, ↓reduceIte]) dX2_mend_116
          · skip
            refine lv_ldc (v := (-2000004)) S.1 S.2.1 S.2.2.2.1 (S.2.2.2.2 _ k_X2_mend_34) dX2_mend_102 ?_
            exact ret _ _ _ _ _ (by exact hw) (by rw [jMend, hJ]; simp only [c_1, c_2, c_9, not_true_eq_false, not_false_eq_true, Decidable.not_not, ↓reduceIte]) dX2_mend_104
      · skip
        have c_1N : ¬ 3 ≤ i := fun z => c_1 ((nI_leI (a := 3) (b := i) (by omega) (by omega)).mpr z)
        refine lv_aload_n S.1 S.2.1 dX2_mend_13 rfl (lv_at hl 0 rfl) ?_
        refine y_get S hw (C := RX2) (T := TX2) (N := 2) i_X2_mend_X2 0 rfl rfl 0 (by decide) f_X2_mend_9 rfl dX2_mend_14 ?_
        refine lv_iload S.1 S.2.1 dX2_mend_17 (lv_at hl 4 rfl) ?_
        refine y_iald S hw 1 (k := i) rfl (by omega) (Nat.le_of_ble_eq_true rfl) dX2_mend_19 ?_
        refine lv_istore (lv' := [(5, .int ((u 8) i)), (0, .ref (q 4)), (1, .int o), (2, .int lo), (3, .int hi), (4, .int (nI i))]) S.1 S.2.1 dX2_mend_20 hl (by decide) rfl (fun ls hl => ?_)
        refine lv_aload_n S.1 S.2.1 dX2_mend_22 rfl (lv_at hl 1 rfl) ?_
        refine lv_iload S.1 S.2.1 dX2_mend_23 (lv_at hl 5 rfl) ?_
        refine y_callI (As := [.int (nI i)]) (rest := []) S hw hl.1 (c_X2_isKnown l D cI cC cL q u i (by omega)) (cwV 1 S.2.2.2.2 gX2_mend_X2_isKnown rfl rfl rfl (by decide +kernel) ⟨Nat.le_of_ble_eq_true rfl, Nat.le_of_ble_eq_true rfl⟩) 0 rfl rfl [0, 1, 2] [] rfl (by decide +kernel) (wr := []) rfl (by decide +kernel) (by decide +kernel) rfl (Nat.le_of_ble_eq_true rfl) dX2_mend_25 rfl ⟨Nat.le_refl _, Nat.le_refl _⟩ (fun H locs v_13 x_14 ev_13 ex_14 hw => ?_)
        have hw : y_W D cI cC cL A s H locs [((q 4), .inr (2, [.ref (q 5), .ref (q 6)])), ((q 5), .inl (cI, 3, .inl (u 8))), ((q 6), .inl (cI, 3, .inl (u 9)))] := hw
        subst ex_14
        refine lv_if_eq (tgt := 86) S.1 S.2.1 dX2_mend_28 (by decide) (fun c_15 => ?_) (fun c_15 => ?_)
        · skip
          refine lv_iinc (v := (nI (i + 1))) (lv' := [(4, .int (nI (i + 1))), (5, .int ((u 8) i)), (0, .ref (q 4)), (1, .int o), (2, .int lo), (3, .int hi)]) S.1 S.2.1 dX2_mend_86 hl (k := 5) rfl (by first | exact nI_1 _ | exact nI_add _ _) (by decide) rfl (fun ls hl => ?_)
          refine lv_goto (tgt := 7) S.1 S.2.1 dX2_mend_89 (by decide) ?_
          exact ih7 (i + 1) lo hi (by omega) (by rw [jML, ← hv]; simp only [jMS, jLo, jHi, c_1, c_15, not_false_eq_true, not_true_eq_false, ↓reduceIte]) (by first | exact hlo | exact Or.inr ⟨i, by omega, rfl⟩) (by first | exact hhi | exact Or.inr ⟨i, by omega, rfl⟩) (by omega) _ _ ls hw (lv_sub hl [2, 3, 4, 5, 0] rfl)
        · skip
          refine lv_iload S.1 S.2.1 dX2_mend_31 (lv_at hl 0 rfl) ?_
          refine lv_if_le (tgt := 86) S.1 S.2.1 dX2_mend_33 (by decide) (fun c_16 => ?_) (fun c_16 => ?_)
          · skip
            refine lv_iinc (v := (nI (i + 1))) (lv' := [(4, .int (nI (i + 1))), (5, .int ((u 8) i)), (0, .ref (q 4)), (1, .int o), (2, .int lo), (3, .int hi)]) S.1 S.2.1 dX2_mend_86 hl (k := 5) rfl (by first | exact nI_1 _ | exact nI_add _ _) (by decide) rfl (fun ls hl => ?_)
            refine lv_goto (tgt := 7) S.1 S.2.1 dX2_mend_89 (by decide) ?_
            exact ih7 (i + 1) lo hi (by omega) (by rw [jML, ← hv]; simp only [jMS, jLo, jHi, c_1, c_15, c_16, not_false_eq_true, not_true_eq_false, ↓reduceIte]) (by first | exact hlo | exact Or.inr ⟨i, by omega, rfl⟩) (by first | exact hhi | exact Or.inr ⟨i, by omega, rfl⟩) (by omega) _ _ ls hw (lv_sub hl [2, 3, 4, 5, 0] rfl)
          · skip
            refine lv_iload S.1 S.2.1 dX2_mend_36 (lv_at hl 0 rfl) ?_
            refine lv_iload_n S.1 S.2.1 dX2_mend_38 rfl (lv_at hl 2 rfl) ?_
            refine lv_icmp_gt (tgt := 61) S.1 S.2.1 dX2_mend_39 (by decide) (fun c_17 => ?_) (fun c_17 => ?_)
            · skip
              refine lv_iload S.1 S.2.1 dX2_mend_61 (lv_at hl 0 rfl) ?_
              refine lv_iload_n S.1 S.2.1 dX2_mend_63 rfl (lv_at hl 2 rfl) ?_
              refine lv_icmp_lt (tgt := 86) S.1 S.2.1 dX2_mend_64 (by decide) (fun c_18 => ?_) (fun c_18 => ?_)
              · skip
                refine lv_iinc (v := (nI (i + 1))) (lv' := [(4, .int (nI (i + 1))), (5, .int ((u 8) i)), (0, .ref (q 4)), (1, .int o), (2, .int lo), (3, .int hi)]) S.1 S.2.1 dX2_mend_86 hl (k := 5) rfl (by first | exact nI_1 _ | exact nI_add _ _) (by decide) rfl (fun ls hl => ?_)
                refine lv_goto (tgt := 7) S.1 S.2.1 dX2_mend_89 (by decide) ?_
                exact ih7 (i + 1) lo hi (by omega) (by rw [jML, ← hv]; simp only [jMS, jLo, jHi, c_1, c_15, c_16, c_17, c_18, not_false_eq_true, not_true_eq_false, ↓reduceIte]) (by first | exact hlo | exact Or.inr ⟨i, by omega, rfl⟩) (by first | exact hhi | exact Or.inr ⟨i, by omega, rfl⟩) (by omega) _ _ ls hw (lv_sub hl [2, 3, 4, 5, 0] rfl)
              · skip
                refine lv_iload_n S.1 S.2.1 dX2_mend_67 rfl (lv_at hl 4 rfl) ?_
                refine lv_iconst (v := (-1)) S.1 S.2.1 dX2_mend_68 (by decide) ?_
                refine lv_icmp_eq (tgt := 83) S.1 S.2.1 dX2_mend_69 (by decide) (fun c_19 => ?_) (fun c_19 => ?_)
                · skip
                  refine lv_iload S.1 S.2.1 dX2_mend_83 (lv_at hl 5 rfl) ?_
                  refine lv_istore_n (lv' := [(3, .int (nI i)), (5, .int ((u 8) i)), (0, .ref (q 4)), (1, .int o), (2, .int lo), (4, .int (nI i))]) S.1 S.2.1 dX2_mend_85 rfl hl (by decide) rfl (fun ls hl => ?_)
                  refine lv_iinc (v := (nI (i + 1))) (lv' := [(4, .int (nI (i + 1))), (3, .int (nI i)), (5, .int ((u 8) i)), (0, .ref (q 4)), (1, .int o), (2, .int lo)]) S.1 S.2.1 dX2_mend_86 hl (k := 5) rfl (by first | exact nI_1 _ | exact nI_add _ _) (by decide) rfl (fun ls hl => ?_)
                  refine lv_goto (tgt := 7) S.1 S.2.1 dX2_mend_89 (by decide) ?_
                  exact ih7 (i + 1) lo (nI i) (by omega) (by rw [jML, ← hv]; simp only [jMS, jLo, jHi, c_1, c_15, c_16, c_17, c_18, c_19, not_false_eq_true, not_true_eq_false, ↓reduceIte]) (by first | exact hlo | exact Or.inr ⟨i, by omega, rfl⟩) (by first | exact hhi | exact Or.inr ⟨i, by omega, rfl⟩) (by omega) _ _ ls hw (lv_sub hl [3, 4, 5, 1, 0] rfl)
                · skip
                  refine lv_iload S.1 S.2.1 dX2_mend_72 (lv_at hl 0 rfl) ?_
                  refine lv_aload_n S.1 S.2.1 dX2_mend_74 rfl (lv_at hl 1 rfl) ?_
                  refine y_get S hw (C := RX2) (T := TX2) (N := 2) i_X2_mend_X2 0 rfl rfl 0 (by decide) f_X2_mend_9 rfl dX2_mend_75 ?_
                  refine lv_iload_n S.1 S.2.1 dX2_mend_78 rfl (lv_at hl 4 rfl) ?_
                  obtain ⟨j_hi, hj_hi, ej_hi⟩ := hhi.resolve_left c_19
                  refine y_top (y := (nI j_hi)) (ej_hi) ?_
                  refine y_iald S hw 1 (k := j_hi) rfl (by omega) (Nat.le_of_ble_eq_true rfl) dX2_mend_79 ?_
                  refine y_top (y := (u 8 hi.toNatClampNeg)) (by rw [ej_hi, nI_clamp (by omega)]) ?_
                  refine lv_icmp_ge (tgt := 86) S.1 S.2.1 dX2_mend_80 (by decide) (fun c_20 => ?_) (fun c_20 => ?_)
                  · skip
                    refine lv_iinc (v := (nI (i + 1))) (lv' := [(4, .int (nI (i + 1))), (5, .int ((u 8) i)), (0, .ref (q 4)), (1, .int o), (2, .int lo), (3, .int hi)]) S.1 S.2.1 dX2_mend_86 hl (k := 5) rfl (by first | exact nI_1 _ | exact nI_add _ _) (by decide) rfl (fun ls hl => ?_)
                    refine lv_goto (tgt := 7) S.1 S.2.1 dX2_mend_89 (by decide) ?_
                    exact ih7 (i + 1) lo hi (by omega) (by rw [jML, ← hv]; simp only [jMS, jLo, jHi, c_1, c_15, c_16, c_17, c_18, c_19, c_20, not_false_eq_true, not_true_eq_false, ↓reduceIte]) (by first | exact hlo | exact Or.inr ⟨i, by omega, rfl⟩) (by first | exact hhi | exact Or.inr ⟨i, by omega, rfl⟩) (by omega) _ _ ls hw (lv_sub hl [2, 3, 4, 5, 0] rfl)
                  · skip
                    refine lv_iload S.1 S.2.1 dX2_mend_83 (lv_at hl 5 rfl) ?_
                    refine lv_istore_n (lv' := [(3, .int (nI i)), (5, .int ((u 8) i)), (0, .ref (q 4)), (1, .int o), (2, .int lo), (4, .int (nI i))]) S.1 S.2.1 dX2_mend_85 rfl hl (by decide) rfl (fun ls hl => ?_)
                    refine lv_iinc (v := (nI (i + 1))) (lv' := [(4, .int (nI (i + 1))), (3, .int (nI i)), (5, .int ((u 8) i)), (0, .ref (q 4)), (1, .int o), (2, .int lo)]) S.1 S.2.1 dX2_mend_86 hl (k := 5) rfl (by first | exact nI_1 _ | exact nI_add _ _) (by decide) rfl (fun ls hl => ?_)
                    refine lv_goto (tgt := 7) S.1 S.2.1 dX2_mend_89 (by decide) ?_
                    exact ih7 (i + 1) lo (nI i) (by omega) (by rw [jML, ← hv]; simp only [jMS, jLo, jHi, c_1, c_15, c_16, c_17, c_18, c_19, c_20, not_false_eq_true, not_true_eq_false, ↓reduceIte]) (by first | exact hlo | exact Or.inr ⟨i, by omega, rfl⟩) (by first | exact hhi | exact Or.inr ⟨i, by omega, rfl⟩) (by omega) _ _ ls hw (lv_sub hl [3, 4, 5, 1, 0] rfl)
            · skip
              refine lv_iload_n S.1 S.2.1 dX2_mend_42 rfl (lv_at hl 3 rfl) ?_
              refine lv_iconst (v := (-1)) S.1 S.2.1 dX2_mend_43 (by decide) ?_
              refine lv_icmp_eq (tgt := 58) S.1 S.2.1 dX2_mend_44 (by decide) (fun c_21 => ?_) (fun c_21 => ?_)
              · skip
                refine lv_iload S.1 S.2.1 dX2_mend_58 (lv_at hl 5 rfl) ?_
                refine lv_istore_n (lv' := [(2, .int (nI i)), (5, .int ((u 8) i)), (0, .ref (q 4)), (1, .int o), (3, .int hi), (4, .int (nI i))]) S.1 S.2.1 dX2_mend_60 rfl hl (by decide) rfl (fun ls hl => ?_)
                refine lv_iload S.1 S.2.1 dX2_mend_61 (lv_at hl 1 rfl) ?_
                refine lv_iload_n S.1 S.2.1 dX2_mend_63 rfl (lv_at hl 3 rfl) ?_
                refine lv_icmp_lt (tgt := 86) S.1 S.2.1 dX2_mend_64 (by decide) (fun c_22 => ?_) (fun c_22 => ?_)
                · skip
                  refine lv_iinc (v := (nI (i + 1))) (lv' := [(4, .int (nI (i + 1))), (2, .int (nI i)), (5, .int ((u 8) i)), (0, .ref (q 4)), (1, .int o), (3, .int hi)]) S.1 S.2.1 dX2_mend_86 hl (k := 5) rfl (by first | exact nI_1 _ | exact nI_add _ _) (by decide) rfl (fun ls hl => ?_)
                  refine lv_goto (tgt := 7) S.1 S.2.1 dX2_mend_89 (by decide) ?_
                  exact ih7 (i + 1) (nI i) hi (by omega) (by rw [jML, ← hv]; simp only [jMS, jLo, jHi, c_1, c_15, c_16, c_17, c_21, c_22, not_false_eq_true, not_true_eq_false, ↓reduceIte]) (by first | exact hlo | exact Or.inr ⟨i, by omega, rfl⟩) (by first | exact hhi | exact Or.inr ⟨i, by omega, rfl⟩) (by omega) _ _ ls hw (lv_sub hl [3, 4, 1, 5, 0] rfl)
                · skip
                  refine lv_iload_n S.1 S.2.1 dX2_mend_67 rfl (lv_at hl 4 rfl) ?_
                  refine lv_iconst (v := (-1)) S.1 S.2.1 dX2_mend_68 (by decide) ?_
                  refine lv_icmp_eq (tgt := 83) S.1 S.2.1 dX2_mend_69 (by decide) (fun c_23 => ?_) (fun c_23 => ?_)
                  · skip
                    refine lv_iload S.1 S.2.1 dX2_mend_83 (lv_at hl 5 rfl) ?_
                    refine lv_istore_n (lv' := [(3, .int (nI i)), (2, .int (nI i)), (5, .int ((u 8) i)), (0, .ref (q 4)), (1, .int o), (4, .int (nI i))]) S.1 S.2.1 dX2_mend_85 rfl hl (by decide) rfl (fun ls hl => ?_)
                    refine lv_iinc (v := (nI (i + 1))) (lv' := [(4, .int (nI (i + 1))), (3, .int (nI i)), (2, .int (nI i)), (5, .int ((u 8) i)), (0, .ref (q 4)), (1, .int o)]) S.1 S.2.1 dX2_mend_86 hl (k := 5) rfl (by first | exact nI_1 _ | exact nI_add _ _) (by decide) rfl (fun ls hl => ?_)
                    refine lv_goto (tgt := 7) S.1 S.2.1 dX2_mend_89 (by decide) ?_
                    exact ih7 (i + 1) (nI i) (nI i) (by omega) (by rw [jML, ← hv]; simp only [jMS, jLo, jHi, c_1, c_15, c_16, c_17, c_21, c_22, c_23, not_false_eq_true, not_true_eq_false, ↓reduceIte]) (by first | exact hlo | exact Or.inr ⟨i, by omega, rfl⟩) (by first | exact hhi | exact Or.inr ⟨i, by omega, rfl⟩) (by omega) _ _ ls hw (lv_sub hl [4, 5, 2, 1, 0] rfl)
                  · skip
                    refine lv_iload S.1 S.2.1 dX2_mend_72 (lv_at hl 1 rfl) ?_
                    refine lv_aload_n S.1 S.2.1 dX2_mend_74 rfl (lv_at hl 2 rfl) ?_
                    refine y_get S hw (C := RX2) (T := TX2) (N := 2) i_X2_mend_X2 0 rfl rfl 0 (by decide) f_X2_mend_9 rfl dX2_mend_75 ?_
                    refine lv_iload_n S.1 S.2.1 dX2_mend_78 rfl (lv_at hl 4 rfl) ?_
                    obtain ⟨j_hi, hj_hi, ej_hi⟩ := hhi.resolve_left c_23
                    refine y_top (y := (nI j_hi)) (ej_hi) ?_
                    refine y_iald S hw 1 (k := j_hi) rfl (by omega) (Nat.le_of_ble_eq_true rfl) dX2_mend_79 ?_
                    refine y_top (y := (u 8 hi.toNatClampNeg)) (by rw [ej_hi, nI_clamp (by omega)]) ?_
                    refine lv_icmp_ge (tgt := 86) S.1 S.2.1 dX2_mend_80 (by decide) (fun c_24 => ?_) (fun c_24 => ?_)
                    · skip
                      refine lv_iinc (v := (nI (i + 1))) (lv' := [(4, .int (nI (i + 1))), (2, .int (nI i)), (5, .int ((u 8) i)), (0, .ref (q 4)), (1, .int o), (3, .int hi)]) S.1 S.2.1 dX2_mend_86 hl (k := 5) rfl (by first | exact nI_1 _ | exact nI_add _ _) (by decide) rfl (fun ls hl => ?_)
                      refine lv_goto (tgt := 7) S.1 S.2.1 dX2_mend_89 (by decide) ?_
                      exact ih7 (i + 1) (nI i) hi (by omega) (by rw [jML, ← hv]; simp only [jMS, jLo, jHi, c_1, c_15, c_16, c_17, c_21, c_22, c_23, c_24, not_false_eq_true, not_true_eq_false, ↓reduceIte]) (by first | exact hlo | exact Or.inr ⟨i, by omega, rfl⟩) (by first | exact hhi | exact Or.inr ⟨i, by omega, rfl⟩) (by omega) _ _ ls hw (lv_sub hl [3, 4, 1, 5, 0] rfl)
                    · skip
                      refine lv_iload S.1 S.2.1 dX2_mend_83 (lv_at hl 5 rfl) ?_
                      refine lv_istore_n (lv' := [(3, .int (nI i)), (2, .int (nI i)), (5, .int ((u 8) i)), (0, .ref (q 4)), (1, .int o), (4, .int (nI i))]) S.1 S.2.1 dX2_mend_85 rfl hl (by decide) rfl (fun ls hl => ?_)
                      refine lv_iinc (v := (nI (i + 1))) (lv' := [(4, .int (nI (i + 1))), (3, .int (nI i)), (2, .int (nI i)), (5, .int ((u 8) i)), (0, .ref (q 4)), (1, .int o)]) S.1 S.2.1 dX2_mend_86 hl (k := 5) rfl (by first | exact nI_1 _ | exact nI_add _ _) (by decide) rfl (fun ls hl => ?_)
                      refine lv_goto (tgt := 7) S.1 S.2.1 dX2_mend_89 (by decide) ?_
                      exact ih7 (i + 1) (nI i) (nI i) (by omega) (by rw [jML, ← hv]; simp only [jMS, jLo, jHi, c_1, c_15, c_16, c_17, c_21, c_22, c_23, c_24, not_false_eq_true, not_true_eq_false, ↓reduceIte]) (by first | exact hlo | exact Or.inr ⟨i, by omega, rfl⟩) (by first | exact hhi | exact Or.inr ⟨i, by omega, rfl⟩) (by omega) _ _ ls hw (lv_sub hl [4, 5, 2, 1, 0] rfl)
              · skip
                refine lv_iload S.1 S.2.1 dX2_mend_47 (lv_at hl 0 rfl) ?_
                refine lv_aload_n S.1 S.2.1 dX2_mend_49 rfl (lv_at hl 1 rfl) ?_
                refine y_get S hw (C := RX2) (T := TX2) (N := 2) i_X2_mend_X2 0 rfl rfl 0 (by decide) f_X2_mend_9 rfl dX2_mend_50 ?_
                refine lv_iload_n S.1 S.2.1 dX2_mend_53 rfl (lv_at hl 3 rfl) ?_
                obtain ⟨j_lo, hj_lo, ej_lo⟩ := hlo.resolve_left c_21
                refine y_top (y := (nI j_lo)) (ej_lo) ?_
                refine y_iald S hw 1 (k := j_lo) rfl (by omega) (Nat.le_of_ble_eq_true rfl) dX2_mend_54 ?_
                refine y_top (y := (u 8 lo.toNatClampNeg)) (by rw [ej_lo, nI_clamp (by omega)]) ?_
                refine lv_icmp_le (tgt := 61) S.1 S.2.1 dX2_mend_55 (by decide) (fun c_25 => ?_) (fun c_25 => ?_)
                · skip
                  refine lv_iload S.1 S.2.1 dX2_mend_61 (lv_at hl 0 rfl) ?_
                  refine lv_iload_n S.1 S.2.1 dX2_mend_63 rfl (lv_at hl 2 rfl) ?_
                  refine lv_icmp_lt (tgt := 86) S.1 S.2.1 dX2_mend_64 (by decide) (fun c_26 => ?_) (fun c_26 => ?_)
                  · skip
                    refine lv_iinc (v := (nI (i + 1))) (lv' := [(4, .int (nI (i + 1))), (5, .int ((u 8) i)), (0, .ref (q 4)), (1, .int o), (2, .int lo), (3, .int hi)]) S.1 S.2.1 dX2_mend_86 hl (k := 5) rfl (by first | exact nI_1 _ | exact nI_add _ _) (by decide) rfl (fun ls hl => ?_)
                    refine lv_goto (tgt := 7) S.1 S.2.1 dX2_mend_89 (by decide) ?_
                    exact ih7 (i + 1) lo hi (by omega) (by rw [jML, ← hv]; simp only [jMS, jLo, jHi, c_1, c_15, c_16, c_17, c_21, c_25, c_26, not_false_eq_true, not_true_eq_false, ↓reduceIte]) (by first | exact hlo | exact Or.inr ⟨i, by omega, rfl⟩) (by first | exact hhi | exact Or.inr ⟨i, by omega, rfl⟩) (by omega) _ _ ls hw (lv_sub hl [2, 3, 4, 5, 0] rfl)
                  · skip
                    refine lv_iload_n S.1 S.2.1 dX2_mend_67 rfl (lv_at hl 4 rfl) ?_
                    refine lv_iconst (v := (-1)) S.1 S.2.1 dX2_mend_68 (by decide) ?_
                    refine lv_icmp_eq (tgt := 83) S.1 S.2.1 dX2_mend_69 (by decide) (fun c_27 => ?_) (fun c_27 => ?_)
                    · skip
                      refine lv_iload S.1 S.2.1 dX2_mend_83 (lv_at hl 5 rfl) ?_
                      refine lv_istore_n (lv' := [(3, .int (nI i)), (5, .int ((u 8) i)), (0, .ref (q 4)), (1, .int o), (2, .int lo), (4, .int (nI i))]) S.1 S.2.1 dX2_mend_85 rfl hl (by decide) rfl (fun ls hl => ?_)
                      refine lv_iinc (v := (nI (i + 1))) (lv' := [(4, .int (nI (i + 1))), (3, .int (nI i)), (5, .int ((u 8) i)), (0, .ref (q 4)), (1, .int o), (2, .int lo)]) S.1 S.2.1 dX2_mend_86 hl (k := 5) rfl (by first | exact nI_1 _ | exact nI_add _ _) (by decide) rfl (fun ls hl => ?_)
                      refine lv_goto (tgt := 7) S.1 S.2.1 dX2_mend_89 (by decide) ?_
                      exact ih7 (i + 1) lo (nI i) (by omega) (by rw [jML, ← hv]; simp only [jMS, jLo, jHi, c_1, c_15, c_16, c_17, c_21, c_25, c_26, c_27, not_false_eq_true, not_true_eq_false, ↓reduceIte]) (by first | exact hlo | exact Or.inr ⟨i, by omega, rfl⟩) (by first | exact hhi | exact Or.inr ⟨i, by omega, rfl⟩) (by omega) _ _ ls hw (lv_sub hl [3, 4, 5, 1, 0] rfl)
                    · skip
                      refine lv_iload S.1 S.2.1 dX2_mend_72 (lv_at hl 0 rfl) ?_
                      refine lv_aload_n S.1 S.2.1 dX2_mend_74 rfl (lv_at hl 1 rfl) ?_
                      refine y_get S hw (C := RX2) (T := TX2) (N := 2) i_X2_mend_X2 0 rfl rfl 0 (by decide) f_X2_mend_9 rfl dX2_mend_75 ?_
                      refine lv_iload_n S.1 S.2.1 dX2_mend_78 rfl (lv_at hl 4 rfl) ?_
                      obtain ⟨j_hi, hj_hi, ej_hi⟩ := hhi.resolve_left c_27
                      refine y_top (y := (nI j_hi)) (ej_hi) ?_
                      refine y_iald S hw 1 (k := j_hi) rfl (by omega) (Nat.le_of_ble_eq_true rfl) dX2_mend_79 ?_
                      refine y_top (y := (u 8 hi.toNatClampNeg)) (by rw [ej_hi, nI_clamp (by omega)]) ?_
                      refine lv_icmp_ge (tgt := 86) S.1 S.2.1 dX2_mend_80 (by decide) (fun c_28 => ?_) (fun c_28 => ?_)
                      · skip
                        refine lv_iinc (v := (nI (i + 1))) (lv' := [(4, .int (nI (i + 1))), (5, .int ((u 8) i)), (0, .ref (q 4)), (1, .int o), (2, .int lo), (3, .int hi)]) S.1 S.2.1 dX2_mend_86 hl (k := 5) rfl (by first | exact nI_1 _ | exact nI_add _ _) (by decide) rfl (fun ls hl => ?_)
                        refine lv_goto (tgt := 7) S.1 S.2.1 dX2_mend_89 (by decide) ?_
                        exact ih7 (i + 1) lo hi (by omega) (by rw [jML, ← hv]; simp only [jMS, jLo, jHi, c_1, c_15, c_16, c_17, c_21, c_25, c_26, c_27, c_28, not_false_eq_true, not_true_eq_false, ↓reduceIte]) (by first | exact hlo | exact Or.inr ⟨i, by omega, rfl⟩) (by first | exact hhi | exact Or.inr ⟨i, by omega, rfl⟩) (by omega) _ _ ls hw (lv_sub hl [2, 3, 4, 5, 0] rfl)
                      · skip
                        refine lv_iload S.1 S.2.1 dX2_mend_83 (lv_at hl 5 rfl) ?_
                        refine lv_istore_n (lv' := [(3, .int (nI i)), (5, .int ((u 8) i)), (0, .ref (q 4)), (1, .int o), (2, .int lo), (4, .int (nI i))]) S.1 S.2.1 dX2_mend_85 rfl hl (by decide) rfl (fun ls hl => ?_)
                        refine lv_iinc (v := (nI (i + 1))) (lv' := [(4, .int (nI (i + 1))), (3, .int (nI i)), (5, .int ((u 8) i)), (0, .ref (q 4)), (1, .int o), (2, .int lo)]) S.1 S.2.1 dX2_mend_86 hl (k := 5) rfl (by first | exact nI_1 _ | exact nI_add _ _) (by decide) rfl (fun ls hl => ?_)
                        refine lv_goto (tgt := 7) S.1 S.2.1 dX2_mend_89 (by decide) ?_
                        exact ih7 (i + 1) lo (nI i) (by omega) (by rw [jML, ← hv]; simp only [jMS, jLo, jHi, c_1, c_15, c_16, c_17, c_21, c_25, c_26, c_27, c_28, not_false_eq_true, not_true_eq_false, ↓reduceIte]) (by first | exact hlo | exact Or.inr ⟨i, by omega, rfl⟩) (by first | exact hhi | exact Or.inr ⟨i, by omega, rfl⟩) (by omega) _ _ ls hw (lv_sub hl [3, 4, 5, 1, 0] rfl)
                · skip
                  refine lv_iload S.1 S.2.1 dX2_mend_58 (lv_at hl 5 rfl) ?_
                  refine lv_istore_n (lv' := [(2, .int (nI i)), (5, .int ((u 8) i)), (0, .ref (q 4)), (1, .int o), (3, .int hi), (4, .int (nI i))]) S.1 S.2.1 dX2_mend_60 rfl hl (by decide) rfl (fun ls hl => ?_)
                  refine lv_iload S.1 S.2.1 dX2_mend_61 (lv_at hl 1 rfl) ?_
                  refine lv_iload_n S.1 S.2.1 dX2_mend_63 rfl (lv_at hl 3 rfl) ?_
                  refine lv_icmp_lt (tgt := 86) S.1 S.2.1 dX2_mend_64 (by decide) (fun c_29 => ?_) (fun c_29 => ?_)
                  · skip
                    refine lv_iinc (v := (nI (i + 1))) (lv' := [(4, .int (nI (i + 1))), (2, .int (nI i)), (5, .int ((u 8) i)), (0, .ref (q 4)), (1, .int o), (3, .int hi)]) S.1 S.2.1 dX2_mend_86 hl (k := 5) rfl (by first | exact nI_1 _ | exact nI_add _ _) (by decide) rfl (fun ls hl => ?_)
                    refine lv_goto (tgt := 7) S.1 S.2.1 dX2_mend_89 (by decide) ?_
                    exact ih7 (i + 1) (nI i) hi (by omega) (by rw [jML, ← hv]; simp only [jMS, jLo, jHi, c_1, c_15, c_16, c_17, c_21, c_25, c_29, not_false_eq_true, not_true_eq_false, ↓reduceIte]) (by first | exact hlo | exact Or.inr ⟨i, by omega, rfl⟩) (by first | exact hhi | exact Or.inr ⟨i, by omega, rfl⟩) (by omega) _ _ ls hw (lv_sub hl [3, 4, 1, 5, 0] rfl)
                  · skip
                    refine lv_iload_n S.1 S.2.1 dX2_mend_67 rfl (lv_at hl 4 rfl) ?_
                    refine lv_iconst (v := (-1)) S.1 S.2.1 dX2_mend_68 (by decide) ?_
                    refine lv_icmp_eq (tgt := 83) S.1 S.2.1 dX2_mend_69 (by decide) (fun c_30 => ?_) (fun c_30 => ?_)
                    · skip
                      refine lv_iload S.1 S.2.1 dX2_mend_83 (lv_at hl 5 rfl) ?_
                      refine lv_istore_n (lv' := [(3, .int (nI i)), (2, .int (nI i)), (5, .int ((u 8) i)), (0, .ref (q 4)), (1, .int o), (4, .int (nI i))]) S.1 S.2.1 dX2_mend_85 rfl hl (by decide) rfl (fun ls hl => ?_)
                      refine lv_iinc (v := (nI (i + 1))) (lv' := [(4, .int (nI (i + 1))), (3, .int (nI i)), (2, .int (nI i)), (5, .int ((u 8) i)), (0, .ref (q 4)), (1, .int o)]) S.1 S.2.1 dX2_mend_86 hl (k := 5) rfl (by first | exact nI_1 _ | exact nI_add _ _) (by decide) rfl (fun ls hl => ?_)
                      refine lv_goto (tgt := 7) S.1 S.2.1 dX2_mend_89 (by decide) ?_
                      exact ih7 (i + 1) (nI i) (nI i) (by omega) (by rw [jML, ← hv]; simp only [jMS, jLo, jHi, c_1, c_15, c_16, c_17, c_21, c_25, c_29, c_30, not_false_eq_true, not_true_eq_false, ↓reduceIte]) (by first | exact hlo | exact Or.inr ⟨i, by omega, rfl⟩) (by first | exact hhi | exact Or.inr ⟨i, by omega, rfl⟩) (by omega) _ _ ls hw (lv_sub hl [4, 5, 2, 1, 0] rfl)
                    · skip
                      refine lv_iload S.1 S.2.1 dX2_mend_72 (lv_at hl 1 rfl) ?_
                      refine lv_aload_n S.1 S.2.1 dX2_mend_74 rfl (lv_at hl 2 rfl) ?_
                      refine y_get S hw (C := RX2) (T := TX2) (N := 2) i_X2_mend_X2 0 rfl rfl 0 (by decide) f_X2_mend_9 rfl dX2_mend_75 ?_
                      refine lv_iload_n S.1 S.2.1 dX2_mend_78 rfl (lv_at hl 4 rfl) ?_
                      obtain ⟨j_hi, hj_hi, ej_hi⟩ := hhi.resolve_left c_30
                      refine y_top (y := (nI j_hi)) (ej_hi) ?_
                      refine y_iald S hw 1 (k := j_hi) rfl (by omega) (Nat.le_of_ble_eq_true rfl) dX2_mend_79 ?_
                      refine y_top (y := (u 8 hi.toNatClampNeg)) (by rw [ej_hi, nI_clamp (by omega)]) ?_
                      refine lv_icmp_ge (tgt := 86) S.1 S.2.1 dX2_mend_80 (by decide) (fun c_31 => ?_) (fun c_31 => ?_)
                      · skip
                        refine lv_iinc (v := (nI (i + 1))) (lv' := [(4, .int (nI (i + 1))), (2, .int (nI i)), (5, .int ((u 8) i)), (0, .ref (q 4)), (1, .int o), (3, .int hi)]) S.1 S.2.1 dX2_mend_86 hl (k := 5) rfl (by first | exact nI_1 _ | exact nI_add _ _) (by decide) rfl (fun ls hl => ?_)
                        refine lv_goto (tgt := 7) S.1 S.2.1 dX2_mend_89 (by decide) ?_
                        exact ih7 (i + 1) (nI i) hi (by omega) (by rw [jML, ← hv]; simp only [jMS, jLo, jHi, c_1, c_15, c_16, c_17, c_21, c_25, c_29, c_30, c_31, not_false_eq_true, not_true_eq_false, ↓reduceIte]) (by first | exact hlo | exact Or.inr ⟨i, by omega, rfl⟩) (by first | exact hhi | exact Or.inr ⟨i, by omega, rfl⟩) (by omega) _ _ ls hw (lv_sub hl [3, 4, 1, 5, 0] rfl)
                      · skip
                        refine lv_iload S.1 S.2.1 dX2_mend_83 (lv_at hl 5 rfl) ?_
                        refine lv_istore_n (lv' := [(3, .int (nI i)), (2, .int (nI i)), (5, .int ((u 8) i)), (0, .ref (q 4)), (1, .int o), (4, .int (nI i))]) S.1 S.2.1 dX2_mend_85 rfl hl (by decide) rfl (fun ls hl => ?_)
                        refine lv_iinc (v := (nI (i + 1))) (lv' := [(4, .int (nI (i + 1))), (3, .int (nI i)), (2, .int (nI i)), (5, .int ((u 8) i)), (0, .ref (q 4)), (1, .int o)]) S.1 S.2.1 dX2_mend_86 hl (k := 5) rfl (by first | exact nI_1 _ | exact nI_add _ _) (by decide) rfl (fun ls hl => ?_)
                        refine lv_goto (tgt := 7) S.1 S.2.1 dX2_mend_89 (by decide) ?_
                        exact ih7 (i + 1) (nI i) (nI i) (by omega) (by rw [jML, ← hv]; simp only [jMS, jLo, jHi, c_1, c_15, c_16, c_17, c_21, c_25, c_29, c_30, c_31, not_false_eq_true, not_true_eq_false, ↓reduceIte]) (by first | exact hlo | exact Or.inr ⟨i, by omega, rfl⟩) (by first | exact hhi | exact Or.inr ⟨i, by omega, rfl⟩) (by omega) _ _ ls hw (lv_sub hl [4, 5, 2, 1, 0] rfl)
  exact lp7 ((3 - 0) + 1) 0 (-1) (-1) (Nat.zero_le _) (rfl) (Or.inl rfl) (Or.inl rfl) (Nat.lt_succ_self _) _ _ ls hw (lv_sub hl [3, 4, 2, 1, 0] rfl)
end
