section
-- ===== PART A: goes FIRST, ahead of the names: the tables' words, and 'selects' of the private methods out of them =====
/-- a private method of a class that the tables say can be made, by its rows of tables_1 -/
def lw_okq (q : MethodName × Nat) : Prop := (q.1.cls ≠ "java/lang/invoke/MethodHandle" ∧ q.1.cls ≠ "java/lang/invoke/VarHandle") ∧ Cond.instantiable q.1.cls q.2 ∈ tables_1 ∧ Cond.privateMethod q.1 ∈ tables_1 ∧ Cond.instanceMethod q.1 ∈ tables_1
theorem lw_p0 : lw_okq (⟨"DeviceTrials$Journal", "isOf", "(II)Z"⟩, 10) := ⟨⟨by decide +kernel, by decide +kernel⟩, List.mem_of_getElem? (i := 25) (by decide +kernel), List.mem_of_getElem? (i := 155) (by decide +kernel), List.mem_of_getElem? (i := 156) (by decide +kernel)⟩
theorem lw_p1 : lw_okq (⟨"DeviceTrials$Journal", "deviceCount", "(II)I"⟩, 10) := ⟨⟨by decide +kernel, by decide +kernel⟩, List.mem_of_getElem? (i := 25) (by decide +kernel), List.mem_of_getElem? (i := 167) (by decide +kernel), List.mem_of_getElem? (i := 168) (by decide +kernel)⟩
theorem lw_p2 : lw_okq (⟨"DeviceTrials$Journal", "plainCount", "(II)I"⟩, 10) := ⟨⟨by decide +kernel, by decide +kernel⟩, List.mem_of_getElem? (i := 25) (by decide +kernel), List.mem_of_getElem? (i := 171) (by decide +kernel), List.mem_of_getElem? (i := 172) (by decide +kernel)⟩
theorem lw_p3 : lw_okq (⟨"java/lang/Throwable", "fillInStackTrace", "(I)Ljava/lang/Throwable;"⟩, 6) := ⟨⟨by decide +kernel, by decide +kernel⟩, List.mem_of_getElem? (i := 235) (by decide +kernel), List.mem_of_getElem? (i := 233) (by decide +kernel), List.mem_of_getElem? (i := 234) (by decide +kernel)⟩
theorem lw_p4 : lw_okq (⟨"DeviceTrials$Journal", "drawArm", "()Z"⟩, 10) := ⟨⟨by decide +kernel, by decide +kernel⟩, List.mem_of_getElem? (i := 25) (by decide +kernel), List.mem_of_getElem? (i := 285) (by decide +kernel), List.mem_of_getElem? (i := 286) (by decide +kernel)⟩
theorem lw_p5 : lw_okq (⟨"DeviceTrials$Journal", "addPair", "(III)V"⟩, 10) := ⟨⟨by decide +kernel, by decide +kernel⟩, List.mem_of_getElem? (i := 25) (by decide +kernel), List.mem_of_getElem? (i := 291) (by decide +kernel), List.mem_of_getElem? (i := 292) (by decide +kernel)⟩
theorem lw_p6 : lw_okq (⟨"DeviceTrials", "needHaul", "(I)V"⟩, 5) := ⟨⟨by decide +kernel, by decide +kernel⟩, List.mem_of_getElem? (i := 17) (by decide +kernel), List.mem_of_getElem? (i := 303) (by decide +kernel), List.mem_of_getElem? (i := 304) (by decide +kernel)⟩
theorem lw_p7 : lw_okq (⟨"DeviceTrials", "needPair", "(I)V"⟩, 5) := ⟨⟨by decide +kernel, by decide +kernel⟩, List.mem_of_getElem? (i := 17) (by decide +kernel), List.mem_of_getElem? (i := 358) (by decide +kernel), List.mem_of_getElem? (i := 359) (by decide +kernel)⟩
theorem lw_p8 : lw_okq (⟨"DeviceTrials$Choices", "fillSums", "([III)I"⟩, 6) := ⟨⟨by decide +kernel, by decide +kernel⟩, List.mem_of_getElem? (i := 80) (by decide +kernel), List.mem_of_getElem? (i := 414) (by decide +kernel), List.mem_of_getElem? (i := 415) (by decide +kernel)⟩
theorem lw_p9 : lw_okq (⟨"DeviceTrials$Choices", "addWeight", "([III)V"⟩, 6) := ⟨⟨by decide +kernel, by decide +kernel⟩, List.mem_of_getElem? (i := 80) (by decide +kernel), List.mem_of_getElem? (i := 418) (by decide +kernel), List.mem_of_getElem? (i := 419) (by decide +kernel)⟩
theorem lw_p10 : lw_okq (⟨"DeviceTrialsModel", "by", "(II)I"⟩, 17) := ⟨⟨by decide +kernel, by decide +kernel⟩, List.mem_of_getElem? (i := 546) (by decide +kernel), List.mem_of_getElem? (i := 641) (by decide +kernel), List.mem_of_getElem? (i := 642) (by decide +kernel)⟩
theorem lw_p11 : lw_okq (⟨"DeviceTrialsModel", "keptOf", "(I)I"⟩, 17) := ⟨⟨by decide +kernel, by decide +kernel⟩, List.mem_of_getElem? (i := 546) (by decide +kernel), List.mem_of_getElem? (i := 649) (by decide +kernel), List.mem_of_getElem? (i := 650) (by decide +kernel)⟩
theorem lw_p12 : lw_okq (⟨"DeviceTrialsModel", "isKept", "(II)Z"⟩, 17) := ⟨⟨by decide +kernel, by decide +kernel⟩, List.mem_of_getElem? (i := 546) (by decide +kernel), List.mem_of_getElem? (i := 653) (by decide +kernel), List.mem_of_getElem? (i := 654) (by decide +kernel)⟩
theorem lw_p13 : lw_okq (⟨"DeviceTrialsModel", "sumOf", "(I)I"⟩, 17) := ⟨⟨by decide +kernel, by decide +kernel⟩, List.mem_of_getElem? (i := 546) (by decide +kernel), List.mem_of_getElem? (i := 661) (by decide +kernel), List.mem_of_getElem? (i := 662) (by decide +kernel)⟩
theorem lw_p14 : lw_okq (⟨"DeviceTrialsModel", "rankOf", "(II)I"⟩, 17) := ⟨⟨by decide +kernel, by decide +kernel⟩, List.mem_of_getElem? (i := 546) (by decide +kernel), List.mem_of_getElem? (i := 676) (by decide +kernel), List.mem_of_getElem? (i := 677) (by decide +kernel)⟩
theorem lw_p15 : lw_okq (⟨"DeviceTrialsModel", "isRanked", "(II)Z"⟩, 17) := ⟨⟨by decide +kernel, by decide +kernel⟩, List.mem_of_getElem? (i := 546) (by decide +kernel), List.mem_of_getElem? (i := 680) (by decide +kernel), List.mem_of_getElem? (i := 681) (by decide +kernel)⟩
def lw_privs_1 : List (MethodName × Nat) := [(⟨"DeviceTrials$Journal", "isOf", "(II)Z"⟩, 10), (⟨"DeviceTrials$Journal", "deviceCount", "(II)I"⟩, 10), (⟨"DeviceTrials$Journal", "plainCount", "(II)I"⟩, 10), (⟨"java/lang/Throwable", "fillInStackTrace", "(I)Ljava/lang/Throwable;"⟩, 6), (⟨"DeviceTrials$Journal", "drawArm", "()Z"⟩, 10), (⟨"DeviceTrials$Journal", "addPair", "(III)V"⟩, 10), (⟨"DeviceTrials", "needHaul", "(I)V"⟩, 5), (⟨"DeviceTrials", "needPair", "(I)V"⟩, 5), (⟨"DeviceTrials$Choices", "fillSums", "([III)I"⟩, 6), (⟨"DeviceTrials$Choices", "addWeight", "([III)V"⟩, 6), (⟨"DeviceTrialsModel", "by", "(II)I"⟩, 17), (⟨"DeviceTrialsModel", "keptOf", "(I)I"⟩, 17), (⟨"DeviceTrialsModel", "isKept", "(II)Z"⟩, 17), (⟨"DeviceTrialsModel", "sumOf", "(I)I"⟩, 17), (⟨"DeviceTrialsModel", "rankOf", "(II)I"⟩, 17), (⟨"DeviceTrialsModel", "isRanked", "(II)Z"⟩, 17)]
theorem lw_r1 : ∀ q ∈ lw_privs_1, lw_okq q := List.forall_mem_cons.mpr ⟨lw_p0, List.forall_mem_cons.mpr ⟨lw_p1, List.forall_mem_cons.mpr ⟨lw_p2, List.forall_mem_cons.mpr ⟨lw_p3, List.forall_mem_cons.mpr ⟨lw_p4, List.forall_mem_cons.mpr ⟨lw_p5, List.forall_mem_cons.mpr ⟨lw_p6, List.forall_mem_cons.mpr ⟨lw_p7, List.forall_mem_cons.mpr ⟨lw_p8, List.forall_mem_cons.mpr ⟨lw_p9, List.forall_mem_cons.mpr ⟨lw_p10, List.forall_mem_cons.mpr ⟨lw_p11, List.forall_mem_cons.mpr ⟨lw_p12, List.forall_mem_cons.mpr ⟨lw_p13, List.forall_mem_cons.mpr ⟨lw_p14, List.forall_mem_cons.mpr ⟨lw_p15, fun _ h => absurd h List.not_mem_nil⟩⟩⟩⟩⟩⟩⟩⟩⟩⟩⟩⟩⟩⟩⟩⟩
theorem lw_p16 : lw_okq (⟨"DeviceTrialsModel", "cross", "(III)J"⟩, 17) := ⟨⟨by decide +kernel, by decide +kernel⟩, List.mem_of_getElem? (i := 546) (by decide +kernel), List.mem_of_getElem? (i := 703) (by decide +kernel), List.mem_of_getElem? (i := 704) (by decide +kernel)⟩
theorem lw_p17 : lw_okq (⟨"DeviceTrialsModel", "keptOfShip", "(II)I"⟩, 17) := ⟨⟨by decide +kernel, by decide +kernel⟩, List.mem_of_getElem? (i := 546) (by decide +kernel), List.mem_of_getElem? (i := 715) (by decide +kernel), List.mem_of_getElem? (i := 716) (by decide +kernel)⟩
theorem lw_p18 : lw_okq (⟨"DeviceTrialsModel", "areUnlike", "(I)Z"⟩, 17) := ⟨⟨by decide +kernel, by decide +kernel⟩, List.mem_of_getElem? (i := 546) (by decide +kernel), List.mem_of_getElem? (i := 731) (by decide +kernel), List.mem_of_getElem? (i := 732) (by decide +kernel)⟩
def lw_privs_2 : List (MethodName × Nat) := [(⟨"DeviceTrialsModel", "cross", "(III)J"⟩, 17), (⟨"DeviceTrialsModel", "keptOfShip", "(II)I"⟩, 17), (⟨"DeviceTrialsModel", "areUnlike", "(I)Z"⟩, 17)]
theorem lw_r2 : ∀ q ∈ lw_privs_2, lw_okq q := List.forall_mem_cons.mpr ⟨lw_p16, List.forall_mem_cons.mpr ⟨lw_p17, List.forall_mem_cons.mpr ⟨lw_p18, fun _ h => absurd h List.not_mem_nil⟩⟩⟩
def lw_privs : List (MethodName × Nat) := lw_privs_1 ++ (lw_privs_2)
def lw_tbl : List Cond := k2_sels lw_privs ++ tables_1
theorem lw_privs_ok : ∀ q ∈ lw_privs, lw_okq q := by
  show ∀ q ∈ lw_privs_1 ++ (lw_privs_2), lw_okq q
  exact List.forall_mem_append.mpr ⟨lw_r1, lw_r2⟩
end
section
/-! Names of classes, codes and methods, by a program (wip/whole/gen/names.py). -/
def n_D : String := "DeviceTrials"
def n_J : String := "DeviceTrials$Journal"
def n_C : String := "DeviceTrials$Camera"
def n_H : String := "DeviceTrials$Choices"
def n_K : String := "DeviceTrials$Walk"
def n_M : String := "DeviceTrialsModel"
def n_L : String := "DeviceTrialsLaw"
abbrev c_D_init : ByteArray := prog_1_method_1_code
def y_D_init : MethodName := ⟨n_D, "<init>", "(I)V"⟩
abbrev w_D_init : Cond := .code y_D_init c_D_init 2 none
abbrev c_D_haul : ByteArray := prog_1_method_2_code
def y_D_haul : MethodName := ⟨n_D, "haul", "(I)I"⟩
abbrev w_D_haul : Cond := .code y_D_haul c_D_haul 2 (some .int)
abbrev c_D_caught : ByteArray := prog_1_method_3_code
def y_D_caught : MethodName := ⟨n_D, "caught", "(III)Z"⟩
abbrev w_D_caught : Cond := .code y_D_caught c_D_caught 4 (some .boolean)
abbrev c_D_out : ByteArray := prog_1_method_4_code
def y_D_out : MethodName := ⟨n_D, "out", "(IZ)Z"⟩
abbrev w_D_out : Cond := .code y_D_out c_D_out 3 (some .boolean)
abbrev c_D_arm : ByteArray := prog_1_method_5_code
def y_D_arm : MethodName := ⟨n_D, "arm", "(I)I"⟩
abbrev w_D_arm : Cond := .code y_D_arm c_D_arm 2 (some .int)
abbrev c_D_pair : ByteArray := prog_1_method_6_code
def y_D_pair : MethodName := ⟨n_D, "pair", "(II)I"⟩
abbrev w_D_pair : Cond := .code y_D_pair c_D_pair 3 (some .int)
abbrev c_D_pairs : ByteArray := prog_1_method_7_code
def y_D_pairs : MethodName := ⟨n_D, "pairs", "()I"⟩
abbrev w_D_pairs : Cond := .code y_D_pairs c_D_pairs 1 (some .int)
abbrev c_D_difference : ByteArray := prog_1_method_8_code
def y_D_difference : MethodName := ⟨n_D, "difference", "(II)I"⟩
abbrev w_D_difference : Cond := .code y_D_difference c_D_difference 3 (some .int)
abbrev c_D_kept : ByteArray := prog_1_method_9_code
def y_D_kept : MethodName := ⟨n_D, "kept", "(I)I"⟩
abbrev w_D_kept : Cond := .code y_D_kept c_D_kept 2 (some .int)
abbrev c_D_sum : ByteArray := prog_1_method_10_code
def y_D_sum : MethodName := ⟨n_D, "sum", "(I)I"⟩
abbrev w_D_sum : Cond := .code y_D_sum c_D_sum 2 (some .int)
abbrev c_D_odds : ByteArray := prog_1_method_11_code
def y_D_odds : MethodName := ⟨n_D, "odds", "(II)J"⟩
abbrev w_D_odds : Cond := .code y_D_odds c_D_odds 5 (some .long)
abbrev c_D_rank : ByteArray := prog_1_method_12_code
def y_D_rank : MethodName := ⟨n_D, "rank", "(II)I"⟩
abbrev w_D_rank : Cond := .code y_D_rank c_D_rank 3 (some .int)
abbrev c_D_rankOdds : ByteArray := prog_1_method_13_code
def y_D_rankOdds : MethodName := ⟨n_D, "rankOdds", "(II)J"⟩
abbrev w_D_rankOdds : Cond := .code y_D_rankOdds c_D_rankOdds 5 (some .long)
abbrev c_D_stopped : ByteArray := prog_1_method_14_code
def y_D_stopped : MethodName := ⟨n_D, "stopped", "(III)I"⟩
abbrev w_D_stopped : Cond := .code y_D_stopped c_D_stopped 6 (some .int)
abbrev c_D_crossing : ByteArray := prog_1_method_15_code
def y_D_crossing : MethodName := ⟨n_D, "crossing", "(IIII)J"⟩
abbrev w_D_crossing : Cond := .code y_D_crossing c_D_crossing 6 (some .long)
abbrev c_D_least : ByteArray := prog_1_method_16_code
def y_D_least : MethodName := ⟨n_D, "least", "(IIII)I"⟩
abbrev w_D_least : Cond := .code y_D_least c_D_least 6 (some .int)
abbrev c_D_mean : ByteArray := prog_1_method_17_code
def y_D_mean : MethodName := ⟨n_D, "mean", "(III)J"⟩
abbrev w_D_mean : Cond := .code y_D_mean c_D_mean 4 (some .long)
abbrev c_D_weight : ByteArray := prog_1_method_18_code
def y_D_weight : MethodName := ⟨n_D, "weight", "(III)J"⟩
abbrev w_D_weight : Cond := .code y_D_weight c_D_weight 4 (some .long)
abbrev c_D_joined : ByteArray := prog_1_method_19_code
def y_D_joined : MethodName := ⟨n_D, "joined", "(II)J"⟩
abbrev w_D_joined : Cond := .code y_D_joined c_D_joined 3 (some .long)
abbrev c_D_reader : ByteArray := prog_1_method_20_code
def y_D_reader : MethodName := ⟨n_D, "reader", "(III)Z"⟩
abbrev w_D_reader : Cond := .code y_D_reader c_D_reader 4 (some .boolean)
abbrev c_D_unlike : ByteArray := prog_1_method_21_code
def y_D_unlike : MethodName := ⟨n_D, "unlike", "(I)I"⟩
abbrev w_D_unlike : Cond := .code y_D_unlike c_D_unlike 3 (some .int)
abbrev c_D_price : ByteArray := prog_1_method_22_code
def y_D_price : MethodName := ⟨n_D, "price", "(II)V"⟩
abbrev w_D_price : Cond := .code y_D_price c_D_price 3 none
abbrev c_D_lost : ByteArray := prog_1_method_23_code
def y_D_lost : MethodName := ⟨n_D, "lost", "()J"⟩
abbrev w_D_lost : Cond := .code y_D_lost c_D_lost 4 (some .long)
abbrev c_D_needIndex : ByteArray := prog_1_method_24_code
def y_D_needIndex : MethodName := ⟨n_D, "needIndex", "(II)V"⟩
abbrev w_D_needIndex : Cond := .code y_D_needIndex c_D_needIndex 2 none
abbrev c_D_needShip : ByteArray := prog_1_method_25_code
def y_D_needShip : MethodName := ⟨n_D, "needShip", "(I)V"⟩
abbrev w_D_needShip : Cond := .code y_D_needShip c_D_needShip 1 none
abbrev c_D_needKind : ByteArray := prog_1_method_26_code
def y_D_needKind : MethodName := ⟨n_D, "needKind", "(I)V"⟩
abbrev w_D_needKind : Cond := .code y_D_needKind c_D_needKind 1 none
abbrev c_D_needPart : ByteArray := prog_1_method_27_code
def y_D_needPart : MethodName := ⟨n_D, "needPart", "(I)V"⟩
abbrev w_D_needPart : Cond := .code y_D_needPart c_D_needPart 1 none
abbrev c_D_needHaul : ByteArray := prog_1_method_28_code
def y_D_needHaul : MethodName := ⟨n_D, "needHaul", "(I)V"⟩
abbrev w_D_needHaul : Cond := .code y_D_needHaul c_D_needHaul 2 none
abbrev c_D_needPair : ByteArray := prog_1_method_29_code
def y_D_needPair : MethodName := ⟨n_D, "needPair", "(I)V"⟩
abbrev w_D_needPair : Cond := .code y_D_needPair c_D_needPair 2 none
abbrev c_D_needNumber : ByteArray := prog_1_method_30_code
def y_D_needNumber : MethodName := ⟨n_D, "needNumber", "(III)V"⟩
abbrev w_D_needNumber : Cond := .code y_D_needNumber c_D_needNumber 3 none
abbrev c_D_needBounds : ByteArray := prog_1_method_31_code
def y_D_needBounds : MethodName := ⟨n_D, "needBounds", "(II)V"⟩
abbrev w_D_needBounds : Cond := .code y_D_needBounds c_D_needBounds 2 none
abbrev c_D_toldPart : ByteArray := prog_1_method_32_code
def y_D_toldPart : MethodName := ⟨n_D, "toldPart", "(JJI)J"⟩
abbrev w_D_toldPart : Cond := .code y_D_toldPart c_D_toldPart 7 (some .long)
abbrev c_D_commonDivisor : ByteArray := prog_1_method_33_code
def y_D_commonDivisor : MethodName := ⟨n_D, "commonDivisor", "(JJ)J"⟩
abbrev w_D_commonDivisor : Cond := .code y_D_commonDivisor c_D_commonDivisor 11 (some .long)
abbrev c_J_init : ByteArray := prog_4_method_1_code
def y_J_init : MethodName := ⟨n_J, "<init>", "(I)V"⟩
abbrev w_J_init : Cond := .code y_J_init c_J_init 3 none
abbrev c_J_addHaul : ByteArray := prog_4_method_2_code
def y_J_addHaul : MethodName := ⟨n_J, "addHaul", "(I)I"⟩
abbrev w_J_addHaul : Cond := .code y_J_addHaul c_J_addHaul 4 (some .int)
abbrev c_J_drawArm : ByteArray := prog_4_method_3_code
def y_J_drawArm : MethodName := ⟨n_J, "drawArm", "()Z"⟩
abbrev w_J_drawArm : Cond := .code y_J_drawArm c_J_drawArm 1 (some .boolean)
abbrev c_J_addPair : ByteArray := prog_4_method_4_code
def y_J_addPair : MethodName := ⟨n_J, "addPair", "(III)V"⟩
abbrev w_J_addPair : Cond := .code y_J_addPair c_J_addPair 5 none
abbrev c_J_putCount : ByteArray := prog_4_method_5_code
def y_J_putCount : MethodName := ⟨n_J, "putCount", "(III)Z"⟩
abbrev w_J_putCount : Cond := .code y_J_putCount c_J_putCount 6 (some .boolean)
abbrev c_J_leaveOut : ByteArray := prog_4_method_6_code
def y_J_leaveOut : MethodName := ⟨n_J, "leaveOut", "(IZ)Z"⟩
abbrev w_J_leaveOut : Cond := .code y_J_leaveOut c_J_leaveOut 4 (some .boolean)
abbrev c_J_deviceCount : ByteArray := prog_4_method_7_code
def y_J_deviceCount : MethodName := ⟨n_J, "deviceCount", "(II)I"⟩
abbrev w_J_deviceCount : Cond := .code y_J_deviceCount c_J_deviceCount 3 (some .int)
abbrev c_J_plainCount : ByteArray := prog_4_method_8_code
def y_J_plainCount : MethodName := ⟨n_J, "plainCount", "(II)I"⟩
abbrev w_J_plainCount : Cond := .code y_J_plainCount c_J_plainCount 3 (some .int)
abbrev c_J_differenceOf : ByteArray := prog_4_method_9_code
def y_J_differenceOf : MethodName := ⟨n_J, "differenceOf", "(II)I"⟩
abbrev w_J_differenceOf : Cond := .code y_J_differenceOf c_J_differenceOf 3 (some .int)
abbrev c_J_keeps : ByteArray := prog_4_method_10_code
def y_J_keeps : MethodName := ⟨n_J, "keeps", "(II)Z"⟩
abbrev w_J_keeps : Cond := .code y_J_keeps c_J_keeps 4 (some .boolean)
abbrev c_J_keptDifference : ByteArray := prog_4_method_11_code
def y_J_keptDifference : MethodName := ⟨n_J, "keptDifference", "(II)I"⟩
abbrev w_J_keptDifference : Cond := .code y_J_keptDifference c_J_keptDifference 3 (some .int)
abbrev c_J_isOf : ByteArray := prog_4_method_12_code
def y_J_isOf : MethodName := ⟨n_J, "isOf", "(II)Z"⟩
abbrev w_J_isOf : Cond := .code y_J_isOf c_J_isOf 3 (some .boolean)
abbrev c_J_keptOf : ByteArray := prog_4_method_13_code
def y_J_keptOf : MethodName := ⟨n_J, "keptOf", "(II)I"⟩
abbrev w_J_keptOf : Cond := .code y_J_keptOf c_J_keptOf 5 (some .int)
abbrev c_J_sumOf : ByteArray := prog_4_method_14_code
def y_J_sumOf : MethodName := ⟨n_J, "sumOf", "(II)I"⟩
abbrev w_J_sumOf : Cond := .code y_J_sumOf c_J_sumOf 5 (some .int)
abbrev c_J_rankOf : ByteArray := prog_4_method_15_code
def y_J_rankOf : MethodName := ⟨n_J, "rankOf", "(II)I"⟩
abbrev w_J_rankOf : Cond := .code y_J_rankOf c_J_rankOf 7 (some .int)
abbrev c_C_init : ByteArray := prog_2_method_1_code
def y_C_init : MethodName := ⟨n_C, "<init>", "()V"⟩
abbrev w_C_init : Cond := .code y_C_init c_C_init 2 none
abbrev c_C_putReading : ByteArray := prog_2_method_2_code
def y_C_putReading : MethodName := ⟨n_C, "putReading", "(III)V"⟩
abbrev w_C_putReading : Cond := .code y_C_putReading c_C_putReading 4 none
abbrev c_C_differs : ByteArray := prog_2_method_3_code
def y_C_differs : MethodName := ⟨n_C, "differs", "(I)Z"⟩
abbrev w_C_differs : Cond := .code y_C_differs c_C_differs 4 (some .boolean)
abbrev c_H_init : ByteArray := prog_3_method_1_code
def y_H_init : MethodName := ⟨n_H, "<init>", "()V"⟩
abbrev w_H_init : Cond := .code y_H_init c_H_init 1 none
abbrev c_H_clear : ByteArray := prog_3_method_2_code
def y_H_clear : MethodName := ⟨n_H, "clear", "()V"⟩
abbrev w_H_clear : Cond := .code y_H_clear c_H_clear 1 none
abbrev c_H_add : ByteArray := prog_3_method_3_code
def y_H_add : MethodName := ⟨n_H, "add", "(IZ)V"⟩
abbrev w_H_add : Cond := .code y_H_add c_H_add 3 none
abbrev c_H_countAll : ByteArray := prog_3_method_4_code
def y_H_countAll : MethodName := ⟨n_H, "countAll", "()J"⟩
abbrev w_H_countAll : Cond := .code y_H_countAll c_H_countAll 1 (some .long)
abbrev c_H_countNotAbove : ByteArray := prog_3_method_5_code
def y_H_countNotAbove : MethodName := ⟨n_H, "countNotAbove", "()J"⟩
abbrev w_H_countNotAbove : Cond := .code y_H_countNotAbove c_H_countNotAbove 7 (some .long)
abbrev c_H_fillSums : ByteArray := prog_3_method_6_code
def y_H_fillSums : MethodName := ⟨n_H, "fillSums", "([III)I"⟩
abbrev w_H_fillSums : Cond := .code y_H_fillSums c_H_fillSums 6 (some .int)
abbrev c_H_addWeight : ByteArray := prog_3_method_7_code
def y_H_addWeight : MethodName := ⟨n_H, "addWeight", "([III)V"⟩
abbrev w_H_addWeight : Cond := .code y_H_addWeight c_H_addWeight 8 none
abbrev c_K_init : ByteArray := prog_5_method_1_code
def y_K_init : MethodName := ⟨n_K, "<init>", "()V"⟩
abbrev w_K_init : Cond := .code y_K_init c_K_init 1 none
abbrev c_K_start : ByteArray := prog_5_method_2_code
def y_K_start : MethodName := ⟨n_K, "start", "(II)V"⟩
abbrev w_K_start : Cond := .code y_K_start c_K_start 4 none
abbrev c_K_goOn : ByteArray := prog_5_method_3_code
def y_K_goOn : MethodName := ⟨n_K, "goOn", "()V"⟩
abbrev w_K_goOn : Cond := .code y_K_goOn c_K_goOn 6 none
abbrev c_M_init : ByteArray := prog_7_method_1_code
def y_M_init : MethodName := ⟨n_M, "<init>", "(I)V"⟩
abbrev w_M_init : Cond := .code y_M_init c_M_init 3 none
abbrev c_M_thrown : ByteArray := prog_7_method_2_code
def y_M_thrown : MethodName := ⟨n_M, "thrown", "()I"⟩
abbrev w_M_thrown : Cond := .code y_M_thrown c_M_thrown 1 (some .int)
abbrev c_M_isIn : ByteArray := prog_7_method_3_code
def y_M_isIn : MethodName := ⟨n_M, "isIn", "(II)Z"⟩
abbrev w_M_isIn : Cond := .code y_M_isIn c_M_isIn 2 (some .boolean)
abbrev c_M_haul : ByteArray := prog_7_method_4_code
def y_M_haul : MethodName := ⟨n_M, "haul", "(I)I"⟩
abbrev w_M_haul : Cond := .code y_M_haul c_M_haul 2 (some .int)
abbrev c_M_caught : ByteArray := prog_7_method_5_code
def y_M_caught : MethodName := ⟨n_M, "caught", "(III)Z"⟩
abbrev w_M_caught : Cond := .code y_M_caught c_M_caught 5 (some .boolean)
abbrev c_M_out : ByteArray := prog_7_method_6_code
def y_M_out : MethodName := ⟨n_M, "out", "(IZ)Z"⟩
abbrev w_M_out : Cond := .code y_M_out c_M_out 4 (some .boolean)
abbrev c_M_arm : ByteArray := prog_7_method_7_code
def y_M_arm : MethodName := ⟨n_M, "arm", "(I)I"⟩
abbrev w_M_arm : Cond := .code y_M_arm c_M_arm 2 (some .int)
abbrev c_M_pair : ByteArray := prog_7_method_8_code
def y_M_pair : MethodName := ⟨n_M, "pair", "(II)I"⟩
abbrev w_M_pair : Cond := .code y_M_pair c_M_pair 4 (some .int)
abbrev c_M_pairs : ByteArray := prog_7_method_9_code
def y_M_pairs : MethodName := ⟨n_M, "pairs", "()I"⟩
abbrev w_M_pairs : Cond := .code y_M_pairs c_M_pairs 1 (some .int)
abbrev c_M_by : ByteArray := prog_7_method_10_code
def y_M_by : MethodName := ⟨n_M, "by", "(II)I"⟩
abbrev w_M_by : Cond := .code y_M_by c_M_by 4 (some .int)
abbrev c_M_isKept : ByteArray := prog_7_method_11_code
def y_M_isKept : MethodName := ⟨n_M, "isKept", "(II)Z"⟩
abbrev w_M_isKept : Cond := .code y_M_isKept c_M_isKept 4 (some .boolean)
abbrev c_M_difference : ByteArray := prog_7_method_12_code
def y_M_difference : MethodName := ⟨n_M, "difference", "(II)I"⟩
abbrev w_M_difference : Cond := .code y_M_difference c_M_difference 3 (some .int)
abbrev c_M_keptOf : ByteArray := prog_7_method_13_code
def y_M_keptOf : MethodName := ⟨n_M, "keptOf", "(I)I"⟩
abbrev w_M_keptOf : Cond := .code y_M_keptOf c_M_keptOf 4 (some .int)
abbrev c_M_kept : ByteArray := prog_7_method_14_code
def y_M_kept : MethodName := ⟨n_M, "kept", "(I)I"⟩
abbrev w_M_kept : Cond := .code y_M_kept c_M_kept 2 (some .int)
abbrev c_M_sumOf : ByteArray := prog_7_method_15_code
def y_M_sumOf : MethodName := ⟨n_M, "sumOf", "(I)I"⟩
abbrev w_M_sumOf : Cond := .code y_M_sumOf c_M_sumOf 4 (some .int)
abbrev c_M_sum : ByteArray := prog_7_method_16_code
def y_M_sum : MethodName := ⟨n_M, "sum", "(I)I"⟩
abbrev w_M_sum : Cond := .code y_M_sum c_M_sum 2 (some .int)
abbrev c_M_part : ByteArray := prog_7_method_17_code
def y_M_part : MethodName := ⟨n_M, "part", "(JJI)J"⟩
abbrev w_M_part : Cond := .code y_M_part c_M_part 11 (some .long)
abbrev c_M_odds : ByteArray := prog_7_method_18_code
def y_M_odds : MethodName := ⟨n_M, "odds", "(II)J"⟩
abbrev w_M_odds : Cond := .code y_M_odds c_M_odds 10 (some .long)
abbrev c_M_plain : ByteArray := prog_7_method_19_code
def y_M_plain : MethodName := ⟨n_M, "plain", "(I)I"⟩
abbrev w_M_plain : Cond := .code y_M_plain c_M_plain 1 (some .int)
abbrev c_M_isRanked : ByteArray := prog_7_method_20_code
def y_M_isRanked : MethodName := ⟨n_M, "isRanked", "(II)Z"⟩
abbrev w_M_isRanked : Cond := .code y_M_isRanked c_M_isRanked 3 (some .boolean)
abbrev c_M_rankOf : ByteArray := prog_7_method_21_code
def y_M_rankOf : MethodName := ⟨n_M, "rankOf", "(II)I"⟩
abbrev w_M_rankOf : Cond := .code y_M_rankOf c_M_rankOf 6 (some .int)
abbrev c_M_rank : ByteArray := prog_7_method_22_code
def y_M_rank : MethodName := ⟨n_M, "rank", "(II)I"⟩
abbrev w_M_rank : Cond := .code y_M_rank c_M_rank 3 (some .int)
abbrev c_M_rankOdds : ByteArray := prog_7_method_23_code
def y_M_rankOdds : MethodName := ⟨n_M, "rankOdds", "(II)J"⟩
abbrev w_M_rankOdds : Cond := .code y_M_rankOdds c_M_rankOdds 10 (some .long)
abbrev c_M_isBound : ByteArray := prog_7_method_24_code
def y_M_isBound : MethodName := ⟨n_M, "isBound", "(I)Z"⟩
abbrev w_M_isBound : Cond := .code y_M_isBound c_M_isBound 1 (some .boolean)
abbrev c_M_stopped : ByteArray := prog_7_method_25_code
def y_M_stopped : MethodName := ⟨n_M, "stopped", "(III)I"⟩
abbrev w_M_stopped : Cond := .code y_M_stopped c_M_stopped 7 (some .int)
abbrev c_M_cross : ByteArray := prog_7_method_26_code
def y_M_cross : MethodName := ⟨n_M, "cross", "(III)J"⟩
abbrev w_M_cross : Cond := .code y_M_cross c_M_cross 8 (some .long)
abbrev c_M_crossing : ByteArray := prog_7_method_27_code
def y_M_crossing : MethodName := ⟨n_M, "crossing", "(IIII)J"⟩
abbrev w_M_crossing : Cond := .code y_M_crossing c_M_crossing 5 (some .long)
abbrev c_M_least : ByteArray := prog_7_method_28_code
def y_M_least : MethodName := ⟨n_M, "least", "(IIII)I"⟩
abbrev w_M_least : Cond := .code y_M_least c_M_least 6 (some .int)
abbrev c_M_keptOfShip : ByteArray := prog_7_method_29_code
def y_M_keptOfShip : MethodName := ⟨n_M, "keptOfShip", "(II)I"⟩
abbrev w_M_keptOfShip : Cond := .code y_M_keptOfShip c_M_keptOfShip 5 (some .int)
abbrev c_M_mean : ByteArray := prog_7_method_30_code
def y_M_mean : MethodName := ⟨n_M, "mean", "(III)J"⟩
abbrev w_M_mean : Cond := .code y_M_mean c_M_mean 7 (some .long)
abbrev c_M_weight : ByteArray := prog_7_method_31_code
def y_M_weight : MethodName := ⟨n_M, "weight", "(III)J"⟩
abbrev w_M_weight : Cond := .code y_M_weight c_M_weight 5 (some .long)
abbrev c_M_joined : ByteArray := prog_7_method_32_code
def y_M_joined : MethodName := ⟨n_M, "joined", "(II)J"⟩
abbrev w_M_joined : Cond := .code y_M_joined c_M_joined 4 (some .long)
abbrev c_M_areUnlike : ByteArray := prog_7_method_33_code
def y_M_areUnlike : MethodName := ⟨n_M, "areUnlike", "(I)Z"⟩
abbrev w_M_areUnlike : Cond := .code y_M_areUnlike c_M_areUnlike 4 (some .boolean)
abbrev c_M_reader : ByteArray := prog_7_method_34_code
def y_M_reader : MethodName := ⟨n_M, "reader", "(III)Z"⟩
abbrev w_M_reader : Cond := .code y_M_reader c_M_reader 4 (some .boolean)
abbrev c_M_unlike : ByteArray := prog_7_method_35_code
def y_M_unlike : MethodName := ⟨n_M, "unlike", "(I)I"⟩
abbrev w_M_unlike : Cond := .code y_M_unlike c_M_unlike 3 (some .int)
abbrev c_M_price : ByteArray := prog_7_method_36_code
def y_M_price : MethodName := ⟨n_M, "price", "(II)V"⟩
abbrev w_M_price : Cond := .code y_M_price c_M_price 3 none
abbrev c_M_lost : ByteArray := prog_7_method_37_code
def y_M_lost : MethodName := ⟨n_M, "lost", "()J"⟩
abbrev w_M_lost : Cond := .code y_M_lost c_M_lost 4 (some .long)
abbrev c_L_cell : ByteArray := method_2_code
def y_L_cell : MethodName := ⟨n_L, "cell", "([II)I"⟩
abbrev w_L_cell : Cond := .code y_L_cell c_L_cell 2 (some .int)
abbrev c_L_haul : ByteArray := method_3_code
def y_L_haul : MethodName := ⟨n_L, "haul", "(LDeviceTrials;I[J)I"⟩
abbrev w_L_haul : Cond := .codeWith y_L_haul c_L_haul 4 (some .int) [(0, 9, 12, 13), (0, 9, 15, 15)]
abbrev c_L_caught : ByteArray := method_4_code
def y_L_caught : MethodName := ⟨n_L, "caught", "(LDeviceTrials;III[J)I"⟩
abbrev w_L_caught : Cond := .codeWith y_L_caught c_L_caught 6 (some .int) [(0, 19, 22, 13), (0, 19, 26, 21)]
abbrev c_L_out : ByteArray := method_5_code
def y_L_out : MethodName := ⟨n_L, "out", "(LDeviceTrials;IZ[J)I"⟩
abbrev w_L_out : Cond := .codeWith y_L_out c_L_out 5 (some .int) [(0, 17, 20, 13)]
abbrev c_L_arm : ByteArray := method_6_code
def y_L_arm : MethodName := ⟨n_L, "arm", "(LDeviceTrials;I[J)I"⟩
abbrev w_L_arm : Cond := .codeWith y_L_arm c_L_arm 4 (some .int) [(0, 9, 12, 13)]
abbrev c_L_pair : ByteArray := method_7_code
def y_L_pair : MethodName := ⟨n_L, "pair", "(LDeviceTrials;II[J)I"⟩
abbrev w_L_pair : Cond := .codeWith y_L_pair c_L_pair 5 (some .int) [(0, 10, 13, 13)]
abbrev c_L_difference : ByteArray := method_8_code
def y_L_difference : MethodName := ⟨n_L, "difference", "(LDeviceTrials;II[J)I"⟩
abbrev w_L_difference : Cond := .codeWith y_L_difference c_L_difference 5 (some .int) [(0, 10, 13, 13)]
abbrev c_L_kept : ByteArray := method_9_code
def y_L_kept : MethodName := ⟨n_L, "kept", "(LDeviceTrials;I[J)I"⟩
abbrev w_L_kept : Cond := .codeWith y_L_kept c_L_kept 4 (some .int) [(0, 9, 12, 13)]
abbrev c_L_sum : ByteArray := method_10_code
def y_L_sum : MethodName := ⟨n_L, "sum", "(LDeviceTrials;I[J)I"⟩
abbrev w_L_sum : Cond := .codeWith y_L_sum c_L_sum 4 (some .int) [(0, 9, 12, 13)]
abbrev c_L_odds : ByteArray := method_11_code
def y_L_odds : MethodName := ⟨n_L, "odds", "(LDeviceTrials;II[J)I"⟩
abbrev w_L_odds : Cond := .codeWith y_L_odds c_L_odds 5 (some .int) [(0, 9, 12, 13)]
abbrev c_L_rank : ByteArray := method_12_code
def y_L_rank : MethodName := ⟨n_L, "rank", "(LDeviceTrials;II[J)I"⟩
abbrev w_L_rank : Cond := .codeWith y_L_rank c_L_rank 5 (some .int) [(0, 10, 13, 13)]
abbrev c_L_rankOdds : ByteArray := method_13_code
def y_L_rankOdds : MethodName := ⟨n_L, "rankOdds", "(LDeviceTrials;II[J)I"⟩
abbrev w_L_rankOdds : Cond := .codeWith y_L_rankOdds c_L_rankOdds 5 (some .int) [(0, 9, 12, 13)]
abbrev c_L_stopped : ByteArray := method_14_code
def y_L_stopped : MethodName := ⟨n_L, "stopped", "(LDeviceTrials;III[J)I"⟩
abbrev w_L_stopped : Cond := .codeWith y_L_stopped c_L_stopped 6 (some .int) [(0, 12, 15, 13), (0, 12, 19, 21)]
abbrev c_L_crossing : ByteArray := method_15_code
def y_L_crossing : MethodName := ⟨n_L, "crossing", "(LDeviceTrials;IIII[J)I"⟩
abbrev w_L_crossing : Cond := .codeWith y_L_crossing c_L_crossing 7 (some .int) [(0, 13, 16, 13), (0, 13, 20, 21)]
abbrev c_L_least : ByteArray := method_16_code
def y_L_least : MethodName := ⟨n_L, "least", "(LDeviceTrials;IIII[J)I"⟩
abbrev w_L_least : Cond := .codeWith y_L_least c_L_least 7 (some .int) [(0, 14, 17, 21)]
abbrev c_L_mean : ByteArray := method_17_code
def y_L_mean : MethodName := ⟨n_L, "mean", "(LDeviceTrials;III[J)I"⟩
abbrev w_L_mean : Cond := .codeWith y_L_mean c_L_mean 6 (some .int) [(0, 11, 14, 13)]
abbrev c_L_weight : ByteArray := method_18_code
def y_L_weight : MethodName := ⟨n_L, "weight", "(LDeviceTrials;III[J)I"⟩
abbrev w_L_weight : Cond := .codeWith y_L_weight c_L_weight 6 (some .int) [(0, 11, 14, 13)]
abbrev c_L_joined : ByteArray := method_19_code
def y_L_joined : MethodName := ⟨n_L, "joined", "(LDeviceTrials;II[J)I"⟩
abbrev w_L_joined : Cond := .codeWith y_L_joined c_L_joined 5 (some .int) [(0, 9, 12, 13)]
abbrev c_L_reader : ByteArray := method_20_code
def y_L_reader : MethodName := ⟨n_L, "reader", "(LDeviceTrials;III[J)I"⟩
abbrev w_L_reader : Cond := .codeWith y_L_reader c_L_reader 6 (some .int) [(0, 19, 22, 13), (0, 19, 26, 21)]
abbrev c_L_unlike : ByteArray := method_21_code
def y_L_unlike : MethodName := ⟨n_L, "unlike", "(LDeviceTrials;I[J)I"⟩
abbrev w_L_unlike : Cond := .codeWith y_L_unlike c_L_unlike 4 (some .int) [(0, 9, 12, 13)]
abbrev c_L_price : ByteArray := method_22_code
def y_L_price : MethodName := ⟨n_L, "price", "(LDeviceTrials;II)I"⟩
abbrev w_L_price : Cond := .codeWith y_L_price c_L_price 4 (some .int) [(0, 6, 9, 13), (0, 6, 12, 21)]
abbrev c_L_law : ByteArray := code
def y_L_law : MethodName := ⟨n_L, "law", "([I)Z"⟩
end
section
theorem d_D_init_0 : decode c_D_init 0 = .ok (.aload_n 0, 1) := by decide +kernel
theorem d_D_init_1 : decode c_D_init 1 = .ok (.invokespecial 3, 3) := by decide +kernel
theorem d_D_init_4 : decode c_D_init 4 = .ok (.aload_n 0, 1) := by decide +kernel
theorem d_D_init_5 : decode c_D_init 5 = .ok (.new 9, 3) := by decide +kernel
theorem d_D_init_8 : decode c_D_init 8 = .ok (.dup, 1) := by decide +kernel
theorem d_D_init_9 : decode c_D_init 9 = .ok (.iload_n 1, 1) := by decide +kernel
theorem d_D_init_10 : decode c_D_init 10 = .ok (.invokespecial 11, 3) := by decide +kernel
theorem d_D_init_13 : decode c_D_init 13 = .ok (.putfield 14, 3) := by decide +kernel
theorem d_D_init_16 : decode c_D_init 16 = .ok (.aload_n 0, 1) := by decide +kernel
theorem d_D_init_17 : decode c_D_init 17 = .ok (.new 18, 3) := by decide +kernel
theorem d_D_init_20 : decode c_D_init 20 = .ok (.dup, 1) := by decide +kernel
theorem d_D_init_21 : decode c_D_init 21 = .ok (.invokespecial 20, 3) := by decide +kernel
theorem d_D_init_24 : decode c_D_init 24 = .ok (.putfield 21, 3) := by decide +kernel
theorem d_D_init_27 : decode c_D_init 27 = .ok (.aload_n 0, 1) := by decide +kernel
theorem d_D_init_28 : decode c_D_init 28 = .ok (.new 25, 3) := by decide +kernel
theorem d_D_init_31 : decode c_D_init 31 = .ok (.dup, 1) := by decide +kernel
theorem d_D_init_32 : decode c_D_init 32 = .ok (.invokespecial 27, 3) := by decide +kernel
theorem d_D_init_35 : decode c_D_init 35 = .ok (.putfield 28, 3) := by decide +kernel
theorem d_D_init_38 : decode c_D_init 38 = .ok (.aload_n 0, 1) := by decide +kernel
theorem d_D_init_39 : decode c_D_init 39 = .ok (.new 32, 3) := by decide +kernel
theorem d_D_init_42 : decode c_D_init 42 = .ok (.dup, 1) := by decide +kernel
theorem d_D_init_43 : decode c_D_init 43 = .ok (.invokespecial 34, 3) := by decide +kernel
theorem d_D_init_46 : decode c_D_init 46 = .ok (.putfield 35, 3) := by decide +kernel
theorem d_D_init_49 : decode c_D_init 49 = .ok (.aload_n 0, 1) := by decide +kernel
theorem d_D_init_50 : decode c_D_init 50 = .ok (.iconst 3, 1) := by decide +kernel
theorem d_D_init_51 : decode c_D_init 51 = .ok (.newarray .int, 2) := by decide +kernel
theorem d_D_init_53 : decode c_D_init 53 = .ok (.putfield 39, 3) := by decide +kernel
theorem d_D_init_56 : decode c_D_init 56 = .ok (.return_, 1) := by decide +kernel
theorem d_D_haul_0 : decode c_D_haul 0 = .ok (.iload_n 1, 1) := by decide +kernel
theorem d_D_haul_1 : decode c_D_haul 1 = .ok (.invokestatic 43, 3) := by decide +kernel
theorem d_D_haul_4 : decode c_D_haul 4 = .ok (.aload_n 0, 1) := by decide +kernel
theorem d_D_haul_5 : decode c_D_haul 5 = .ok (.getfield 14, 3) := by decide +kernel
theorem d_D_haul_8 : decode c_D_haul 8 = .ok (.getfield 46, 3) := by decide +kernel
theorem d_D_haul_11 : decode c_D_haul 11 = .ok (.bipush 32, 2) := by decide +kernel
theorem d_D_haul_13 : decode c_D_haul 13 = .ok (.if_icmp .lt 13, 3) := by decide +kernel
theorem d_D_haul_16 : decode c_D_haul 16 = .ok (.new 50, 3) := by decide +kernel
theorem d_D_haul_19 : decode c_D_haul 19 = .ok (.dup, 1) := by decide +kernel
theorem d_D_haul_20 : decode c_D_haul 20 = .ok (.ldc 52, 2) := by decide +kernel
theorem d_D_haul_22 : decode c_D_haul 22 = .ok (.invokespecial 54, 3) := by decide +kernel
theorem d_D_haul_25 : decode c_D_haul 25 = .ok (.athrow, 1) := by decide +kernel
theorem d_D_haul_26 : decode c_D_haul 26 = .ok (.aload_n 0, 1) := by decide +kernel
theorem d_D_haul_27 : decode c_D_haul 27 = .ok (.getfield 14, 3) := by decide +kernel
theorem d_D_haul_30 : decode c_D_haul 30 = .ok (.iload_n 1, 1) := by decide +kernel
theorem d_D_haul_31 : decode c_D_haul 31 = .ok (.invokevirtual 57, 3) := by decide +kernel
theorem d_D_haul_34 : decode c_D_haul 34 = .ok (.ireturn, 1) := by decide +kernel
theorem d_D_caught_0 : decode c_D_caught 0 = .ok (.aload_n 0, 1) := by decide +kernel
theorem d_D_caught_1 : decode c_D_caught 1 = .ok (.iload_n 1, 1) := by decide +kernel
theorem d_D_caught_2 : decode c_D_caught 2 = .ok (.invokevirtual 61, 3) := by decide +kernel
theorem d_D_caught_5 : decode c_D_caught 5 = .ok (.iload_n 2, 1) := by decide +kernel
theorem d_D_caught_6 : decode c_D_caught 6 = .ok (.invokestatic 64, 3) := by decide +kernel
theorem d_D_caught_9 : decode c_D_caught 9 = .ok (.iload_n 3, 1) := by decide +kernel
theorem d_D_caught_10 : decode c_D_caught 10 = .ok (.iconst 0, 1) := by decide +kernel
theorem d_D_caught_11 : decode c_D_caught 11 = .ok (.sipush 1000, 3) := by decide +kernel
theorem d_D_caught_14 : decode c_D_caught 14 = .ok (.invokestatic 67, 3) := by decide +kernel
theorem d_D_caught_17 : decode c_D_caught 17 = .ok (.aload_n 0, 1) := by decide +kernel
theorem d_D_caught_18 : decode c_D_caught 18 = .ok (.getfield 14, 3) := by decide +kernel
theorem d_D_caught_21 : decode c_D_caught 21 = .ok (.iload_n 1, 1) := by decide +kernel
theorem d_D_caught_22 : decode c_D_caught 22 = .ok (.iload_n 2, 1) := by decide +kernel
theorem d_D_caught_23 : decode c_D_caught 23 = .ok (.iload_n 3, 1) := by decide +kernel
theorem d_D_caught_24 : decode c_D_caught 24 = .ok (.invokevirtual 71, 3) := by decide +kernel
theorem d_D_caught_27 : decode c_D_caught 27 = .ok (.ireturn, 1) := by decide +kernel
theorem d_D_out_0 : decode c_D_out 0 = .ok (.iload_n 1, 1) := by decide +kernel
theorem d_D_out_1 : decode c_D_out 1 = .ok (.invokestatic 43, 3) := by decide +kernel
theorem d_D_out_4 : decode c_D_out 4 = .ok (.aload_n 0, 1) := by decide +kernel
theorem d_D_out_5 : decode c_D_out 5 = .ok (.getfield 14, 3) := by decide +kernel
theorem d_D_out_8 : decode c_D_out 8 = .ok (.iload_n 1, 1) := by decide +kernel
theorem d_D_out_9 : decode c_D_out 9 = .ok (.iload_n 2, 1) := by decide +kernel
theorem d_D_out_10 : decode c_D_out 10 = .ok (.invokevirtual 75, 3) := by decide +kernel
theorem d_D_out_13 : decode c_D_out 13 = .ok (.ireturn, 1) := by decide +kernel
theorem d_D_arm_0 : decode c_D_arm 0 = .ok (.aload_n 0, 1) := by decide +kernel
theorem d_D_arm_1 : decode c_D_arm 1 = .ok (.iload_n 1, 1) := by decide +kernel
theorem d_D_arm_2 : decode c_D_arm 2 = .ok (.invokevirtual 61, 3) := by decide +kernel
theorem d_D_arm_5 : decode c_D_arm 5 = .ok (.aload_n 0, 1) := by decide +kernel
theorem d_D_arm_6 : decode c_D_arm 6 = .ok (.getfield 14, 3) := by decide +kernel
theorem d_D_arm_9 : decode c_D_arm 9 = .ok (.getfield 79, 3) := by decide +kernel
theorem d_D_arm_12 : decode c_D_arm 12 = .ok (.iload_n 1, 1) := by decide +kernel
theorem d_D_arm_13 : decode c_D_arm 13 = .ok (.baload, 1) := by decide +kernel
theorem d_D_arm_14 : decode c_D_arm 14 = .ok (.ifCond .eq 7, 3) := by decide +kernel
theorem d_D_arm_17 : decode c_D_arm 17 = .ok (.iconst 1, 1) := by decide +kernel
theorem d_D_arm_18 : decode c_D_arm 18 = .ok (.goto 4, 3) := by decide +kernel
theorem d_D_arm_21 : decode c_D_arm 21 = .ok (.iconst 0, 1) := by decide +kernel
theorem d_D_arm_22 : decode c_D_arm 22 = .ok (.ireturn, 1) := by decide +kernel
theorem d_D_pair_0 : decode c_D_pair 0 = .ok (.aload_n 0, 1) := by decide +kernel
theorem d_D_pair_1 : decode c_D_pair 1 = .ok (.iload_n 1, 1) := by decide +kernel
theorem d_D_pair_2 : decode c_D_pair 2 = .ok (.invokevirtual 83, 3) := by decide +kernel
theorem d_D_pair_5 : decode c_D_pair 5 = .ok (.iload_n 2, 1) := by decide +kernel
theorem d_D_pair_6 : decode c_D_pair 6 = .ok (.iconst 3, 1) := by decide +kernel
theorem d_D_pair_7 : decode c_D_pair 7 = .ok (.invokestatic 86, 3) := by decide +kernel
theorem d_D_pair_10 : decode c_D_pair 10 = .ok (.iload_n 2, 1) := by decide +kernel
theorem d_D_pair_11 : decode c_D_pair 11 = .ok (.ifCond .ne 13, 3) := by decide +kernel
theorem d_D_pair_14 : decode c_D_pair 14 = .ok (.aload_n 0, 1) := by decide +kernel
theorem d_D_pair_15 : decode c_D_pair 15 = .ok (.getfield 14, 3) := by decide +kernel
theorem d_D_pair_18 : decode c_D_pair 18 = .ok (.getfield 90, 3) := by decide +kernel
theorem d_D_pair_21 : decode c_D_pair 21 = .ok (.iload_n 1, 1) := by decide +kernel
theorem d_D_pair_22 : decode c_D_pair 22 = .ok (.iaload, 1) := by decide +kernel
theorem d_D_pair_23 : decode c_D_pair 23 = .ok (.ireturn, 1) := by decide +kernel
theorem d_D_pair_24 : decode c_D_pair 24 = .ok (.iload_n 2, 1) := by decide +kernel
theorem d_D_pair_25 : decode c_D_pair 25 = .ok (.iconst 1, 1) := by decide +kernel
theorem d_D_pair_26 : decode c_D_pair 26 = .ok (.if_icmp .ne 15, 3) := by decide +kernel
theorem d_D_pair_29 : decode c_D_pair 29 = .ok (.aload_n 0, 1) := by decide +kernel
theorem d_D_pair_30 : decode c_D_pair 30 = .ok (.getfield 14, 3) := by decide +kernel
theorem d_D_pair_33 : decode c_D_pair 33 = .ok (.getfield 93, 3) := by decide +kernel
theorem d_D_pair_36 : decode c_D_pair 36 = .ok (.iload_n 1, 1) := by decide +kernel
theorem d_D_pair_37 : decode c_D_pair 37 = .ok (.iaload, 1) := by decide +kernel
theorem d_D_pair_38 : decode c_D_pair 38 = .ok (.goto 12, 3) := by decide +kernel
theorem d_D_pair_41 : decode c_D_pair 41 = .ok (.aload_n 0, 1) := by decide +kernel
theorem d_D_pair_42 : decode c_D_pair 42 = .ok (.getfield 14, 3) := by decide +kernel
theorem d_D_pair_45 : decode c_D_pair 45 = .ok (.getfield 96, 3) := by decide +kernel
theorem d_D_pair_48 : decode c_D_pair 48 = .ok (.iload_n 1, 1) := by decide +kernel
theorem d_D_pair_49 : decode c_D_pair 49 = .ok (.iaload, 1) := by decide +kernel
theorem d_D_pair_50 : decode c_D_pair 50 = .ok (.ireturn, 1) := by decide +kernel
theorem d_D_pairs_0 : decode c_D_pairs 0 = .ok (.aload_n 0, 1) := by decide +kernel
theorem d_D_pairs_1 : decode c_D_pairs 1 = .ok (.getfield 14, 3) := by decide +kernel
theorem d_D_pairs_4 : decode c_D_pairs 4 = .ok (.getfield 99, 3) := by decide +kernel
theorem d_D_pairs_7 : decode c_D_pairs 7 = .ok (.ireturn, 1) := by decide +kernel
theorem d_D_difference_0 : decode c_D_difference 0 = .ok (.aload_n 0, 1) := by decide +kernel
theorem d_D_difference_1 : decode c_D_difference 1 = .ok (.iload_n 1, 1) := by decide +kernel
theorem d_D_difference_2 : decode c_D_difference 2 = .ok (.invokevirtual 83, 3) := by decide +kernel
theorem d_D_difference_5 : decode c_D_difference 5 = .ok (.iload_n 2, 1) := by decide +kernel
theorem d_D_difference_6 : decode c_D_difference 6 = .ok (.invokestatic 64, 3) := by decide +kernel
theorem d_D_difference_9 : decode c_D_difference 9 = .ok (.aload_n 0, 1) := by decide +kernel
theorem d_D_difference_10 : decode c_D_difference 10 = .ok (.getfield 14, 3) := by decide +kernel
theorem d_D_difference_13 : decode c_D_difference 13 = .ok (.iload_n 1, 1) := by decide +kernel
theorem d_D_difference_14 : decode c_D_difference 14 = .ok (.iload_n 2, 1) := by decide +kernel
theorem d_D_difference_15 : decode c_D_difference 15 = .ok (.invokevirtual 102, 3) := by decide +kernel
theorem d_D_difference_18 : decode c_D_difference 18 = .ok (.ireturn, 1) := by decide +kernel
theorem d_D_kept_0 : decode c_D_kept 0 = .ok (.iload_n 1, 1) := by decide +kernel
theorem d_D_kept_1 : decode c_D_kept 1 = .ok (.invokestatic 64, 3) := by decide +kernel
theorem d_D_kept_4 : decode c_D_kept 4 = .ok (.aload_n 0, 1) := by decide +kernel
theorem d_D_kept_5 : decode c_D_kept 5 = .ok (.getfield 14, 3) := by decide +kernel
theorem d_D_kept_8 : decode c_D_kept 8 = .ok (.iconst 4, 1) := by decide +kernel
theorem d_D_kept_9 : decode c_D_kept 9 = .ok (.iload_n 1, 1) := by decide +kernel
theorem d_D_kept_10 : decode c_D_kept 10 = .ok (.invokevirtual 106, 3) := by decide +kernel
theorem d_D_kept_13 : decode c_D_kept 13 = .ok (.ireturn, 1) := by decide +kernel
theorem d_D_sum_0 : decode c_D_sum 0 = .ok (.iload_n 1, 1) := by decide +kernel
theorem d_D_sum_1 : decode c_D_sum 1 = .ok (.invokestatic 64, 3) := by decide +kernel
theorem d_D_sum_4 : decode c_D_sum 4 = .ok (.aload_n 0, 1) := by decide +kernel
theorem d_D_sum_5 : decode c_D_sum 5 = .ok (.getfield 14, 3) := by decide +kernel
theorem d_D_sum_8 : decode c_D_sum 8 = .ok (.iconst 4, 1) := by decide +kernel
theorem d_D_sum_9 : decode c_D_sum 9 = .ok (.iload_n 1, 1) := by decide +kernel
theorem d_D_sum_10 : decode c_D_sum 10 = .ok (.invokevirtual 109, 3) := by decide +kernel
theorem d_D_sum_13 : decode c_D_sum 13 = .ok (.ireturn, 1) := by decide +kernel
theorem d_D_odds_0 : decode c_D_odds 0 = .ok (.iload_n 1, 1) := by decide +kernel
theorem d_D_odds_1 : decode c_D_odds 1 = .ok (.invokestatic 64, 3) := by decide +kernel
theorem d_D_odds_4 : decode c_D_odds 4 = .ok (.iload_n 2, 1) := by decide +kernel
theorem d_D_odds_5 : decode c_D_odds 5 = .ok (.invokestatic 112, 3) := by decide +kernel
theorem d_D_odds_8 : decode c_D_odds 8 = .ok (.aload_n 0, 1) := by decide +kernel
theorem d_D_odds_9 : decode c_D_odds 9 = .ok (.getfield 28, 3) := by decide +kernel
theorem d_D_odds_12 : decode c_D_odds 12 = .ok (.invokevirtual 115, 3) := by decide +kernel
theorem d_D_odds_15 : decode c_D_odds 15 = .ok (.iconst 0, 1) := by decide +kernel
theorem d_D_odds_16 : decode c_D_odds 16 = .ok (.istore_n 3, 1) := by decide +kernel
theorem d_D_odds_17 : decode c_D_odds 17 = .ok (.iload_n 3, 1) := by decide +kernel
theorem d_D_odds_18 : decode c_D_odds 18 = .ok (.aload_n 0, 1) := by decide +kernel
theorem d_D_odds_19 : decode c_D_odds 19 = .ok (.getfield 14, 3) := by decide +kernel
theorem d_D_odds_22 : decode c_D_odds 22 = .ok (.getfield 99, 3) := by decide +kernel
theorem d_D_odds_25 : decode c_D_odds 25 = .ok (.if_icmp .ge 54, 3) := by decide +kernel
theorem d_D_odds_28 : decode c_D_odds 28 = .ok (.aload_n 0, 1) := by decide +kernel
theorem d_D_odds_29 : decode c_D_odds 29 = .ok (.getfield 14, 3) := by decide +kernel
theorem d_D_odds_32 : decode c_D_odds 32 = .ok (.iload_n 3, 1) := by decide +kernel
theorem d_D_odds_33 : decode c_D_odds 33 = .ok (.iload_n 1, 1) := by decide +kernel
theorem d_D_odds_34 : decode c_D_odds 34 = .ok (.invokevirtual 118, 3) := by decide +kernel
theorem d_D_odds_37 : decode c_D_odds 37 = .ok (.ifCond .eq 36, 3) := by decide +kernel
theorem d_D_odds_40 : decode c_D_odds 40 = .ok (.aload_n 0, 1) := by decide +kernel
theorem d_D_odds_41 : decode c_D_odds 41 = .ok (.getfield 14, 3) := by decide +kernel
theorem d_D_odds_44 : decode c_D_odds 44 = .ok (.iload_n 3, 1) := by decide +kernel
theorem d_D_odds_45 : decode c_D_odds 45 = .ok (.iload_n 1, 1) := by decide +kernel
theorem d_D_odds_46 : decode c_D_odds 46 = .ok (.invokevirtual 102, 3) := by decide +kernel
theorem d_D_odds_49 : decode c_D_odds 49 = .ok (.istore 4, 2) := by decide +kernel
theorem d_D_odds_51 : decode c_D_odds 51 = .ok (.aload_n 0, 1) := by decide +kernel
theorem d_D_odds_52 : decode c_D_odds 52 = .ok (.getfield 28, 3) := by decide +kernel
theorem d_D_odds_55 : decode c_D_odds 55 = .ok (.iload 4, 2) := by decide +kernel
theorem d_D_odds_57 : decode c_D_odds 57 = .ok (.invokestatic 122, 3) := by decide +kernel
theorem d_D_odds_60 : decode c_D_odds 60 = .ok (.iload 4, 2) := by decide +kernel
theorem d_D_odds_62 : decode c_D_odds 62 = .ok (.ifCond .le 7, 3) := by decide +kernel
theorem d_D_odds_65 : decode c_D_odds 65 = .ok (.iconst 1, 1) := by decide +kernel
theorem d_D_odds_66 : decode c_D_odds 66 = .ok (.goto 4, 3) := by decide +kernel
theorem d_D_odds_69 : decode c_D_odds 69 = .ok (.iconst 0, 1) := by decide +kernel
theorem d_D_odds_70 : decode c_D_odds 70 = .ok (.invokevirtual 127, 3) := by decide +kernel
theorem d_D_odds_73 : decode c_D_odds 73 = .ok (.iinc 3 1, 3) := by decide +kernel
theorem d_D_odds_76 : decode c_D_odds 76 = .ok (.goto (-59), 3) := by decide +kernel
theorem d_D_odds_79 : decode c_D_odds 79 = .ok (.aload_n 0, 1) := by decide +kernel
theorem d_D_odds_80 : decode c_D_odds 80 = .ok (.getfield 28, 3) := by decide +kernel
theorem d_D_odds_83 : decode c_D_odds 83 = .ok (.invokevirtual 131, 3) := by decide +kernel
theorem d_D_odds_86 : decode c_D_odds 86 = .ok (.aload_n 0, 1) := by decide +kernel
theorem d_D_odds_87 : decode c_D_odds 87 = .ok (.getfield 28, 3) := by decide +kernel
theorem d_D_odds_90 : decode c_D_odds 90 = .ok (.invokevirtual 135, 3) := by decide +kernel
theorem d_D_odds_93 : decode c_D_odds 93 = .ok (.iload_n 2, 1) := by decide +kernel
theorem d_D_odds_94 : decode c_D_odds 94 = .ok (.invokestatic 138, 3) := by decide +kernel
theorem d_D_odds_97 : decode c_D_odds 97 = .ok (.lreturn, 1) := by decide +kernel
theorem d_D_rank_0 : decode c_D_rank 0 = .ok (.aload_n 0, 1) := by decide +kernel
theorem d_D_rank_1 : decode c_D_rank 1 = .ok (.iload_n 1, 1) := by decide +kernel
theorem d_D_rank_2 : decode c_D_rank 2 = .ok (.invokevirtual 83, 3) := by decide +kernel
theorem d_D_rank_5 : decode c_D_rank 5 = .ok (.iload_n 2, 1) := by decide +kernel
theorem d_D_rank_6 : decode c_D_rank 6 = .ok (.invokestatic 64, 3) := by decide +kernel
theorem d_D_rank_9 : decode c_D_rank 9 = .ok (.aload_n 0, 1) := by decide +kernel
theorem d_D_rank_10 : decode c_D_rank 10 = .ok (.getfield 14, 3) := by decide +kernel
theorem d_D_rank_13 : decode c_D_rank 13 = .ok (.iload_n 1, 1) := by decide +kernel
theorem d_D_rank_14 : decode c_D_rank 14 = .ok (.iload_n 2, 1) := by decide +kernel
theorem d_D_rank_15 : decode c_D_rank 15 = .ok (.invokevirtual 142, 3) := by decide +kernel
theorem d_D_rank_18 : decode c_D_rank 18 = .ok (.ireturn, 1) := by decide +kernel
theorem d_D_rankOdds_0 : decode c_D_rankOdds 0 = .ok (.iload_n 1, 1) := by decide +kernel
theorem d_D_rankOdds_1 : decode c_D_rankOdds 1 = .ok (.invokestatic 64, 3) := by decide +kernel
theorem d_D_rankOdds_4 : decode c_D_rankOdds 4 = .ok (.iload_n 2, 1) := by decide +kernel
theorem d_D_rankOdds_5 : decode c_D_rankOdds 5 = .ok (.invokestatic 112, 3) := by decide +kernel
theorem d_D_rankOdds_8 : decode c_D_rankOdds 8 = .ok (.aload_n 0, 1) := by decide +kernel
theorem d_D_rankOdds_9 : decode c_D_rankOdds 9 = .ok (.getfield 28, 3) := by decide +kernel
theorem d_D_rankOdds_12 : decode c_D_rankOdds 12 = .ok (.invokevirtual 115, 3) := by decide +kernel
theorem d_D_rankOdds_15 : decode c_D_rankOdds 15 = .ok (.iconst 0, 1) := by decide +kernel
theorem d_D_rankOdds_16 : decode c_D_rankOdds 16 = .ok (.istore_n 3, 1) := by decide +kernel
theorem d_D_rankOdds_17 : decode c_D_rankOdds 17 = .ok (.iload_n 3, 1) := by decide +kernel
theorem d_D_rankOdds_18 : decode c_D_rankOdds 18 = .ok (.aload_n 0, 1) := by decide +kernel
theorem d_D_rankOdds_19 : decode c_D_rankOdds 19 = .ok (.getfield 14, 3) := by decide +kernel
theorem d_D_rankOdds_22 : decode c_D_rankOdds 22 = .ok (.getfield 99, 3) := by decide +kernel
theorem d_D_rankOdds_25 : decode c_D_rankOdds 25 = .ok (.if_icmp .ge 51, 3) := by decide +kernel
theorem d_D_rankOdds_28 : decode c_D_rankOdds 28 = .ok (.aload_n 0, 1) := by decide +kernel
theorem d_D_rankOdds_29 : decode c_D_rankOdds 29 = .ok (.getfield 14, 3) := by decide +kernel
theorem d_D_rankOdds_32 : decode c_D_rankOdds 32 = .ok (.iload_n 3, 1) := by decide +kernel
theorem d_D_rankOdds_33 : decode c_D_rankOdds 33 = .ok (.iload_n 1, 1) := by decide +kernel
theorem d_D_rankOdds_34 : decode c_D_rankOdds 34 = .ok (.invokevirtual 142, 3) := by decide +kernel
theorem d_D_rankOdds_37 : decode c_D_rankOdds 37 = .ok (.istore 4, 2) := by decide +kernel
theorem d_D_rankOdds_39 : decode c_D_rankOdds 39 = .ok (.iload 4, 2) := by decide +kernel
theorem d_D_rankOdds_41 : decode c_D_rankOdds 41 = .ok (.ifCond .le 29, 3) := by decide +kernel
theorem d_D_rankOdds_44 : decode c_D_rankOdds 44 = .ok (.aload_n 0, 1) := by decide +kernel
theorem d_D_rankOdds_45 : decode c_D_rankOdds 45 = .ok (.getfield 28, 3) := by decide +kernel
theorem d_D_rankOdds_48 : decode c_D_rankOdds 48 = .ok (.iload 4, 2) := by decide +kernel
theorem d_D_rankOdds_50 : decode c_D_rankOdds 50 = .ok (.aload_n 0, 1) := by decide +kernel
theorem d_D_rankOdds_51 : decode c_D_rankOdds 51 = .ok (.getfield 14, 3) := by decide +kernel
theorem d_D_rankOdds_54 : decode c_D_rankOdds 54 = .ok (.iload_n 3, 1) := by decide +kernel
theorem d_D_rankOdds_55 : decode c_D_rankOdds 55 = .ok (.iload_n 1, 1) := by decide +kernel
theorem d_D_rankOdds_56 : decode c_D_rankOdds 56 = .ok (.invokevirtual 102, 3) := by decide +kernel
theorem d_D_rankOdds_59 : decode c_D_rankOdds 59 = .ok (.ifCond .le 7, 3) := by decide +kernel
theorem d_D_rankOdds_62 : decode c_D_rankOdds 62 = .ok (.iconst 1, 1) := by decide +kernel
theorem d_D_rankOdds_63 : decode c_D_rankOdds 63 = .ok (.goto 4, 3) := by decide +kernel
theorem d_D_rankOdds_66 : decode c_D_rankOdds 66 = .ok (.iconst 0, 1) := by decide +kernel
theorem d_D_rankOdds_67 : decode c_D_rankOdds 67 = .ok (.invokevirtual 127, 3) := by decide +kernel
theorem d_D_rankOdds_70 : decode c_D_rankOdds 70 = .ok (.iinc 3 1, 3) := by decide +kernel
theorem d_D_rankOdds_73 : decode c_D_rankOdds 73 = .ok (.goto (-56), 3) := by decide +kernel
theorem d_D_rankOdds_76 : decode c_D_rankOdds 76 = .ok (.aload_n 0, 1) := by decide +kernel
theorem d_D_rankOdds_77 : decode c_D_rankOdds 77 = .ok (.getfield 28, 3) := by decide +kernel
theorem d_D_rankOdds_80 : decode c_D_rankOdds 80 = .ok (.invokevirtual 131, 3) := by decide +kernel
theorem d_D_rankOdds_83 : decode c_D_rankOdds 83 = .ok (.aload_n 0, 1) := by decide +kernel
theorem d_D_rankOdds_84 : decode c_D_rankOdds 84 = .ok (.getfield 28, 3) := by decide +kernel
theorem d_D_rankOdds_87 : decode c_D_rankOdds 87 = .ok (.invokevirtual 135, 3) := by decide +kernel
theorem d_D_rankOdds_90 : decode c_D_rankOdds 90 = .ok (.iload_n 2, 1) := by decide +kernel
theorem d_D_rankOdds_91 : decode c_D_rankOdds 91 = .ok (.invokestatic 138, 3) := by decide +kernel
theorem d_D_rankOdds_94 : decode c_D_rankOdds 94 = .ok (.lreturn, 1) := by decide +kernel
theorem d_D_stopped_0 : decode c_D_stopped 0 = .ok (.iload_n 1, 1) := by decide +kernel
theorem d_D_stopped_1 : decode c_D_stopped 1 = .ok (.invokestatic 64, 3) := by decide +kernel
theorem d_D_stopped_4 : decode c_D_stopped 4 = .ok (.iload_n 2, 1) := by decide +kernel
theorem d_D_stopped_5 : decode c_D_stopped 5 = .ok (.iload_n 3, 1) := by decide +kernel
theorem d_D_stopped_6 : decode c_D_stopped 6 = .ok (.invokestatic 145, 3) := by decide +kernel
theorem d_D_stopped_9 : decode c_D_stopped 9 = .ok (.iconst 0, 1) := by decide +kernel
theorem d_D_stopped_10 : decode c_D_stopped 10 = .ok (.istore 4, 2) := by decide +kernel
theorem d_D_stopped_12 : decode c_D_stopped 12 = .ok (.iconst 0, 1) := by decide +kernel
theorem d_D_stopped_13 : decode c_D_stopped 13 = .ok (.istore 5, 2) := by decide +kernel
theorem d_D_stopped_15 : decode c_D_stopped 15 = .ok (.iload 5, 2) := by decide +kernel
theorem d_D_stopped_17 : decode c_D_stopped 17 = .ok (.aload_n 0, 1) := by decide +kernel
theorem d_D_stopped_18 : decode c_D_stopped 18 = .ok (.getfield 14, 3) := by decide +kernel
theorem d_D_stopped_21 : decode c_D_stopped 21 = .ok (.getfield 99, 3) := by decide +kernel
theorem d_D_stopped_24 : decode c_D_stopped 24 = .ok (.if_icmp .ge 52, 3) := by decide +kernel
theorem d_D_stopped_27 : decode c_D_stopped 27 = .ok (.iload 4, 2) := by decide +kernel
theorem d_D_stopped_29 : decode c_D_stopped 29 = .ok (.aload_n 0, 1) := by decide +kernel
theorem d_D_stopped_30 : decode c_D_stopped 30 = .ok (.getfield 14, 3) := by decide +kernel
theorem d_D_stopped_33 : decode c_D_stopped 33 = .ok (.iload 5, 2) := by decide +kernel
theorem d_D_stopped_35 : decode c_D_stopped 35 = .ok (.iload_n 1, 1) := by decide +kernel
theorem d_D_stopped_36 : decode c_D_stopped 36 = .ok (.invokevirtual 148, 3) := by decide +kernel
theorem d_D_stopped_39 : decode c_D_stopped 39 = .ok (.invokestatic 151, 3) := by decide +kernel
theorem d_D_stopped_42 : decode c_D_stopped 42 = .ok (.isub, 1) := by decide +kernel
theorem d_D_stopped_43 : decode c_D_stopped 43 = .ok (.istore 4, 2) := by decide +kernel
theorem d_D_stopped_45 : decode c_D_stopped 45 = .ok (.iload 4, 2) := by decide +kernel
theorem d_D_stopped_47 : decode c_D_stopped 47 = .ok (.iload_n 2, 1) := by decide +kernel
theorem d_D_stopped_48 : decode c_D_stopped 48 = .ok (.if_icmp .ne 8, 3) := by decide +kernel
theorem d_D_stopped_51 : decode c_D_stopped 51 = .ok (.iconst 2, 1) := by decide +kernel
theorem d_D_stopped_52 : decode c_D_stopped 52 = .ok (.iload 5, 2) := by decide +kernel
theorem d_D_stopped_54 : decode c_D_stopped 54 = .ok (.imul, 1) := by decide +kernel
theorem d_D_stopped_55 : decode c_D_stopped 55 = .ok (.ireturn, 1) := by decide +kernel
theorem d_D_stopped_56 : decode c_D_stopped 56 = .ok (.iload 4, 2) := by decide +kernel
theorem d_D_stopped_58 : decode c_D_stopped 58 = .ok (.iload_n 3, 1) := by decide +kernel
theorem d_D_stopped_59 : decode c_D_stopped 59 = .ok (.ineg, 1) := by decide +kernel
theorem d_D_stopped_60 : decode c_D_stopped 60 = .ok (.if_icmp .ne 10, 3) := by decide +kernel
theorem d_D_stopped_63 : decode c_D_stopped 63 = .ok (.iconst 2, 1) := by decide +kernel
theorem d_D_stopped_64 : decode c_D_stopped 64 = .ok (.iload 5, 2) := by decide +kernel
theorem d_D_stopped_66 : decode c_D_stopped 66 = .ok (.imul, 1) := by decide +kernel
theorem d_D_stopped_67 : decode c_D_stopped 67 = .ok (.iconst 1, 1) := by decide +kernel
theorem d_D_stopped_68 : decode c_D_stopped 68 = .ok (.iadd, 1) := by decide +kernel
theorem d_D_stopped_69 : decode c_D_stopped 69 = .ok (.ireturn, 1) := by decide +kernel
theorem d_D_stopped_70 : decode c_D_stopped 70 = .ok (.iinc 5 1, 3) := by decide +kernel
theorem d_D_stopped_73 : decode c_D_stopped 73 = .ok (.goto (-58), 3) := by decide +kernel
theorem d_D_stopped_76 : decode c_D_stopped 76 = .ok (.iconst (-1), 1) := by decide +kernel
theorem d_D_stopped_77 : decode c_D_stopped 77 = .ok (.ireturn, 1) := by decide +kernel
theorem d_D_crossing_0 : decode c_D_crossing 0 = .ok (.iload 4, 2) := by decide +kernel
theorem d_D_crossing_2 : decode c_D_crossing 2 = .ok (.invokestatic 112, 3) := by decide +kernel
theorem d_D_crossing_5 : decode c_D_crossing 5 = .ok (.iload_n 1, 1) := by decide +kernel
theorem d_D_crossing_6 : decode c_D_crossing 6 = .ok (.iconst 0, 1) := by decide +kernel
theorem d_D_crossing_7 : decode c_D_crossing 7 = .ok (.bipush 40, 2) := by decide +kernel
theorem d_D_crossing_9 : decode c_D_crossing 9 = .ok (.invokestatic 67, 3) := by decide +kernel
theorem d_D_crossing_12 : decode c_D_crossing 12 = .ok (.iload_n 2, 1) := by decide +kernel
theorem d_D_crossing_13 : decode c_D_crossing 13 = .ok (.iload_n 3, 1) := by decide +kernel
theorem d_D_crossing_14 : decode c_D_crossing 14 = .ok (.invokestatic 145, 3) := by decide +kernel
theorem d_D_crossing_17 : decode c_D_crossing 17 = .ok (.aload_n 0, 1) := by decide +kernel
theorem d_D_crossing_18 : decode c_D_crossing 18 = .ok (.getfield 35, 3) := by decide +kernel
theorem d_D_crossing_21 : decode c_D_crossing 21 = .ok (.iload_n 2, 1) := by decide +kernel
theorem d_D_crossing_22 : decode c_D_crossing 22 = .ok (.iload_n 3, 1) := by decide +kernel
theorem d_D_crossing_23 : decode c_D_crossing 23 = .ok (.invokevirtual 156, 3) := by decide +kernel
theorem d_D_crossing_26 : decode c_D_crossing 26 = .ok (.iconst 0, 1) := by decide +kernel
theorem d_D_crossing_27 : decode c_D_crossing 27 = .ok (.istore 5, 2) := by decide +kernel
theorem d_D_crossing_29 : decode c_D_crossing 29 = .ok (.iload 5, 2) := by decide +kernel
theorem d_D_crossing_31 : decode c_D_crossing 31 = .ok (.iload_n 1, 1) := by decide +kernel
theorem d_D_crossing_32 : decode c_D_crossing 32 = .ok (.if_icmp .ge 16, 3) := by decide +kernel
theorem d_D_crossing_35 : decode c_D_crossing 35 = .ok (.aload_n 0, 1) := by decide +kernel
theorem d_D_crossing_36 : decode c_D_crossing 36 = .ok (.getfield 35, 3) := by decide +kernel
theorem d_D_crossing_39 : decode c_D_crossing 39 = .ok (.invokevirtual 159, 3) := by decide +kernel
theorem d_D_crossing_42 : decode c_D_crossing 42 = .ok (.iinc 5 1, 3) := by decide +kernel
theorem d_D_crossing_45 : decode c_D_crossing 45 = .ok (.goto (-16), 3) := by decide +kernel
theorem d_D_crossing_48 : decode c_D_crossing 48 = .ok (.aload_n 0, 1) := by decide +kernel
theorem d_D_crossing_49 : decode c_D_crossing 49 = .ok (.getfield 35, 3) := by decide +kernel
theorem d_D_crossing_52 : decode c_D_crossing 52 = .ok (.getfield 162, 3) := by decide +kernel
theorem d_D_crossing_55 : decode c_D_crossing 55 = .ok (.aload_n 0, 1) := by decide +kernel
theorem d_D_crossing_56 : decode c_D_crossing 56 = .ok (.getfield 35, 3) := by decide +kernel
theorem d_D_crossing_59 : decode c_D_crossing 59 = .ok (.getfield 166, 3) := by decide +kernel
theorem d_D_crossing_62 : decode c_D_crossing 62 = .ok (.iload 4, 2) := by decide +kernel
theorem d_D_crossing_64 : decode c_D_crossing 64 = .ok (.invokestatic 138, 3) := by decide +kernel
theorem d_D_crossing_67 : decode c_D_crossing 67 = .ok (.lreturn, 1) := by decide +kernel
theorem d_D_least_0 : decode c_D_least 0 = .ok (.iload 4, 2) := by decide +kernel
theorem d_D_least_2 : decode c_D_least 2 = .ok (.iconst 1, 1) := by decide +kernel
theorem d_D_least_3 : decode c_D_least 3 = .ok (.sipush 1000, 3) := by decide +kernel
theorem d_D_least_6 : decode c_D_least 6 = .ok (.invokestatic 67, 3) := by decide +kernel
theorem d_D_least_9 : decode c_D_least 9 = .ok (.iload_n 3, 1) := by decide +kernel
theorem d_D_least_10 : decode c_D_least 10 = .ok (.iconst 0, 1) := by decide +kernel
theorem d_D_least_11 : decode c_D_least 11 = .ok (.iload 4, 2) := by decide +kernel
theorem d_D_least_13 : decode c_D_least 13 = .ok (.invokestatic 67, 3) := by decide +kernel
theorem d_D_least_16 : decode c_D_least 16 = .ok (.iload_n 1, 1) := by decide +kernel
theorem d_D_least_17 : decode c_D_least 17 = .ok (.iload_n 2, 1) := by decide +kernel
theorem d_D_least_18 : decode c_D_least 18 = .ok (.invokestatic 145, 3) := by decide +kernel
theorem d_D_least_21 : decode c_D_least 21 = .ok (.aload_n 0, 1) := by decide +kernel
theorem d_D_least_22 : decode c_D_least 22 = .ok (.getfield 35, 3) := by decide +kernel
theorem d_D_least_25 : decode c_D_least 25 = .ok (.iload_n 1, 1) := by decide +kernel
theorem d_D_least_26 : decode c_D_least 26 = .ok (.iload_n 2, 1) := by decide +kernel
theorem d_D_least_27 : decode c_D_least 27 = .ok (.invokevirtual 156, 3) := by decide +kernel
theorem d_D_least_30 : decode c_D_least 30 = .ok (.iconst 0, 1) := by decide +kernel
theorem d_D_least_31 : decode c_D_least 31 = .ok (.istore 5, 2) := by decide +kernel
theorem d_D_least_33 : decode c_D_least 33 = .ok (.iload 5, 2) := by decide +kernel
theorem d_D_least_35 : decode c_D_least 35 = .ok (.bipush 40, 2) := by decide +kernel
theorem d_D_least_37 : decode c_D_least 37 = .ok (.if_icmp .gt 44, 3) := by decide +kernel
theorem d_D_least_40 : decode c_D_least 40 = .ok (.aload_n 0, 1) := by decide +kernel
theorem d_D_least_41 : decode c_D_least 41 = .ok (.getfield 35, 3) := by decide +kernel
theorem d_D_least_44 : decode c_D_least 44 = .ok (.getfield 162, 3) := by decide +kernel
theorem d_D_least_47 : decode c_D_least 47 = .ok (.iload 4, 2) := by decide +kernel
theorem d_D_least_49 : decode c_D_least 49 = .ok (.i2l, 1) := by decide +kernel
theorem d_D_least_50 : decode c_D_least 50 = .ok (.lmul, 1) := by decide +kernel
theorem d_D_least_51 : decode c_D_least 51 = .ok (.aload_n 0, 1) := by decide +kernel
theorem d_D_least_52 : decode c_D_least 52 = .ok (.getfield 35, 3) := by decide +kernel
theorem d_D_least_55 : decode c_D_least 55 = .ok (.getfield 166, 3) := by decide +kernel
theorem d_D_least_58 : decode c_D_least 58 = .ok (.iload_n 3, 1) := by decide +kernel
theorem d_D_least_59 : decode c_D_least 59 = .ok (.i2l, 1) := by decide +kernel
theorem d_D_least_60 : decode c_D_least 60 = .ok (.lmul, 1) := by decide +kernel
theorem d_D_least_61 : decode c_D_least 61 = .ok (.lcmp, 1) := by decide +kernel
theorem d_D_least_62 : decode c_D_least 62 = .ok (.ifCond .lt 6, 3) := by decide +kernel
theorem d_D_least_65 : decode c_D_least 65 = .ok (.iload 5, 2) := by decide +kernel
theorem d_D_least_67 : decode c_D_least 67 = .ok (.ireturn, 1) := by decide +kernel
theorem d_D_least_68 : decode c_D_least 68 = .ok (.aload_n 0, 1) := by decide +kernel
theorem d_D_least_69 : decode c_D_least 69 = .ok (.getfield 35, 3) := by decide +kernel
theorem d_D_least_72 : decode c_D_least 72 = .ok (.invokevirtual 159, 3) := by decide +kernel
theorem d_D_least_75 : decode c_D_least 75 = .ok (.iinc 5 1, 3) := by decide +kernel
theorem d_D_least_78 : decode c_D_least 78 = .ok (.goto (-45), 3) := by decide +kernel
theorem d_D_least_81 : decode c_D_least 81 = .ok (.iconst (-1), 1) := by decide +kernel
theorem d_D_least_82 : decode c_D_least 82 = .ok (.ireturn, 1) := by decide +kernel
theorem d_D_mean_0 : decode c_D_mean 0 = .ok (.iload_n 1, 1) := by decide +kernel
theorem d_D_mean_1 : decode c_D_mean 1 = .ok (.invokestatic 43, 3) := by decide +kernel
theorem d_D_mean_4 : decode c_D_mean 4 = .ok (.iload_n 2, 1) := by decide +kernel
theorem d_D_mean_5 : decode c_D_mean 5 = .ok (.invokestatic 64, 3) := by decide +kernel
theorem d_D_mean_8 : decode c_D_mean 8 = .ok (.iload_n 3, 1) := by decide +kernel
theorem d_D_mean_9 : decode c_D_mean 9 = .ok (.invokestatic 112, 3) := by decide +kernel
theorem d_D_mean_12 : decode c_D_mean 12 = .ok (.aload_n 0, 1) := by decide +kernel
theorem d_D_mean_13 : decode c_D_mean 13 = .ok (.getfield 14, 3) := by decide +kernel
theorem d_D_mean_16 : decode c_D_mean 16 = .ok (.iload_n 1, 1) := by decide +kernel
theorem d_D_mean_17 : decode c_D_mean 17 = .ok (.iload_n 2, 1) := by decide +kernel
theorem d_D_mean_18 : decode c_D_mean 18 = .ok (.invokevirtual 109, 3) := by decide +kernel
theorem d_D_mean_21 : decode c_D_mean 21 = .ok (.i2l, 1) := by decide +kernel
theorem d_D_mean_22 : decode c_D_mean 22 = .ok (.aload_n 0, 1) := by decide +kernel
theorem d_D_mean_23 : decode c_D_mean 23 = .ok (.getfield 14, 3) := by decide +kernel
theorem d_D_mean_26 : decode c_D_mean 26 = .ok (.iload_n 1, 1) := by decide +kernel
theorem d_D_mean_27 : decode c_D_mean 27 = .ok (.iload_n 2, 1) := by decide +kernel
theorem d_D_mean_28 : decode c_D_mean 28 = .ok (.invokevirtual 106, 3) := by decide +kernel
theorem d_D_mean_31 : decode c_D_mean 31 = .ok (.i2l, 1) := by decide +kernel
theorem d_D_mean_32 : decode c_D_mean 32 = .ok (.iload_n 3, 1) := by decide +kernel
theorem d_D_mean_33 : decode c_D_mean 33 = .ok (.invokestatic 138, 3) := by decide +kernel
theorem d_D_mean_36 : decode c_D_mean 36 = .ok (.lreturn, 1) := by decide +kernel
theorem d_D_weight_0 : decode c_D_weight 0 = .ok (.iload_n 1, 1) := by decide +kernel
theorem d_D_weight_1 : decode c_D_weight 1 = .ok (.invokestatic 43, 3) := by decide +kernel
theorem d_D_weight_4 : decode c_D_weight 4 = .ok (.iload_n 2, 1) := by decide +kernel
theorem d_D_weight_5 : decode c_D_weight 5 = .ok (.invokestatic 64, 3) := by decide +kernel
theorem d_D_weight_8 : decode c_D_weight 8 = .ok (.iload_n 3, 1) := by decide +kernel
theorem d_D_weight_9 : decode c_D_weight 9 = .ok (.invokestatic 112, 3) := by decide +kernel
theorem d_D_weight_12 : decode c_D_weight 12 = .ok (.aload_n 0, 1) := by decide +kernel
theorem d_D_weight_13 : decode c_D_weight 13 = .ok (.getfield 14, 3) := by decide +kernel
theorem d_D_weight_16 : decode c_D_weight 16 = .ok (.iload_n 1, 1) := by decide +kernel
theorem d_D_weight_17 : decode c_D_weight 17 = .ok (.iload_n 2, 1) := by decide +kernel
theorem d_D_weight_18 : decode c_D_weight 18 = .ok (.invokevirtual 106, 3) := by decide +kernel
theorem d_D_weight_21 : decode c_D_weight 21 = .ok (.i2l, 1) := by decide +kernel
theorem d_D_weight_22 : decode c_D_weight 22 = .ok (.aload_n 0, 1) := by decide +kernel
theorem d_D_weight_23 : decode c_D_weight 23 = .ok (.getfield 14, 3) := by decide +kernel
theorem d_D_weight_26 : decode c_D_weight 26 = .ok (.iconst 4, 1) := by decide +kernel
theorem d_D_weight_27 : decode c_D_weight 27 = .ok (.iload_n 2, 1) := by decide +kernel
theorem d_D_weight_28 : decode c_D_weight 28 = .ok (.invokevirtual 106, 3) := by decide +kernel
theorem d_D_weight_31 : decode c_D_weight 31 = .ok (.i2l, 1) := by decide +kernel
theorem d_D_weight_32 : decode c_D_weight 32 = .ok (.iload_n 3, 1) := by decide +kernel
theorem d_D_weight_33 : decode c_D_weight 33 = .ok (.invokestatic 138, 3) := by decide +kernel
theorem d_D_weight_36 : decode c_D_weight 36 = .ok (.lreturn, 1) := by decide +kernel
theorem d_D_joined_0 : decode c_D_joined 0 = .ok (.iload_n 1, 1) := by decide +kernel
theorem d_D_joined_1 : decode c_D_joined 1 = .ok (.invokestatic 64, 3) := by decide +kernel
theorem d_D_joined_4 : decode c_D_joined 4 = .ok (.iload_n 2, 1) := by decide +kernel
theorem d_D_joined_5 : decode c_D_joined 5 = .ok (.invokestatic 112, 3) := by decide +kernel
theorem d_D_joined_8 : decode c_D_joined 8 = .ok (.aload_n 0, 1) := by decide +kernel
theorem d_D_joined_9 : decode c_D_joined 9 = .ok (.getfield 14, 3) := by decide +kernel
theorem d_D_joined_12 : decode c_D_joined 12 = .ok (.iconst 4, 1) := by decide +kernel
theorem d_D_joined_13 : decode c_D_joined 13 = .ok (.iload_n 1, 1) := by decide +kernel
theorem d_D_joined_14 : decode c_D_joined 14 = .ok (.invokevirtual 109, 3) := by decide +kernel
theorem d_D_joined_17 : decode c_D_joined 17 = .ok (.i2l, 1) := by decide +kernel
theorem d_D_joined_18 : decode c_D_joined 18 = .ok (.aload_n 0, 1) := by decide +kernel
theorem d_D_joined_19 : decode c_D_joined 19 = .ok (.getfield 14, 3) := by decide +kernel
theorem d_D_joined_22 : decode c_D_joined 22 = .ok (.iconst 4, 1) := by decide +kernel
theorem d_D_joined_23 : decode c_D_joined 23 = .ok (.iload_n 1, 1) := by decide +kernel
theorem d_D_joined_24 : decode c_D_joined 24 = .ok (.invokevirtual 106, 3) := by decide +kernel
theorem d_D_joined_27 : decode c_D_joined 27 = .ok (.i2l, 1) := by decide +kernel
theorem d_D_joined_28 : decode c_D_joined 28 = .ok (.iload_n 2, 1) := by decide +kernel
theorem d_D_joined_29 : decode c_D_joined 29 = .ok (.invokestatic 138, 3) := by decide +kernel
theorem d_D_joined_32 : decode c_D_joined 32 = .ok (.lreturn, 1) := by decide +kernel
theorem d_D_reader_0 : decode c_D_reader 0 = .ok (.aload_n 0, 1) := by decide +kernel
theorem d_D_reader_1 : decode c_D_reader 1 = .ok (.iload_n 1, 1) := by decide +kernel
theorem d_D_reader_2 : decode c_D_reader 2 = .ok (.invokevirtual 61, 3) := by decide +kernel
theorem d_D_reader_5 : decode c_D_reader 5 = .ok (.iload_n 2, 1) := by decide +kernel
theorem d_D_reader_6 : decode c_D_reader 6 = .ok (.iconst 2, 1) := by decide +kernel
theorem d_D_reader_7 : decode c_D_reader 7 = .ok (.invokestatic 86, 3) := by decide +kernel
theorem d_D_reader_10 : decode c_D_reader 10 = .ok (.iload_n 3, 1) := by decide +kernel
theorem d_D_reader_11 : decode c_D_reader 11 = .ok (.iconst 0, 1) := by decide +kernel
theorem d_D_reader_12 : decode c_D_reader 12 = .ok (.ldc 169, 2) := by decide +kernel
theorem d_D_reader_14 : decode c_D_reader 14 = .ok (.invokestatic 67, 3) := by decide +kernel
theorem d_D_reader_17 : decode c_D_reader 17 = .ok (.aload_n 0, 1) := by decide +kernel
theorem d_D_reader_18 : decode c_D_reader 18 = .ok (.getfield 21, 3) := by decide +kernel
theorem d_D_reader_21 : decode c_D_reader 21 = .ok (.iload_n 1, 1) := by decide +kernel
theorem d_D_reader_22 : decode c_D_reader 22 = .ok (.iload_n 2, 1) := by decide +kernel
theorem d_D_reader_23 : decode c_D_reader 23 = .ok (.iload_n 3, 1) := by decide +kernel
theorem d_D_reader_24 : decode c_D_reader 24 = .ok (.invokevirtual 170, 3) := by decide +kernel
theorem d_D_reader_27 : decode c_D_reader 27 = .ok (.aload_n 0, 1) := by decide +kernel
theorem d_D_reader_28 : decode c_D_reader 28 = .ok (.getfield 21, 3) := by decide +kernel
theorem d_D_reader_31 : decode c_D_reader 31 = .ok (.iload_n 1, 1) := by decide +kernel
theorem d_D_reader_32 : decode c_D_reader 32 = .ok (.invokevirtual 173, 3) := by decide +kernel
theorem d_D_reader_35 : decode c_D_reader 35 = .ok (.ireturn, 1) := by decide +kernel
theorem d_D_unlike_0 : decode c_D_unlike 0 = .ok (.iload_n 1, 1) := by decide +kernel
theorem d_D_unlike_1 : decode c_D_unlike 1 = .ok (.aload_n 0, 1) := by decide +kernel
theorem d_D_unlike_2 : decode c_D_unlike 2 = .ok (.getfield 14, 3) := by decide +kernel
theorem d_D_unlike_5 : decode c_D_unlike 5 = .ok (.getfield 46, 3) := by decide +kernel
theorem d_D_unlike_8 : decode c_D_unlike 8 = .ok (.iconst 1, 1) := by decide +kernel
theorem d_D_unlike_9 : decode c_D_unlike 9 = .ok (.iadd, 1) := by decide +kernel
theorem d_D_unlike_10 : decode c_D_unlike 10 = .ok (.invokestatic 86, 3) := by decide +kernel
theorem d_D_unlike_13 : decode c_D_unlike 13 = .ok (.iload_n 1, 1) := by decide +kernel
theorem d_D_unlike_14 : decode c_D_unlike 14 = .ok (.istore_n 2, 1) := by decide +kernel
theorem d_D_unlike_15 : decode c_D_unlike 15 = .ok (.iload_n 2, 1) := by decide +kernel
theorem d_D_unlike_16 : decode c_D_unlike 16 = .ok (.aload_n 0, 1) := by decide +kernel
theorem d_D_unlike_17 : decode c_D_unlike 17 = .ok (.getfield 14, 3) := by decide +kernel
theorem d_D_unlike_20 : decode c_D_unlike 20 = .ok (.getfield 46, 3) := by decide +kernel
theorem d_D_unlike_23 : decode c_D_unlike 23 = .ok (.if_icmp .ge 22, 3) := by decide +kernel
theorem d_D_unlike_26 : decode c_D_unlike 26 = .ok (.aload_n 0, 1) := by decide +kernel
theorem d_D_unlike_27 : decode c_D_unlike 27 = .ok (.getfield 21, 3) := by decide +kernel
theorem d_D_unlike_30 : decode c_D_unlike 30 = .ok (.iload_n 2, 1) := by decide +kernel
theorem d_D_unlike_31 : decode c_D_unlike 31 = .ok (.invokevirtual 173, 3) := by decide +kernel
theorem d_D_unlike_34 : decode c_D_unlike 34 = .ok (.ifCond .eq 5, 3) := by decide +kernel
theorem d_D_unlike_37 : decode c_D_unlike 37 = .ok (.iload_n 2, 1) := by decide +kernel
theorem d_D_unlike_38 : decode c_D_unlike 38 = .ok (.ireturn, 1) := by decide +kernel
theorem d_D_unlike_39 : decode c_D_unlike 39 = .ok (.iinc 2 1, 3) := by decide +kernel
theorem d_D_unlike_42 : decode c_D_unlike 42 = .ok (.goto (-27), 3) := by decide +kernel
theorem d_D_unlike_45 : decode c_D_unlike 45 = .ok (.iconst (-1), 1) := by decide +kernel
theorem d_D_unlike_46 : decode c_D_unlike 46 = .ok (.ireturn, 1) := by decide +kernel
theorem d_D_price_0 : decode c_D_price 0 = .ok (.iload_n 1, 1) := by decide +kernel
theorem d_D_price_1 : decode c_D_price 1 = .ok (.invokestatic 64, 3) := by decide +kernel
theorem d_D_price_4 : decode c_D_price 4 = .ok (.iload_n 2, 1) := by decide +kernel
theorem d_D_price_5 : decode c_D_price 5 = .ok (.iconst 0, 1) := by decide +kernel
theorem d_D_price_6 : decode c_D_price 6 = .ok (.ldc 169, 2) := by decide +kernel
theorem d_D_price_8 : decode c_D_price 8 = .ok (.invokestatic 67, 3) := by decide +kernel
theorem d_D_price_11 : decode c_D_price 11 = .ok (.aload_n 0, 1) := by decide +kernel
theorem d_D_price_12 : decode c_D_price 12 = .ok (.getfield 39, 3) := by decide +kernel
theorem d_D_price_15 : decode c_D_price 15 = .ok (.iload_n 1, 1) := by decide +kernel
theorem d_D_price_16 : decode c_D_price 16 = .ok (.iload_n 2, 1) := by decide +kernel
theorem d_D_price_17 : decode c_D_price 17 = .ok (.iastore, 1) := by decide +kernel
theorem d_D_price_18 : decode c_D_price 18 = .ok (.return_, 1) := by decide +kernel
theorem d_D_lost_0 : decode c_D_lost 0 = .ok (.lconst 0, 1) := by decide +kernel
theorem d_D_lost_1 : decode c_D_lost 1 = .ok (.lstore_n 1, 1) := by decide +kernel
theorem d_D_lost_2 : decode c_D_lost 2 = .ok (.iconst 0, 1) := by decide +kernel
theorem d_D_lost_3 : decode c_D_lost 3 = .ok (.istore_n 3, 1) := by decide +kernel
theorem d_D_lost_4 : decode c_D_lost 4 = .ok (.iload_n 3, 1) := by decide +kernel
theorem d_D_lost_5 : decode c_D_lost 5 = .ok (.iconst 3, 1) := by decide +kernel
theorem d_D_lost_6 : decode c_D_lost 6 = .ok (.if_icmp .ge 30, 3) := by decide +kernel
theorem d_D_lost_9 : decode c_D_lost 9 = .ok (.lload_n 1, 1) := by decide +kernel
theorem d_D_lost_10 : decode c_D_lost 10 = .ok (.aload_n 0, 1) := by decide +kernel
theorem d_D_lost_11 : decode c_D_lost 11 = .ok (.getfield 39, 3) := by decide +kernel
theorem d_D_lost_14 : decode c_D_lost 14 = .ok (.iload_n 3, 1) := by decide +kernel
theorem d_D_lost_15 : decode c_D_lost 15 = .ok (.iaload, 1) := by decide +kernel
theorem d_D_lost_16 : decode c_D_lost 16 = .ok (.i2l, 1) := by decide +kernel
theorem d_D_lost_17 : decode c_D_lost 17 = .ok (.aload_n 0, 1) := by decide +kernel
theorem d_D_lost_18 : decode c_D_lost 18 = .ok (.getfield 14, 3) := by decide +kernel
theorem d_D_lost_21 : decode c_D_lost 21 = .ok (.iconst 4, 1) := by decide +kernel
theorem d_D_lost_22 : decode c_D_lost 22 = .ok (.iload_n 3, 1) := by decide +kernel
theorem d_D_lost_23 : decode c_D_lost 23 = .ok (.invokevirtual 109, 3) := by decide +kernel
theorem d_D_lost_26 : decode c_D_lost 26 = .ok (.i2l, 1) := by decide +kernel
theorem d_D_lost_27 : decode c_D_lost 27 = .ok (.lmul, 1) := by decide +kernel
theorem d_D_lost_28 : decode c_D_lost 28 = .ok (.lsub, 1) := by decide +kernel
theorem d_D_lost_29 : decode c_D_lost 29 = .ok (.lstore_n 1, 1) := by decide +kernel
theorem d_D_lost_30 : decode c_D_lost 30 = .ok (.iinc 3 1, 3) := by decide +kernel
theorem d_D_lost_33 : decode c_D_lost 33 = .ok (.goto (-29), 3) := by decide +kernel
theorem d_D_lost_36 : decode c_D_lost 36 = .ok (.lload_n 1, 1) := by decide +kernel
theorem d_D_lost_37 : decode c_D_lost 37 = .ok (.lreturn, 1) := by decide +kernel
theorem d_D_needIndex_0 : decode c_D_needIndex 0 = .ok (.iload_n 0, 1) := by decide +kernel
theorem d_D_needIndex_1 : decode c_D_needIndex 1 = .ok (.ifCond .lt 8, 3) := by decide +kernel
theorem d_D_needIndex_4 : decode c_D_needIndex 4 = .ok (.iload_n 0, 1) := by decide +kernel
theorem d_D_needIndex_5 : decode c_D_needIndex 5 = .ok (.iload_n 1, 1) := by decide +kernel
theorem d_D_needIndex_6 : decode c_D_needIndex 6 = .ok (.if_icmp .lt 13, 3) := by decide +kernel
theorem d_D_needIndex_9 : decode c_D_needIndex 9 = .ok (.new 177, 3) := by decide +kernel
theorem d_D_needIndex_12 : decode c_D_needIndex 12 = .ok (.dup, 1) := by decide +kernel
theorem d_D_needIndex_13 : decode c_D_needIndex 13 = .ok (.ldc 179, 2) := by decide +kernel
theorem d_D_needIndex_15 : decode c_D_needIndex 15 = .ok (.invokespecial 181, 3) := by decide +kernel
theorem d_D_needIndex_18 : decode c_D_needIndex 18 = .ok (.athrow, 1) := by decide +kernel
theorem d_D_needIndex_19 : decode c_D_needIndex 19 = .ok (.return_, 1) := by decide +kernel
theorem d_D_needShip_0 : decode c_D_needShip 0 = .ok (.iload_n 0, 1) := by decide +kernel
theorem d_D_needShip_1 : decode c_D_needShip 1 = .ok (.iconst 4, 1) := by decide +kernel
theorem d_D_needShip_2 : decode c_D_needShip 2 = .ok (.invokestatic 86, 3) := by decide +kernel
theorem d_D_needShip_5 : decode c_D_needShip 5 = .ok (.return_, 1) := by decide +kernel
theorem d_D_needKind_0 : decode c_D_needKind 0 = .ok (.iload_n 0, 1) := by decide +kernel
theorem d_D_needKind_1 : decode c_D_needKind 1 = .ok (.iconst 3, 1) := by decide +kernel
theorem d_D_needKind_2 : decode c_D_needKind 2 = .ok (.invokestatic 86, 3) := by decide +kernel
theorem d_D_needKind_5 : decode c_D_needKind 5 = .ok (.return_, 1) := by decide +kernel
theorem d_D_needPart_0 : decode c_D_needPart 0 = .ok (.iload_n 0, 1) := by decide +kernel
theorem d_D_needPart_1 : decode c_D_needPart 1 = .ok (.iconst 2, 1) := by decide +kernel
theorem d_D_needPart_2 : decode c_D_needPart 2 = .ok (.invokestatic 86, 3) := by decide +kernel
theorem d_D_needPart_5 : decode c_D_needPart 5 = .ok (.return_, 1) := by decide +kernel
theorem d_D_needHaul_0 : decode c_D_needHaul 0 = .ok (.iload_n 1, 1) := by decide +kernel
theorem d_D_needHaul_1 : decode c_D_needHaul 1 = .ok (.aload_n 0, 1) := by decide +kernel
theorem d_D_needHaul_2 : decode c_D_needHaul 2 = .ok (.getfield 14, 3) := by decide +kernel
theorem d_D_needHaul_5 : decode c_D_needHaul 5 = .ok (.getfield 46, 3) := by decide +kernel
theorem d_D_needHaul_8 : decode c_D_needHaul 8 = .ok (.invokestatic 86, 3) := by decide +kernel
theorem d_D_needHaul_11 : decode c_D_needHaul 11 = .ok (.return_, 1) := by decide +kernel
theorem d_D_needPair_0 : decode c_D_needPair 0 = .ok (.iload_n 1, 1) := by decide +kernel
theorem d_D_needPair_1 : decode c_D_needPair 1 = .ok (.aload_n 0, 1) := by decide +kernel
theorem d_D_needPair_2 : decode c_D_needPair 2 = .ok (.getfield 14, 3) := by decide +kernel
theorem d_D_needPair_5 : decode c_D_needPair 5 = .ok (.getfield 99, 3) := by decide +kernel
theorem d_D_needPair_8 : decode c_D_needPair 8 = .ok (.invokestatic 86, 3) := by decide +kernel
theorem d_D_needPair_11 : decode c_D_needPair 11 = .ok (.return_, 1) := by decide +kernel
theorem d_D_needNumber_0 : decode c_D_needNumber 0 = .ok (.iload_n 0, 1) := by decide +kernel
theorem d_D_needNumber_1 : decode c_D_needNumber 1 = .ok (.iload_n 1, 1) := by decide +kernel
theorem d_D_needNumber_2 : decode c_D_needNumber 2 = .ok (.if_icmp .lt 8, 3) := by decide +kernel
theorem d_D_needNumber_5 : decode c_D_needNumber 5 = .ok (.iload_n 0, 1) := by decide +kernel
theorem d_D_needNumber_6 : decode c_D_needNumber 6 = .ok (.iload_n 2, 1) := by decide +kernel
theorem d_D_needNumber_7 : decode c_D_needNumber 7 = .ok (.if_icmp .le 13, 3) := by decide +kernel
theorem d_D_needNumber_10 : decode c_D_needNumber 10 = .ok (.new 182, 3) := by decide +kernel
theorem d_D_needNumber_13 : decode c_D_needNumber 13 = .ok (.dup, 1) := by decide +kernel
theorem d_D_needNumber_14 : decode c_D_needNumber 14 = .ok (.ldc 184, 2) := by decide +kernel
theorem d_D_needNumber_16 : decode c_D_needNumber 16 = .ok (.invokespecial 186, 3) := by decide +kernel
theorem d_D_needNumber_19 : decode c_D_needNumber 19 = .ok (.athrow, 1) := by decide +kernel
theorem d_D_needNumber_20 : decode c_D_needNumber 20 = .ok (.return_, 1) := by decide +kernel
theorem d_D_needBounds_0 : decode c_D_needBounds 0 = .ok (.iload_n 0, 1) := by decide +kernel
theorem d_D_needBounds_1 : decode c_D_needBounds 1 = .ok (.iconst 1, 1) := by decide +kernel
theorem d_D_needBounds_2 : decode c_D_needBounds 2 = .ok (.bipush 16, 2) := by decide +kernel
theorem d_D_needBounds_4 : decode c_D_needBounds 4 = .ok (.invokestatic 67, 3) := by decide +kernel
theorem d_D_needBounds_7 : decode c_D_needBounds 7 = .ok (.iload_n 1, 1) := by decide +kernel
theorem d_D_needBounds_8 : decode c_D_needBounds 8 = .ok (.iconst 1, 1) := by decide +kernel
theorem d_D_needBounds_9 : decode c_D_needBounds 9 = .ok (.bipush 16, 2) := by decide +kernel
theorem d_D_needBounds_11 : decode c_D_needBounds 11 = .ok (.invokestatic 67, 3) := by decide +kernel
theorem d_D_needBounds_14 : decode c_D_needBounds 14 = .ok (.return_, 1) := by decide +kernel
theorem d_D_toldPart_0 : decode c_D_toldPart 0 = .ok (.lload_n 2, 1) := by decide +kernel
theorem d_D_toldPart_1 : decode c_D_toldPart 1 = .ok (.lconst 1, 1) := by decide +kernel
theorem d_D_toldPart_2 : decode c_D_toldPart 2 = .ok (.lcmp, 1) := by decide +kernel
theorem d_D_toldPart_3 : decode c_D_toldPart 3 = .ok (.ifCond .ge 14, 3) := by decide +kernel
theorem d_D_toldPart_6 : decode c_D_toldPart 6 = .ok (.iload 4, 2) := by decide +kernel
theorem d_D_toldPart_8 : decode c_D_toldPart 8 = .ok (.ifCond .ne 7, 3) := by decide +kernel
theorem d_D_toldPart_11 : decode c_D_toldPart 11 = .ok (.lconst 0, 1) := by decide +kernel
theorem d_D_toldPart_12 : decode c_D_toldPart 12 = .ok (.goto 4, 3) := by decide +kernel
theorem d_D_toldPart_15 : decode c_D_toldPart 15 = .ok (.lconst 1, 1) := by decide +kernel
theorem d_D_toldPart_16 : decode c_D_toldPart 16 = .ok (.lreturn, 1) := by decide +kernel
theorem d_D_toldPart_17 : decode c_D_toldPart 17 = .ok (.lload_n 0, 1) := by decide +kernel
theorem d_D_toldPart_18 : decode c_D_toldPart 18 = .ok (.invokestatic 187, 3) := by decide +kernel
theorem d_D_toldPart_21 : decode c_D_toldPart 21 = .ok (.lload_n 2, 1) := by decide +kernel
theorem d_D_toldPart_22 : decode c_D_toldPart 22 = .ok (.invokestatic 190, 3) := by decide +kernel
theorem d_D_toldPart_25 : decode c_D_toldPart 25 = .ok (.lstore 5, 2) := by decide +kernel
theorem d_D_toldPart_27 : decode c_D_toldPart 27 = .ok (.lload 5, 2) := by decide +kernel
theorem d_D_toldPart_29 : decode c_D_toldPart 29 = .ok (.lconst 1, 1) := by decide +kernel
theorem d_D_toldPart_30 : decode c_D_toldPart 30 = .ok (.lcmp, 1) := by decide +kernel
theorem d_D_toldPart_31 : decode c_D_toldPart 31 = .ok (.ifCond .ge 14, 3) := by decide +kernel
theorem d_D_toldPart_34 : decode c_D_toldPart 34 = .ok (.iload 4, 2) := by decide +kernel
theorem d_D_toldPart_36 : decode c_D_toldPart 36 = .ok (.ifCond .ne 7, 3) := by decide +kernel
theorem d_D_toldPart_39 : decode c_D_toldPart 39 = .ok (.lload_n 0, 1) := by decide +kernel
theorem d_D_toldPart_40 : decode c_D_toldPart 40 = .ok (.goto 4, 3) := by decide +kernel
theorem d_D_toldPart_43 : decode c_D_toldPart 43 = .ok (.lload_n 2, 1) := by decide +kernel
theorem d_D_toldPart_44 : decode c_D_toldPart 44 = .ok (.lreturn, 1) := by decide +kernel
theorem d_D_toldPart_45 : decode c_D_toldPart 45 = .ok (.iload 4, 2) := by decide +kernel
theorem d_D_toldPart_47 : decode c_D_toldPart 47 = .ok (.ifCond .ne 10, 3) := by decide +kernel
theorem d_D_toldPart_50 : decode c_D_toldPart 50 = .ok (.lload_n 0, 1) := by decide +kernel
theorem d_D_toldPart_51 : decode c_D_toldPart 51 = .ok (.lload 5, 2) := by decide +kernel
theorem d_D_toldPart_53 : decode c_D_toldPart 53 = .ok (.ldiv, 1) := by decide +kernel
theorem d_D_toldPart_54 : decode c_D_toldPart 54 = .ok (.goto 7, 3) := by decide +kernel
theorem d_D_toldPart_57 : decode c_D_toldPart 57 = .ok (.lload_n 2, 1) := by decide +kernel
theorem d_D_toldPart_58 : decode c_D_toldPart 58 = .ok (.lload 5, 2) := by decide +kernel
theorem d_D_toldPart_60 : decode c_D_toldPart 60 = .ok (.ldiv, 1) := by decide +kernel
theorem d_D_toldPart_61 : decode c_D_toldPart 61 = .ok (.lreturn, 1) := by decide +kernel
theorem d_D_commonDivisor_0 : decode c_D_commonDivisor 0 = .ok (.lload_n 2, 1) := by decide +kernel
theorem d_D_commonDivisor_1 : decode c_D_commonDivisor 1 = .ok (.lstore 4, 2) := by decide +kernel
theorem d_D_commonDivisor_3 : decode c_D_commonDivisor 3 = .ok (.lload_n 0, 1) := by decide +kernel
theorem d_D_commonDivisor_4 : decode c_D_commonDivisor 4 = .ok (.lstore 6, 2) := by decide +kernel
theorem d_D_commonDivisor_6 : decode c_D_commonDivisor 6 = .ok (.iconst 0, 1) := by decide +kernel
theorem d_D_commonDivisor_7 : decode c_D_commonDivisor 7 = .ok (.istore 8, 2) := by decide +kernel
theorem d_D_commonDivisor_9 : decode c_D_commonDivisor 9 = .ok (.iload 8, 2) := by decide +kernel
theorem d_D_commonDivisor_11 : decode c_D_commonDivisor 11 = .ok (.bipush 100, 2) := by decide +kernel
theorem d_D_commonDivisor_13 : decode c_D_commonDivisor 13 = .ok (.if_icmp .ge 31, 3) := by decide +kernel
theorem d_D_commonDivisor_16 : decode c_D_commonDivisor 16 = .ok (.lload 6, 2) := by decide +kernel
theorem d_D_commonDivisor_18 : decode c_D_commonDivisor 18 = .ok (.lconst 0, 1) := by decide +kernel
theorem d_D_commonDivisor_19 : decode c_D_commonDivisor 19 = .ok (.lcmp, 1) := by decide +kernel
theorem d_D_commonDivisor_20 : decode c_D_commonDivisor 20 = .ok (.ifCond .eq 24, 3) := by decide +kernel
theorem d_D_commonDivisor_23 : decode c_D_commonDivisor 23 = .ok (.lload 4, 2) := by decide +kernel
theorem d_D_commonDivisor_25 : decode c_D_commonDivisor 25 = .ok (.lload 6, 2) := by decide +kernel
theorem d_D_commonDivisor_27 : decode c_D_commonDivisor 27 = .ok (.lrem, 1) := by decide +kernel
theorem d_D_commonDivisor_28 : decode c_D_commonDivisor 28 = .ok (.lstore 9, 2) := by decide +kernel
theorem d_D_commonDivisor_30 : decode c_D_commonDivisor 30 = .ok (.lload 6, 2) := by decide +kernel
theorem d_D_commonDivisor_32 : decode c_D_commonDivisor 32 = .ok (.lstore 4, 2) := by decide +kernel
theorem d_D_commonDivisor_34 : decode c_D_commonDivisor 34 = .ok (.lload 9, 2) := by decide +kernel
theorem d_D_commonDivisor_36 : decode c_D_commonDivisor 36 = .ok (.lstore 6, 2) := by decide +kernel
theorem d_D_commonDivisor_38 : decode c_D_commonDivisor 38 = .ok (.iinc 8 1, 3) := by decide +kernel
theorem d_D_commonDivisor_41 : decode c_D_commonDivisor 41 = .ok (.goto (-32), 3) := by decide +kernel
theorem d_D_commonDivisor_44 : decode c_D_commonDivisor 44 = .ok (.lload 4, 2) := by decide +kernel
theorem d_D_commonDivisor_46 : decode c_D_commonDivisor 46 = .ok (.lreturn, 1) := by decide +kernel
theorem d_J_init_0 : decode c_J_init 0 = .ok (.aload_n 0, 1) := by decide +kernel
theorem d_J_init_1 : decode c_J_init 1 = .ok (.invokespecial 3, 3) := by decide +kernel
theorem d_J_init_4 : decode c_J_init 4 = .ok (.aload_n 0, 1) := by decide +kernel
theorem d_J_init_5 : decode c_J_init 5 = .ok (.iload_n 1, 1) := by decide +kernel
theorem d_J_init_6 : decode c_J_init 6 = .ok (.i2l, 1) := by decide +kernel
theorem d_J_init_7 : decode c_J_init 7 = .ok (.putfield 9, 3) := by decide +kernel
theorem d_J_init_10 : decode c_J_init 10 = .ok (.aload_n 0, 1) := by decide +kernel
theorem d_J_init_11 : decode c_J_init 11 = .ok (.iconst 0, 1) := by decide +kernel
theorem d_J_init_12 : decode c_J_init 12 = .ok (.putfield 15, 3) := by decide +kernel
theorem d_J_init_15 : decode c_J_init 15 = .ok (.aload_n 0, 1) := by decide +kernel
theorem d_J_init_16 : decode c_J_init 16 = .ok (.iconst 0, 1) := by decide +kernel
theorem d_J_init_17 : decode c_J_init 17 = .ok (.putfield 19, 3) := by decide +kernel
theorem d_J_init_20 : decode c_J_init 20 = .ok (.aload_n 0, 1) := by decide +kernel
theorem d_J_init_21 : decode c_J_init 21 = .ok (.iconst 4, 1) := by decide +kernel
theorem d_J_init_22 : decode c_J_init 22 = .ok (.newarray .int, 2) := by decide +kernel
theorem d_J_init_24 : decode c_J_init 24 = .ok (.putfield 22, 3) := by decide +kernel
theorem d_J_init_27 : decode c_J_init 27 = .ok (.aload_n 0, 1) := by decide +kernel
theorem d_J_init_28 : decode c_J_init 28 = .ok (.iconst 4, 1) := by decide +kernel
theorem d_J_init_29 : decode c_J_init 29 = .ok (.newarray .boolean, 2) := by decide +kernel
theorem d_J_init_31 : decode c_J_init 31 = .ok (.putfield 26, 3) := by decide +kernel
theorem d_J_init_34 : decode c_J_init 34 = .ok (.aload_n 0, 1) := by decide +kernel
theorem d_J_init_35 : decode c_J_init 35 = .ok (.bipush 32, 2) := by decide +kernel
theorem d_J_init_37 : decode c_J_init 37 = .ok (.newarray .boolean, 2) := by decide +kernel
theorem d_J_init_39 : decode c_J_init 39 = .ok (.putfield 30, 3) := by decide +kernel
theorem d_J_init_42 : decode c_J_init 42 = .ok (.aload_n 0, 1) := by decide +kernel
theorem d_J_init_43 : decode c_J_init 43 = .ok (.bipush 96, 2) := by decide +kernel
theorem d_J_init_45 : decode c_J_init 45 = .ok (.newarray .int, 2) := by decide +kernel
theorem d_J_init_47 : decode c_J_init 47 = .ok (.putfield 33, 3) := by decide +kernel
theorem d_J_init_50 : decode c_J_init 50 = .ok (.aload_n 0, 1) := by decide +kernel
theorem d_J_init_51 : decode c_J_init 51 = .ok (.bipush 16, 2) := by decide +kernel
theorem d_J_init_53 : decode c_J_init 53 = .ok (.newarray .int, 2) := by decide +kernel
theorem d_J_init_55 : decode c_J_init 55 = .ok (.putfield 36, 3) := by decide +kernel
theorem d_J_init_58 : decode c_J_init 58 = .ok (.aload_n 0, 1) := by decide +kernel
theorem d_J_init_59 : decode c_J_init 59 = .ok (.bipush 16, 2) := by decide +kernel
theorem d_J_init_61 : decode c_J_init 61 = .ok (.newarray .int, 2) := by decide +kernel
theorem d_J_init_63 : decode c_J_init 63 = .ok (.putfield 39, 3) := by decide +kernel
theorem d_J_init_66 : decode c_J_init 66 = .ok (.aload_n 0, 1) := by decide +kernel
theorem d_J_init_67 : decode c_J_init 67 = .ok (.bipush 16, 2) := by decide +kernel
theorem d_J_init_69 : decode c_J_init 69 = .ok (.newarray .int, 2) := by decide +kernel
theorem d_J_init_71 : decode c_J_init 71 = .ok (.putfield 42, 3) := by decide +kernel
theorem d_J_init_74 : decode c_J_init 74 = .ok (.iconst 0, 1) := by decide +kernel
theorem d_J_init_75 : decode c_J_init 75 = .ok (.istore_n 2, 1) := by decide +kernel
theorem d_J_init_76 : decode c_J_init 76 = .ok (.iload_n 2, 1) := by decide +kernel
theorem d_J_init_77 : decode c_J_init 77 = .ok (.iconst 4, 1) := by decide +kernel
theorem d_J_init_78 : decode c_J_init 78 = .ok (.if_icmp .ge 16, 3) := by decide +kernel
theorem d_J_init_81 : decode c_J_init 81 = .ok (.aload_n 0, 1) := by decide +kernel
theorem d_J_init_82 : decode c_J_init 82 = .ok (.getfield 22, 3) := by decide +kernel
theorem d_J_init_85 : decode c_J_init 85 = .ok (.iload_n 2, 1) := by decide +kernel
theorem d_J_init_86 : decode c_J_init 86 = .ok (.iconst (-1), 1) := by decide +kernel
theorem d_J_init_87 : decode c_J_init 87 = .ok (.iastore, 1) := by decide +kernel
theorem d_J_init_88 : decode c_J_init 88 = .ok (.iinc 2 1, 3) := by decide +kernel
theorem d_J_init_91 : decode c_J_init 91 = .ok (.goto (-15), 3) := by decide +kernel
theorem d_J_init_94 : decode c_J_init 94 = .ok (.return_, 1) := by decide +kernel
theorem d_J_addHaul_0 : decode c_J_addHaul 0 = .ok (.aload_n 0, 1) := by decide +kernel
theorem d_J_addHaul_1 : decode c_J_addHaul 1 = .ok (.getfield 15, 3) := by decide +kernel
theorem d_J_addHaul_4 : decode c_J_addHaul 4 = .ok (.istore_n 2, 1) := by decide +kernel
theorem d_J_addHaul_5 : decode c_J_addHaul 5 = .ok (.aload_n 0, 1) := by decide +kernel
theorem d_J_addHaul_6 : decode c_J_addHaul 6 = .ok (.getfield 22, 3) := by decide +kernel
theorem d_J_addHaul_9 : decode c_J_addHaul 9 = .ok (.iload_n 1, 1) := by decide +kernel
theorem d_J_addHaul_10 : decode c_J_addHaul 10 = .ok (.iaload, 1) := by decide +kernel
theorem d_J_addHaul_11 : decode c_J_addHaul 11 = .ok (.istore_n 3, 1) := by decide +kernel
theorem d_J_addHaul_12 : decode c_J_addHaul 12 = .ok (.aload_n 0, 1) := by decide +kernel
theorem d_J_addHaul_13 : decode c_J_addHaul 13 = .ok (.dup, 1) := by decide +kernel
theorem d_J_addHaul_14 : decode c_J_addHaul 14 = .ok (.getfield 15, 3) := by decide +kernel
theorem d_J_addHaul_17 : decode c_J_addHaul 17 = .ok (.iconst 1, 1) := by decide +kernel
theorem d_J_addHaul_18 : decode c_J_addHaul 18 = .ok (.iadd, 1) := by decide +kernel
theorem d_J_addHaul_19 : decode c_J_addHaul 19 = .ok (.putfield 15, 3) := by decide +kernel
theorem d_J_addHaul_22 : decode c_J_addHaul 22 = .ok (.iload_n 3, 1) := by decide +kernel
theorem d_J_addHaul_23 : decode c_J_addHaul 23 = .ok (.iconst (-1), 1) := by decide +kernel
theorem d_J_addHaul_24 : decode c_J_addHaul 24 = .ok (.if_icmp .ne 23, 3) := by decide +kernel
theorem d_J_addHaul_27 : decode c_J_addHaul 27 = .ok (.aload_n 0, 1) := by decide +kernel
theorem d_J_addHaul_28 : decode c_J_addHaul 28 = .ok (.getfield 30, 3) := by decide +kernel
end
section
theorem d_J_addHaul_31 : decode c_J_addHaul 31 = .ok (.iload_n 2, 1) := by decide +kernel
theorem d_J_addHaul_32 : decode c_J_addHaul 32 = .ok (.aload_n 0, 1) := by decide +kernel
theorem d_J_addHaul_33 : decode c_J_addHaul 33 = .ok (.invokevirtual 45, 3) := by decide +kernel
theorem d_J_addHaul_36 : decode c_J_addHaul 36 = .ok (.bastore, 1) := by decide +kernel
theorem d_J_addHaul_37 : decode c_J_addHaul 37 = .ok (.aload_n 0, 1) := by decide +kernel
theorem d_J_addHaul_38 : decode c_J_addHaul 38 = .ok (.getfield 22, 3) := by decide +kernel
theorem d_J_addHaul_41 : decode c_J_addHaul 41 = .ok (.iload_n 1, 1) := by decide +kernel
theorem d_J_addHaul_42 : decode c_J_addHaul 42 = .ok (.iload_n 2, 1) := by decide +kernel
theorem d_J_addHaul_43 : decode c_J_addHaul 43 = .ok (.iastore, 1) := by decide +kernel
theorem d_J_addHaul_44 : decode c_J_addHaul 44 = .ok (.goto 37, 3) := by decide +kernel
theorem d_J_addHaul_47 : decode c_J_addHaul 47 = .ok (.aload_n 0, 1) := by decide +kernel
theorem d_J_addHaul_48 : decode c_J_addHaul 48 = .ok (.getfield 30, 3) := by decide +kernel
theorem d_J_addHaul_51 : decode c_J_addHaul 51 = .ok (.iload_n 2, 1) := by decide +kernel
theorem d_J_addHaul_52 : decode c_J_addHaul 52 = .ok (.aload_n 0, 1) := by decide +kernel
theorem d_J_addHaul_53 : decode c_J_addHaul 53 = .ok (.getfield 30, 3) := by decide +kernel
theorem d_J_addHaul_56 : decode c_J_addHaul 56 = .ok (.iload_n 3, 1) := by decide +kernel
theorem d_J_addHaul_57 : decode c_J_addHaul 57 = .ok (.baload, 1) := by decide +kernel
theorem d_J_addHaul_58 : decode c_J_addHaul 58 = .ok (.ifCond .ne 7, 3) := by decide +kernel
theorem d_J_addHaul_61 : decode c_J_addHaul 61 = .ok (.iconst 1, 1) := by decide +kernel
theorem d_J_addHaul_62 : decode c_J_addHaul 62 = .ok (.goto 4, 3) := by decide +kernel
theorem d_J_addHaul_65 : decode c_J_addHaul 65 = .ok (.iconst 0, 1) := by decide +kernel
theorem d_J_addHaul_66 : decode c_J_addHaul 66 = .ok (.bastore, 1) := by decide +kernel
theorem d_J_addHaul_67 : decode c_J_addHaul 67 = .ok (.aload_n 0, 1) := by decide +kernel
theorem d_J_addHaul_68 : decode c_J_addHaul 68 = .ok (.getfield 22, 3) := by decide +kernel
theorem d_J_addHaul_71 : decode c_J_addHaul 71 = .ok (.iload_n 1, 1) := by decide +kernel
theorem d_J_addHaul_72 : decode c_J_addHaul 72 = .ok (.iconst (-1), 1) := by decide +kernel
theorem d_J_addHaul_73 : decode c_J_addHaul 73 = .ok (.iastore, 1) := by decide +kernel
theorem d_J_addHaul_74 : decode c_J_addHaul 74 = .ok (.aload_n 0, 1) := by decide +kernel
theorem d_J_addHaul_75 : decode c_J_addHaul 75 = .ok (.iload_n 3, 1) := by decide +kernel
theorem d_J_addHaul_76 : decode c_J_addHaul 76 = .ok (.iload_n 2, 1) := by decide +kernel
theorem d_J_addHaul_77 : decode c_J_addHaul 77 = .ok (.iload_n 1, 1) := by decide +kernel
theorem d_J_addHaul_78 : decode c_J_addHaul 78 = .ok (.invokevirtual 49, 3) := by decide +kernel
theorem d_J_addHaul_81 : decode c_J_addHaul 81 = .ok (.iload_n 2, 1) := by decide +kernel
theorem d_J_addHaul_82 : decode c_J_addHaul 82 = .ok (.ireturn, 1) := by decide +kernel
theorem d_J_drawArm_0 : decode c_J_drawArm 0 = .ok (.aload_n 0, 1) := by decide +kernel
theorem d_J_drawArm_1 : decode c_J_drawArm 1 = .ok (.aload_n 0, 1) := by decide +kernel
theorem d_J_drawArm_2 : decode c_J_drawArm 2 = .ok (.getfield 9, 3) := by decide +kernel
theorem d_J_drawArm_5 : decode c_J_drawArm 5 = .ok (.ldc2_w 53, 3) := by decide +kernel
theorem d_J_drawArm_8 : decode c_J_drawArm 8 = .ok (.lmul, 1) := by decide +kernel
theorem d_J_drawArm_9 : decode c_J_drawArm 9 = .ok (.ldc2_w 55, 3) := by decide +kernel
theorem d_J_drawArm_12 : decode c_J_drawArm 12 = .ok (.ladd, 1) := by decide +kernel
theorem d_J_drawArm_13 : decode c_J_drawArm 13 = .ok (.putfield 9, 3) := by decide +kernel
theorem d_J_drawArm_16 : decode c_J_drawArm 16 = .ok (.aload_n 0, 1) := by decide +kernel
theorem d_J_drawArm_17 : decode c_J_drawArm 17 = .ok (.getfield 9, 3) := by decide +kernel
theorem d_J_drawArm_20 : decode c_J_drawArm 20 = .ok (.bipush 40, 2) := by decide +kernel
theorem d_J_drawArm_22 : decode c_J_drawArm 22 = .ok (.lushr, 1) := by decide +kernel
theorem d_J_drawArm_23 : decode c_J_drawArm 23 = .ok (.lconst 1, 1) := by decide +kernel
theorem d_J_drawArm_24 : decode c_J_drawArm 24 = .ok (.land, 1) := by decide +kernel
theorem d_J_drawArm_25 : decode c_J_drawArm 25 = .ok (.lconst 1, 1) := by decide +kernel
theorem d_J_drawArm_26 : decode c_J_drawArm 26 = .ok (.lcmp, 1) := by decide +kernel
theorem d_J_drawArm_27 : decode c_J_drawArm 27 = .ok (.ifCond .ne 7, 3) := by decide +kernel
theorem d_J_drawArm_30 : decode c_J_drawArm 30 = .ok (.iconst 1, 1) := by decide +kernel
theorem d_J_drawArm_31 : decode c_J_drawArm 31 = .ok (.goto 4, 3) := by decide +kernel
theorem d_J_drawArm_34 : decode c_J_drawArm 34 = .ok (.iconst 0, 1) := by decide +kernel
theorem d_J_drawArm_35 : decode c_J_drawArm 35 = .ok (.ireturn, 1) := by decide +kernel
theorem d_J_addPair_0 : decode c_J_addPair 0 = .ok (.aload_n 0, 1) := by decide +kernel
theorem d_J_addPair_1 : decode c_J_addPair 1 = .ok (.getfield 30, 3) := by decide +kernel
theorem d_J_addPair_4 : decode c_J_addPair 4 = .ok (.iload_n 1, 1) := by decide +kernel
theorem d_J_addPair_5 : decode c_J_addPair 5 = .ok (.baload, 1) := by decide +kernel
theorem d_J_addPair_6 : decode c_J_addPair 6 = .ok (.istore 4, 2) := by decide +kernel
theorem d_J_addPair_8 : decode c_J_addPair 8 = .ok (.aload_n 0, 1) := by decide +kernel
theorem d_J_addPair_9 : decode c_J_addPair 9 = .ok (.getfield 36, 3) := by decide +kernel
theorem d_J_addPair_12 : decode c_J_addPair 12 = .ok (.aload_n 0, 1) := by decide +kernel
theorem d_J_addPair_13 : decode c_J_addPair 13 = .ok (.getfield 19, 3) := by decide +kernel
theorem d_J_addPair_16 : decode c_J_addPair 16 = .ok (.iload 4, 2) := by decide +kernel
theorem d_J_addPair_18 : decode c_J_addPair 18 = .ok (.ifCond .eq 7, 3) := by decide +kernel
theorem d_J_addPair_21 : decode c_J_addPair 21 = .ok (.iload_n 1, 1) := by decide +kernel
theorem d_J_addPair_22 : decode c_J_addPair 22 = .ok (.goto 4, 3) := by decide +kernel
theorem d_J_addPair_25 : decode c_J_addPair 25 = .ok (.iload_n 2, 1) := by decide +kernel
theorem d_J_addPair_26 : decode c_J_addPair 26 = .ok (.iastore, 1) := by decide +kernel
theorem d_J_addPair_27 : decode c_J_addPair 27 = .ok (.aload_n 0, 1) := by decide +kernel
theorem d_J_addPair_28 : decode c_J_addPair 28 = .ok (.getfield 39, 3) := by decide +kernel
theorem d_J_addPair_31 : decode c_J_addPair 31 = .ok (.aload_n 0, 1) := by decide +kernel
theorem d_J_addPair_32 : decode c_J_addPair 32 = .ok (.getfield 19, 3) := by decide +kernel
theorem d_J_addPair_35 : decode c_J_addPair 35 = .ok (.iload 4, 2) := by decide +kernel
theorem d_J_addPair_37 : decode c_J_addPair 37 = .ok (.ifCond .eq 7, 3) := by decide +kernel
theorem d_J_addPair_40 : decode c_J_addPair 40 = .ok (.iload_n 2, 1) := by decide +kernel
theorem d_J_addPair_41 : decode c_J_addPair 41 = .ok (.goto 4, 3) := by decide +kernel
theorem d_J_addPair_44 : decode c_J_addPair 44 = .ok (.iload_n 1, 1) := by decide +kernel
theorem d_J_addPair_45 : decode c_J_addPair 45 = .ok (.iastore, 1) := by decide +kernel
theorem d_J_addPair_46 : decode c_J_addPair 46 = .ok (.aload_n 0, 1) := by decide +kernel
theorem d_J_addPair_47 : decode c_J_addPair 47 = .ok (.getfield 42, 3) := by decide +kernel
theorem d_J_addPair_50 : decode c_J_addPair 50 = .ok (.aload_n 0, 1) := by decide +kernel
theorem d_J_addPair_51 : decode c_J_addPair 51 = .ok (.getfield 19, 3) := by decide +kernel
theorem d_J_addPair_54 : decode c_J_addPair 54 = .ok (.iload_n 3, 1) := by decide +kernel
theorem d_J_addPair_55 : decode c_J_addPair 55 = .ok (.iastore, 1) := by decide +kernel
theorem d_J_addPair_56 : decode c_J_addPair 56 = .ok (.aload_n 0, 1) := by decide +kernel
theorem d_J_addPair_57 : decode c_J_addPair 57 = .ok (.dup, 1) := by decide +kernel
theorem d_J_addPair_58 : decode c_J_addPair 58 = .ok (.getfield 19, 3) := by decide +kernel
theorem d_J_addPair_61 : decode c_J_addPair 61 = .ok (.iconst 1, 1) := by decide +kernel
theorem d_J_addPair_62 : decode c_J_addPair 62 = .ok (.iadd, 1) := by decide +kernel
theorem d_J_addPair_63 : decode c_J_addPair 63 = .ok (.putfield 19, 3) := by decide +kernel
theorem d_J_addPair_66 : decode c_J_addPair 66 = .ok (.return_, 1) := by decide +kernel
theorem d_J_putCount_0 : decode c_J_putCount 0 = .ok (.iload_n 1, 1) := by decide +kernel
theorem d_J_putCount_1 : decode c_J_putCount 1 = .ok (.iconst 3, 1) := by decide +kernel
theorem d_J_putCount_2 : decode c_J_putCount 2 = .ok (.imul, 1) := by decide +kernel
theorem d_J_putCount_3 : decode c_J_putCount 3 = .ok (.iload_n 2, 1) := by decide +kernel
theorem d_J_putCount_4 : decode c_J_putCount 4 = .ok (.iadd, 1) := by decide +kernel
theorem d_J_putCount_5 : decode c_J_putCount 5 = .ok (.istore 4, 2) := by decide +kernel
theorem d_J_putCount_7 : decode c_J_putCount 7 = .ok (.aload_n 0, 1) := by decide +kernel
theorem d_J_putCount_8 : decode c_J_putCount 8 = .ok (.getfield 33, 3) := by decide +kernel
theorem d_J_putCount_11 : decode c_J_putCount 11 = .ok (.iload 4, 2) := by decide +kernel
theorem d_J_putCount_13 : decode c_J_putCount 13 = .ok (.iaload, 1) := by decide +kernel
theorem d_J_putCount_14 : decode c_J_putCount 14 = .ok (.iload_n 3, 1) := by decide +kernel
theorem d_J_putCount_15 : decode c_J_putCount 15 = .ok (.if_icmp .eq 7, 3) := by decide +kernel
theorem d_J_putCount_18 : decode c_J_putCount 18 = .ok (.iconst 1, 1) := by decide +kernel
theorem d_J_putCount_19 : decode c_J_putCount 19 = .ok (.goto 4, 3) := by decide +kernel
theorem d_J_putCount_22 : decode c_J_putCount 22 = .ok (.iconst 0, 1) := by decide +kernel
theorem d_J_putCount_23 : decode c_J_putCount 23 = .ok (.istore 5, 2) := by decide +kernel
theorem d_J_putCount_25 : decode c_J_putCount 25 = .ok (.aload_n 0, 1) := by decide +kernel
theorem d_J_putCount_26 : decode c_J_putCount 26 = .ok (.getfield 33, 3) := by decide +kernel
theorem d_J_putCount_29 : decode c_J_putCount 29 = .ok (.iload 4, 2) := by decide +kernel
theorem d_J_putCount_31 : decode c_J_putCount 31 = .ok (.iload_n 3, 1) := by decide +kernel
theorem d_J_putCount_32 : decode c_J_putCount 32 = .ok (.iastore, 1) := by decide +kernel
theorem d_J_putCount_33 : decode c_J_putCount 33 = .ok (.iload 5, 2) := by decide +kernel
theorem d_J_putCount_35 : decode c_J_putCount 35 = .ok (.ireturn, 1) := by decide +kernel
theorem d_J_leaveOut_0 : decode c_J_leaveOut 0 = .ok (.aload_n 0, 1) := by decide +kernel
theorem d_J_leaveOut_1 : decode c_J_leaveOut 1 = .ok (.getfield 26, 3) := by decide +kernel
theorem d_J_leaveOut_4 : decode c_J_leaveOut 4 = .ok (.iload_n 1, 1) := by decide +kernel
theorem d_J_leaveOut_5 : decode c_J_leaveOut 5 = .ok (.baload, 1) := by decide +kernel
theorem d_J_leaveOut_6 : decode c_J_leaveOut 6 = .ok (.iload_n 2, 1) := by decide +kernel
theorem d_J_leaveOut_7 : decode c_J_leaveOut 7 = .ok (.if_icmp .eq 7, 3) := by decide +kernel
theorem d_J_leaveOut_10 : decode c_J_leaveOut 10 = .ok (.iconst 1, 1) := by decide +kernel
theorem d_J_leaveOut_11 : decode c_J_leaveOut 11 = .ok (.goto 4, 3) := by decide +kernel
theorem d_J_leaveOut_14 : decode c_J_leaveOut 14 = .ok (.iconst 0, 1) := by decide +kernel
theorem d_J_leaveOut_15 : decode c_J_leaveOut 15 = .ok (.istore_n 3, 1) := by decide +kernel
theorem d_J_leaveOut_16 : decode c_J_leaveOut 16 = .ok (.aload_n 0, 1) := by decide +kernel
theorem d_J_leaveOut_17 : decode c_J_leaveOut 17 = .ok (.getfield 26, 3) := by decide +kernel
theorem d_J_leaveOut_20 : decode c_J_leaveOut 20 = .ok (.iload_n 1, 1) := by decide +kernel
theorem d_J_leaveOut_21 : decode c_J_leaveOut 21 = .ok (.iload_n 2, 1) := by decide +kernel
theorem d_J_leaveOut_22 : decode c_J_leaveOut 22 = .ok (.bastore, 1) := by decide +kernel
theorem d_J_leaveOut_23 : decode c_J_leaveOut 23 = .ok (.iload_n 3, 1) := by decide +kernel
theorem d_J_leaveOut_24 : decode c_J_leaveOut 24 = .ok (.ireturn, 1) := by decide +kernel
theorem d_J_deviceCount_0 : decode c_J_deviceCount 0 = .ok (.aload_n 0, 1) := by decide +kernel
theorem d_J_deviceCount_1 : decode c_J_deviceCount 1 = .ok (.getfield 33, 3) := by decide +kernel
theorem d_J_deviceCount_4 : decode c_J_deviceCount 4 = .ok (.aload_n 0, 1) := by decide +kernel
theorem d_J_deviceCount_5 : decode c_J_deviceCount 5 = .ok (.getfield 36, 3) := by decide +kernel
theorem d_J_deviceCount_8 : decode c_J_deviceCount 8 = .ok (.iload_n 1, 1) := by decide +kernel
theorem d_J_deviceCount_9 : decode c_J_deviceCount 9 = .ok (.iaload, 1) := by decide +kernel
theorem d_J_deviceCount_10 : decode c_J_deviceCount 10 = .ok (.iconst 3, 1) := by decide +kernel
theorem d_J_deviceCount_11 : decode c_J_deviceCount 11 = .ok (.imul, 1) := by decide +kernel
theorem d_J_deviceCount_12 : decode c_J_deviceCount 12 = .ok (.iload_n 2, 1) := by decide +kernel
theorem d_J_deviceCount_13 : decode c_J_deviceCount 13 = .ok (.iadd, 1) := by decide +kernel
theorem d_J_deviceCount_14 : decode c_J_deviceCount 14 = .ok (.iaload, 1) := by decide +kernel
theorem d_J_deviceCount_15 : decode c_J_deviceCount 15 = .ok (.ireturn, 1) := by decide +kernel
theorem d_J_plainCount_0 : decode c_J_plainCount 0 = .ok (.aload_n 0, 1) := by decide +kernel
theorem d_J_plainCount_1 : decode c_J_plainCount 1 = .ok (.getfield 33, 3) := by decide +kernel
theorem d_J_plainCount_4 : decode c_J_plainCount 4 = .ok (.aload_n 0, 1) := by decide +kernel
theorem d_J_plainCount_5 : decode c_J_plainCount 5 = .ok (.getfield 39, 3) := by decide +kernel
theorem d_J_plainCount_8 : decode c_J_plainCount 8 = .ok (.iload_n 1, 1) := by decide +kernel
theorem d_J_plainCount_9 : decode c_J_plainCount 9 = .ok (.iaload, 1) := by decide +kernel
theorem d_J_plainCount_10 : decode c_J_plainCount 10 = .ok (.iconst 3, 1) := by decide +kernel
theorem d_J_plainCount_11 : decode c_J_plainCount 11 = .ok (.imul, 1) := by decide +kernel
theorem d_J_plainCount_12 : decode c_J_plainCount 12 = .ok (.iload_n 2, 1) := by decide +kernel
theorem d_J_plainCount_13 : decode c_J_plainCount 13 = .ok (.iadd, 1) := by decide +kernel
theorem d_J_plainCount_14 : decode c_J_plainCount 14 = .ok (.iaload, 1) := by decide +kernel
theorem d_J_plainCount_15 : decode c_J_plainCount 15 = .ok (.ireturn, 1) := by decide +kernel
theorem d_J_differenceOf_0 : decode c_J_differenceOf 0 = .ok (.aload_n 0, 1) := by decide +kernel
theorem d_J_differenceOf_1 : decode c_J_differenceOf 1 = .ok (.iload_n 1, 1) := by decide +kernel
theorem d_J_differenceOf_2 : decode c_J_differenceOf 2 = .ok (.iload_n 2, 1) := by decide +kernel
theorem d_J_differenceOf_3 : decode c_J_differenceOf 3 = .ok (.invokevirtual 57, 3) := by decide +kernel
theorem d_J_differenceOf_6 : decode c_J_differenceOf 6 = .ok (.aload_n 0, 1) := by decide +kernel
theorem d_J_differenceOf_7 : decode c_J_differenceOf 7 = .ok (.iload_n 1, 1) := by decide +kernel
theorem d_J_differenceOf_8 : decode c_J_differenceOf 8 = .ok (.iload_n 2, 1) := by decide +kernel
theorem d_J_differenceOf_9 : decode c_J_differenceOf 9 = .ok (.invokevirtual 61, 3) := by decide +kernel
theorem d_J_differenceOf_12 : decode c_J_differenceOf 12 = .ok (.isub, 1) := by decide +kernel
theorem d_J_differenceOf_13 : decode c_J_differenceOf 13 = .ok (.ireturn, 1) := by decide +kernel
theorem d_J_keeps_0 : decode c_J_keeps 0 = .ok (.aload_n 0, 1) := by decide +kernel
theorem d_J_keeps_1 : decode c_J_keeps 1 = .ok (.iload_n 1, 1) := by decide +kernel
theorem d_J_keeps_2 : decode c_J_keeps 2 = .ok (.iload_n 2, 1) := by decide +kernel
theorem d_J_keeps_3 : decode c_J_keeps 3 = .ok (.invokevirtual 57, 3) := by decide +kernel
theorem d_J_keeps_6 : decode c_J_keeps 6 = .ok (.ifCond .ne 16, 3) := by decide +kernel
theorem d_J_keeps_9 : decode c_J_keeps 9 = .ok (.aload_n 0, 1) := by decide +kernel
theorem d_J_keeps_10 : decode c_J_keeps 10 = .ok (.iload_n 1, 1) := by decide +kernel
theorem d_J_keeps_11 : decode c_J_keeps 11 = .ok (.iload_n 2, 1) := by decide +kernel
theorem d_J_keeps_12 : decode c_J_keeps 12 = .ok (.invokevirtual 61, 3) := by decide +kernel
theorem d_J_keeps_15 : decode c_J_keeps 15 = .ok (.ifCond .ne 7, 3) := by decide +kernel
theorem d_J_keeps_18 : decode c_J_keeps 18 = .ok (.iconst 1, 1) := by decide +kernel
theorem d_J_keeps_19 : decode c_J_keeps 19 = .ok (.goto 4, 3) := by decide +kernel
theorem d_J_keeps_22 : decode c_J_keeps 22 = .ok (.iconst 0, 1) := by decide +kernel
theorem d_J_keeps_23 : decode c_J_keeps 23 = .ok (.istore_n 3, 1) := by decide +kernel
theorem d_J_keeps_24 : decode c_J_keeps 24 = .ok (.iload_n 3, 1) := by decide +kernel
theorem d_J_keeps_25 : decode c_J_keeps 25 = .ok (.ifCond .ne 21, 3) := by decide +kernel
theorem d_J_keeps_28 : decode c_J_keeps 28 = .ok (.aload_n 0, 1) := by decide +kernel
theorem d_J_keeps_29 : decode c_J_keeps 29 = .ok (.getfield 26, 3) := by decide +kernel
theorem d_J_keeps_32 : decode c_J_keeps 32 = .ok (.aload_n 0, 1) := by decide +kernel
theorem d_J_keeps_33 : decode c_J_keeps 33 = .ok (.getfield 42, 3) := by decide +kernel
theorem d_J_keeps_36 : decode c_J_keeps 36 = .ok (.iload_n 1, 1) := by decide +kernel
theorem d_J_keeps_37 : decode c_J_keeps 37 = .ok (.iaload, 1) := by decide +kernel
theorem d_J_keeps_38 : decode c_J_keeps 38 = .ok (.baload, 1) := by decide +kernel
theorem d_J_keeps_39 : decode c_J_keeps 39 = .ok (.ifCond .ne 7, 3) := by decide +kernel
theorem d_J_keeps_42 : decode c_J_keeps 42 = .ok (.iconst 1, 1) := by decide +kernel
theorem d_J_keeps_43 : decode c_J_keeps 43 = .ok (.goto 4, 3) := by decide +kernel
theorem d_J_keeps_46 : decode c_J_keeps 46 = .ok (.iconst 0, 1) := by decide +kernel
theorem d_J_keeps_47 : decode c_J_keeps 47 = .ok (.ireturn, 1) := by decide +kernel
theorem d_J_keptDifference_0 : decode c_J_keptDifference 0 = .ok (.aload_n 0, 1) := by decide +kernel
theorem d_J_keptDifference_1 : decode c_J_keptDifference 1 = .ok (.iload_n 1, 1) := by decide +kernel
theorem d_J_keptDifference_2 : decode c_J_keptDifference 2 = .ok (.iload_n 2, 1) := by decide +kernel
theorem d_J_keptDifference_3 : decode c_J_keptDifference 3 = .ok (.invokevirtual 64, 3) := by decide +kernel
theorem d_J_keptDifference_6 : decode c_J_keptDifference 6 = .ok (.ifCond .eq 12, 3) := by decide +kernel
theorem d_J_keptDifference_9 : decode c_J_keptDifference 9 = .ok (.aload_n 0, 1) := by decide +kernel
theorem d_J_keptDifference_10 : decode c_J_keptDifference 10 = .ok (.iload_n 1, 1) := by decide +kernel
theorem d_J_keptDifference_11 : decode c_J_keptDifference 11 = .ok (.iload_n 2, 1) := by decide +kernel
theorem d_J_keptDifference_12 : decode c_J_keptDifference 12 = .ok (.invokevirtual 68, 3) := by decide +kernel
theorem d_J_keptDifference_15 : decode c_J_keptDifference 15 = .ok (.goto 4, 3) := by decide +kernel
theorem d_J_keptDifference_18 : decode c_J_keptDifference 18 = .ok (.iconst 0, 1) := by decide +kernel
theorem d_J_keptDifference_19 : decode c_J_keptDifference 19 = .ok (.ireturn, 1) := by decide +kernel
theorem d_J_isOf_0 : decode c_J_isOf 0 = .ok (.iload_n 2, 1) := by decide +kernel
theorem d_J_isOf_1 : decode c_J_isOf 1 = .ok (.iconst 4, 1) := by decide +kernel
theorem d_J_isOf_2 : decode c_J_isOf 2 = .ok (.if_icmp .eq 13, 3) := by decide +kernel
theorem d_J_isOf_5 : decode c_J_isOf 5 = .ok (.aload_n 0, 1) := by decide +kernel
theorem d_J_isOf_6 : decode c_J_isOf 6 = .ok (.getfield 42, 3) := by decide +kernel
theorem d_J_isOf_9 : decode c_J_isOf 9 = .ok (.iload_n 1, 1) := by decide +kernel
theorem d_J_isOf_10 : decode c_J_isOf 10 = .ok (.iaload, 1) := by decide +kernel
theorem d_J_isOf_11 : decode c_J_isOf 11 = .ok (.iload_n 2, 1) := by decide +kernel
theorem d_J_isOf_12 : decode c_J_isOf 12 = .ok (.if_icmp .ne 7, 3) := by decide +kernel
theorem d_J_isOf_15 : decode c_J_isOf 15 = .ok (.iconst 1, 1) := by decide +kernel
theorem d_J_isOf_16 : decode c_J_isOf 16 = .ok (.goto 4, 3) := by decide +kernel
theorem d_J_isOf_19 : decode c_J_isOf 19 = .ok (.iconst 0, 1) := by decide +kernel
theorem d_J_isOf_20 : decode c_J_isOf 20 = .ok (.ireturn, 1) := by decide +kernel
theorem d_J_keptOf_0 : decode c_J_keptOf 0 = .ok (.iconst 0, 1) := by decide +kernel
theorem d_J_keptOf_1 : decode c_J_keptOf 1 = .ok (.istore_n 3, 1) := by decide +kernel
theorem d_J_keptOf_2 : decode c_J_keptOf 2 = .ok (.iconst 0, 1) := by decide +kernel
theorem d_J_keptOf_3 : decode c_J_keptOf 3 = .ok (.istore 4, 2) := by decide +kernel
theorem d_J_keptOf_5 : decode c_J_keptOf 5 = .ok (.iload 4, 2) := by decide +kernel
theorem d_J_keptOf_7 : decode c_J_keptOf 7 = .ok (.aload_n 0, 1) := by decide +kernel
theorem d_J_keptOf_8 : decode c_J_keptOf 8 = .ok (.getfield 19, 3) := by decide +kernel
theorem d_J_keptOf_11 : decode c_J_keptOf 11 = .ok (.if_icmp .ge 32, 3) := by decide +kernel
theorem d_J_keptOf_14 : decode c_J_keptOf 14 = .ok (.aload_n 0, 1) := by decide +kernel
theorem d_J_keptOf_15 : decode c_J_keptOf 15 = .ok (.iload 4, 2) := by decide +kernel
theorem d_J_keptOf_17 : decode c_J_keptOf 17 = .ok (.iload_n 1, 1) := by decide +kernel
theorem d_J_keptOf_18 : decode c_J_keptOf 18 = .ok (.invokevirtual 71, 3) := by decide +kernel
theorem d_J_keptOf_21 : decode c_J_keptOf 21 = .ok (.ifCond .eq 16, 3) := by decide +kernel
theorem d_J_keptOf_24 : decode c_J_keptOf 24 = .ok (.aload_n 0, 1) := by decide +kernel
theorem d_J_keptOf_25 : decode c_J_keptOf 25 = .ok (.iload 4, 2) := by decide +kernel
theorem d_J_keptOf_27 : decode c_J_keptOf 27 = .ok (.iload_n 2, 1) := by decide +kernel
theorem d_J_keptOf_28 : decode c_J_keptOf 28 = .ok (.invokevirtual 64, 3) := by decide +kernel
theorem d_J_keptOf_31 : decode c_J_keptOf 31 = .ok (.ifCond .eq 6, 3) := by decide +kernel
theorem d_J_keptOf_34 : decode c_J_keptOf 34 = .ok (.iinc 3 1, 3) := by decide +kernel
theorem d_J_keptOf_37 : decode c_J_keptOf 37 = .ok (.iinc 4 1, 3) := by decide +kernel
theorem d_J_keptOf_40 : decode c_J_keptOf 40 = .ok (.goto (-35), 3) := by decide +kernel
theorem d_J_keptOf_43 : decode c_J_keptOf 43 = .ok (.iload_n 3, 1) := by decide +kernel
theorem d_J_keptOf_44 : decode c_J_keptOf 44 = .ok (.ireturn, 1) := by decide +kernel
theorem d_J_sumOf_0 : decode c_J_sumOf 0 = .ok (.iconst 0, 1) := by decide +kernel
theorem d_J_sumOf_1 : decode c_J_sumOf 1 = .ok (.istore_n 3, 1) := by decide +kernel
theorem d_J_sumOf_2 : decode c_J_sumOf 2 = .ok (.iconst 0, 1) := by decide +kernel
theorem d_J_sumOf_3 : decode c_J_sumOf 3 = .ok (.istore 4, 2) := by decide +kernel
theorem d_J_sumOf_5 : decode c_J_sumOf 5 = .ok (.iload 4, 2) := by decide +kernel
theorem d_J_sumOf_7 : decode c_J_sumOf 7 = .ok (.aload_n 0, 1) := by decide +kernel
theorem d_J_sumOf_8 : decode c_J_sumOf 8 = .ok (.getfield 19, 3) := by decide +kernel
theorem d_J_sumOf_11 : decode c_J_sumOf 11 = .ok (.if_icmp .ge 29, 3) := by decide +kernel
theorem d_J_sumOf_14 : decode c_J_sumOf 14 = .ok (.aload_n 0, 1) := by decide +kernel
theorem d_J_sumOf_15 : decode c_J_sumOf 15 = .ok (.iload 4, 2) := by decide +kernel
theorem d_J_sumOf_17 : decode c_J_sumOf 17 = .ok (.iload_n 1, 1) := by decide +kernel
theorem d_J_sumOf_18 : decode c_J_sumOf 18 = .ok (.invokevirtual 71, 3) := by decide +kernel
theorem d_J_sumOf_21 : decode c_J_sumOf 21 = .ok (.ifCond .eq 13, 3) := by decide +kernel
theorem d_J_sumOf_24 : decode c_J_sumOf 24 = .ok (.iload_n 3, 1) := by decide +kernel
theorem d_J_sumOf_25 : decode c_J_sumOf 25 = .ok (.aload_n 0, 1) := by decide +kernel
theorem d_J_sumOf_26 : decode c_J_sumOf 26 = .ok (.iload 4, 2) := by decide +kernel
theorem d_J_sumOf_28 : decode c_J_sumOf 28 = .ok (.iload_n 2, 1) := by decide +kernel
theorem d_J_sumOf_29 : decode c_J_sumOf 29 = .ok (.invokevirtual 74, 3) := by decide +kernel
theorem d_J_sumOf_32 : decode c_J_sumOf 32 = .ok (.iadd, 1) := by decide +kernel
theorem d_J_sumOf_33 : decode c_J_sumOf 33 = .ok (.istore_n 3, 1) := by decide +kernel
theorem d_J_sumOf_34 : decode c_J_sumOf 34 = .ok (.iinc 4 1, 3) := by decide +kernel
theorem d_J_sumOf_37 : decode c_J_sumOf 37 = .ok (.goto (-32), 3) := by decide +kernel
theorem d_J_sumOf_40 : decode c_J_sumOf 40 = .ok (.iload_n 3, 1) := by decide +kernel
theorem d_J_sumOf_41 : decode c_J_sumOf 41 = .ok (.ireturn, 1) := by decide +kernel
theorem d_J_rankOf_0 : decode c_J_rankOf 0 = .ok (.aload_n 0, 1) := by decide +kernel
theorem d_J_rankOf_1 : decode c_J_rankOf 1 = .ok (.iload_n 1, 1) := by decide +kernel
theorem d_J_rankOf_2 : decode c_J_rankOf 2 = .ok (.iload_n 2, 1) := by decide +kernel
theorem d_J_rankOf_3 : decode c_J_rankOf 3 = .ok (.invokevirtual 74, 3) := by decide +kernel
theorem d_J_rankOf_6 : decode c_J_rankOf 6 = .ok (.invokestatic 77, 3) := by decide +kernel
theorem d_J_rankOf_9 : decode c_J_rankOf 9 = .ok (.istore_n 3, 1) := by decide +kernel
theorem d_J_rankOf_10 : decode c_J_rankOf 10 = .ok (.iload_n 3, 1) := by decide +kernel
theorem d_J_rankOf_11 : decode c_J_rankOf 11 = .ok (.ifCond .ne 5, 3) := by decide +kernel
theorem d_J_rankOf_14 : decode c_J_rankOf 14 = .ok (.iconst 0, 1) := by decide +kernel
theorem d_J_rankOf_15 : decode c_J_rankOf 15 = .ok (.ireturn, 1) := by decide +kernel
theorem d_J_rankOf_16 : decode c_J_rankOf 16 = .ok (.iconst 1, 1) := by decide +kernel
theorem d_J_rankOf_17 : decode c_J_rankOf 17 = .ok (.istore 4, 2) := by decide +kernel
theorem d_J_rankOf_19 : decode c_J_rankOf 19 = .ok (.iconst 0, 1) := by decide +kernel
theorem d_J_rankOf_20 : decode c_J_rankOf 20 = .ok (.istore 5, 2) := by decide +kernel
theorem d_J_rankOf_22 : decode c_J_rankOf 22 = .ok (.iload 5, 2) := by decide +kernel
theorem d_J_rankOf_24 : decode c_J_rankOf 24 = .ok (.aload_n 0, 1) := by decide +kernel
theorem d_J_rankOf_25 : decode c_J_rankOf 25 = .ok (.getfield 19, 3) := by decide +kernel
theorem d_J_rankOf_28 : decode c_J_rankOf 28 = .ok (.if_icmp .ge 47, 3) := by decide +kernel
theorem d_J_rankOf_31 : decode c_J_rankOf 31 = .ok (.aload_n 0, 1) := by decide +kernel
theorem d_J_rankOf_32 : decode c_J_rankOf 32 = .ok (.iload 5, 2) := by decide +kernel
theorem d_J_rankOf_34 : decode c_J_rankOf 34 = .ok (.iload_n 2, 1) := by decide +kernel
theorem d_J_rankOf_35 : decode c_J_rankOf 35 = .ok (.invokevirtual 74, 3) := by decide +kernel
theorem d_J_rankOf_38 : decode c_J_rankOf 38 = .ok (.invokestatic 77, 3) := by decide +kernel
theorem d_J_rankOf_41 : decode c_J_rankOf 41 = .ok (.istore 6, 2) := by decide +kernel
theorem d_J_rankOf_43 : decode c_J_rankOf 43 = .ok (.iload 6, 2) := by decide +kernel
theorem d_J_rankOf_45 : decode c_J_rankOf 45 = .ok (.iload_n 3, 1) := by decide +kernel
theorem d_J_rankOf_46 : decode c_J_rankOf 46 = .ok (.if_icmp .ne 9, 3) := by decide +kernel
theorem d_J_rankOf_49 : decode c_J_rankOf 49 = .ok (.iinc 4 1, 3) := by decide +kernel
theorem d_J_rankOf_52 : decode c_J_rankOf 52 = .ok (.goto 17, 3) := by decide +kernel
theorem d_J_rankOf_55 : decode c_J_rankOf 55 = .ok (.iload 6, 2) := by decide +kernel
theorem d_J_rankOf_57 : decode c_J_rankOf 57 = .ok (.ifCond .le 12, 3) := by decide +kernel
theorem d_J_rankOf_60 : decode c_J_rankOf 60 = .ok (.iload 6, 2) := by decide +kernel
theorem d_J_rankOf_62 : decode c_J_rankOf 62 = .ok (.iload_n 3, 1) := by decide +kernel
theorem d_J_rankOf_63 : decode c_J_rankOf 63 = .ok (.if_icmp .ge 6, 3) := by decide +kernel
theorem d_J_rankOf_66 : decode c_J_rankOf 66 = .ok (.iinc 4 2, 3) := by decide +kernel
theorem d_J_rankOf_69 : decode c_J_rankOf 69 = .ok (.iinc 5 1, 3) := by decide +kernel
theorem d_J_rankOf_72 : decode c_J_rankOf 72 = .ok (.goto (-50), 3) := by decide +kernel
theorem d_J_rankOf_75 : decode c_J_rankOf 75 = .ok (.iload 4, 2) := by decide +kernel
theorem d_J_rankOf_77 : decode c_J_rankOf 77 = .ok (.ireturn, 1) := by decide +kernel
theorem d_C_init_0 : decode c_C_init 0 = .ok (.aload_n 0, 1) := by decide +kernel
theorem d_C_init_1 : decode c_C_init 1 = .ok (.invokespecial 3, 3) := by decide +kernel
theorem d_C_init_4 : decode c_C_init 4 = .ok (.aload_n 0, 1) := by decide +kernel
theorem d_C_init_5 : decode c_C_init 5 = .ok (.bipush 64, 2) := by decide +kernel
theorem d_C_init_7 : decode c_C_init 7 = .ok (.newarray .int, 2) := by decide +kernel
theorem d_C_init_9 : decode c_C_init 9 = .ok (.putfield 9, 3) := by decide +kernel
theorem d_C_init_12 : decode c_C_init 12 = .ok (.iconst 0, 1) := by decide +kernel
theorem d_C_init_13 : decode c_C_init 13 = .ok (.istore_n 1, 1) := by decide +kernel
theorem d_C_init_14 : decode c_C_init 14 = .ok (.iload_n 1, 1) := by decide +kernel
theorem d_C_init_15 : decode c_C_init 15 = .ok (.bipush 64, 2) := by decide +kernel
theorem d_C_init_17 : decode c_C_init 17 = .ok (.if_icmp .ge 16, 3) := by decide +kernel
theorem d_C_init_20 : decode c_C_init 20 = .ok (.aload_n 0, 1) := by decide +kernel
theorem d_C_init_21 : decode c_C_init 21 = .ok (.getfield 9, 3) := by decide +kernel
theorem d_C_init_24 : decode c_C_init 24 = .ok (.iload_n 1, 1) := by decide +kernel
theorem d_C_init_25 : decode c_C_init 25 = .ok (.iconst (-1), 1) := by decide +kernel
theorem d_C_init_26 : decode c_C_init 26 = .ok (.iastore, 1) := by decide +kernel
theorem d_C_init_27 : decode c_C_init 27 = .ok (.iinc 1 1, 3) := by decide +kernel
theorem d_C_init_30 : decode c_C_init 30 = .ok (.goto (-16), 3) := by decide +kernel
theorem d_C_init_33 : decode c_C_init 33 = .ok (.return_, 1) := by decide +kernel
theorem d_C_putReading_0 : decode c_C_putReading 0 = .ok (.aload_n 0, 1) := by decide +kernel
theorem d_C_putReading_1 : decode c_C_putReading 1 = .ok (.getfield 9, 3) := by decide +kernel
theorem d_C_putReading_4 : decode c_C_putReading 4 = .ok (.iload_n 1, 1) := by decide +kernel
theorem d_C_putReading_5 : decode c_C_putReading 5 = .ok (.iconst 2, 1) := by decide +kernel
theorem d_C_putReading_6 : decode c_C_putReading 6 = .ok (.imul, 1) := by decide +kernel
theorem d_C_putReading_7 : decode c_C_putReading 7 = .ok (.iload_n 2, 1) := by decide +kernel
theorem d_C_putReading_8 : decode c_C_putReading 8 = .ok (.iadd, 1) := by decide +kernel
theorem d_C_putReading_9 : decode c_C_putReading 9 = .ok (.iload_n 3, 1) := by decide +kernel
theorem d_C_putReading_10 : decode c_C_putReading 10 = .ok (.iastore, 1) := by decide +kernel
theorem d_C_putReading_11 : decode c_C_putReading 11 = .ok (.return_, 1) := by decide +kernel
theorem d_C_differs_0 : decode c_C_differs 0 = .ok (.aload_n 0, 1) := by decide +kernel
theorem d_C_differs_1 : decode c_C_differs 1 = .ok (.getfield 9, 3) := by decide +kernel
theorem d_C_differs_4 : decode c_C_differs 4 = .ok (.iload_n 1, 1) := by decide +kernel
theorem d_C_differs_5 : decode c_C_differs 5 = .ok (.iconst 2, 1) := by decide +kernel
theorem d_C_differs_6 : decode c_C_differs 6 = .ok (.imul, 1) := by decide +kernel
theorem d_C_differs_7 : decode c_C_differs 7 = .ok (.iaload, 1) := by decide +kernel
theorem d_C_differs_8 : decode c_C_differs 8 = .ok (.istore_n 2, 1) := by decide +kernel
theorem d_C_differs_9 : decode c_C_differs 9 = .ok (.aload_n 0, 1) := by decide +kernel
theorem d_C_differs_10 : decode c_C_differs 10 = .ok (.getfield 9, 3) := by decide +kernel
theorem d_C_differs_13 : decode c_C_differs 13 = .ok (.iload_n 1, 1) := by decide +kernel
theorem d_C_differs_14 : decode c_C_differs 14 = .ok (.iconst 2, 1) := by decide +kernel
theorem d_C_differs_15 : decode c_C_differs 15 = .ok (.imul, 1) := by decide +kernel
theorem d_C_differs_16 : decode c_C_differs 16 = .ok (.iconst 1, 1) := by decide +kernel
theorem d_C_differs_17 : decode c_C_differs 17 = .ok (.iadd, 1) := by decide +kernel
theorem d_C_differs_18 : decode c_C_differs 18 = .ok (.iaload, 1) := by decide +kernel
theorem d_C_differs_19 : decode c_C_differs 19 = .ok (.istore_n 3, 1) := by decide +kernel
theorem d_C_differs_20 : decode c_C_differs 20 = .ok (.iload_n 2, 1) := by decide +kernel
theorem d_C_differs_21 : decode c_C_differs 21 = .ok (.iconst (-1), 1) := by decide +kernel
theorem d_C_differs_22 : decode c_C_differs 22 = .ok (.if_icmp .eq 27, 3) := by decide +kernel
theorem d_C_differs_25 : decode c_C_differs 25 = .ok (.iload_n 3, 1) := by decide +kernel
theorem d_C_differs_26 : decode c_C_differs 26 = .ok (.iconst (-1), 1) := by decide +kernel
theorem d_C_differs_27 : decode c_C_differs 27 = .ok (.if_icmp .eq 22, 3) := by decide +kernel
theorem d_C_differs_30 : decode c_C_differs 30 = .ok (.bipush 10, 2) := by decide +kernel
theorem d_C_differs_32 : decode c_C_differs 32 = .ok (.iload_n 2, 1) := by decide +kernel
theorem d_C_differs_33 : decode c_C_differs 33 = .ok (.iload_n 3, 1) := by decide +kernel
theorem d_C_differs_34 : decode c_C_differs 34 = .ok (.isub, 1) := by decide +kernel
theorem d_C_differs_35 : decode c_C_differs 35 = .ok (.invokestatic 15, 3) := by decide +kernel
theorem d_C_differs_38 : decode c_C_differs 38 = .ok (.imul, 1) := by decide +kernel
theorem d_C_differs_39 : decode c_C_differs 39 = .ok (.iload_n 2, 1) := by decide +kernel
theorem d_C_differs_40 : decode c_C_differs 40 = .ok (.iload_n 3, 1) := by decide +kernel
theorem d_C_differs_41 : decode c_C_differs 41 = .ok (.iadd, 1) := by decide +kernel
theorem d_C_differs_42 : decode c_C_differs 42 = .ok (.if_icmp .le 7, 3) := by decide +kernel
theorem d_C_differs_45 : decode c_C_differs 45 = .ok (.iconst 1, 1) := by decide +kernel
theorem d_C_differs_46 : decode c_C_differs 46 = .ok (.goto 4, 3) := by decide +kernel
theorem d_C_differs_49 : decode c_C_differs 49 = .ok (.iconst 0, 1) := by decide +kernel
theorem d_C_differs_50 : decode c_C_differs 50 = .ok (.ireturn, 1) := by decide +kernel
theorem d_H_init_0 : decode c_H_init 0 = .ok (.aload_n 0, 1) := by decide +kernel
theorem d_H_init_1 : decode c_H_init 1 = .ok (.invokespecial 3, 3) := by decide +kernel
theorem d_H_init_4 : decode c_H_init 4 = .ok (.aload_n 0, 1) := by decide +kernel
theorem d_H_init_5 : decode c_H_init 5 = .ok (.bipush 16, 2) := by decide +kernel
theorem d_H_init_7 : decode c_H_init 7 = .ok (.newarray .int, 2) := by decide +kernel
theorem d_H_init_9 : decode c_H_init 9 = .ok (.putfield 9, 3) := by decide +kernel
theorem d_H_init_12 : decode c_H_init 12 = .ok (.aload_n 0, 1) := by decide +kernel
theorem d_H_init_13 : decode c_H_init 13 = .ok (.iconst 0, 1) := by decide +kernel
theorem d_H_init_14 : decode c_H_init 14 = .ok (.putfield 15, 3) := by decide +kernel
theorem d_H_init_17 : decode c_H_init 17 = .ok (.aload_n 0, 1) := by decide +kernel
theorem d_H_init_18 : decode c_H_init 18 = .ok (.iconst 0, 1) := by decide +kernel
theorem d_H_init_19 : decode c_H_init 19 = .ok (.putfield 19, 3) := by decide +kernel
theorem d_H_init_22 : decode c_H_init 22 = .ok (.aload_n 0, 1) := by decide +kernel
theorem d_H_init_23 : decode c_H_init 23 = .ok (.sipush 256, 3) := by decide +kernel
theorem d_H_init_26 : decode c_H_init 26 = .ok (.newarray .int, 2) := by decide +kernel
theorem d_H_init_28 : decode c_H_init 28 = .ok (.putfield 22, 3) := by decide +kernel
theorem d_H_init_31 : decode c_H_init 31 = .ok (.aload_n 0, 1) := by decide +kernel
theorem d_H_init_32 : decode c_H_init 32 = .ok (.sipush 256, 3) := by decide +kernel
theorem d_H_init_35 : decode c_H_init 35 = .ok (.newarray .int, 2) := by decide +kernel
theorem d_H_init_37 : decode c_H_init 37 = .ok (.putfield 25, 3) := by decide +kernel
theorem d_H_init_40 : decode c_H_init 40 = .ok (.aload_n 0, 1) := by decide +kernel
theorem d_H_init_41 : decode c_H_init 41 = .ok (.sipush 256, 3) := by decide +kernel
theorem d_H_init_44 : decode c_H_init 44 = .ok (.newarray .int, 2) := by decide +kernel
theorem d_H_init_46 : decode c_H_init 46 = .ok (.putfield 28, 3) := by decide +kernel
theorem d_H_init_49 : decode c_H_init 49 = .ok (.return_, 1) := by decide +kernel
theorem d_H_clear_0 : decode c_H_clear 0 = .ok (.aload_n 0, 1) := by decide +kernel
theorem d_H_clear_1 : decode c_H_clear 1 = .ok (.iconst 0, 1) := by decide +kernel
theorem d_H_clear_2 : decode c_H_clear 2 = .ok (.putfield 15, 3) := by decide +kernel
theorem d_H_clear_5 : decode c_H_clear 5 = .ok (.aload_n 0, 1) := by decide +kernel
theorem d_H_clear_6 : decode c_H_clear 6 = .ok (.iconst 0, 1) := by decide +kernel
theorem d_H_clear_7 : decode c_H_clear 7 = .ok (.putfield 19, 3) := by decide +kernel
theorem d_H_clear_10 : decode c_H_clear 10 = .ok (.return_, 1) := by decide +kernel
theorem d_H_add_0 : decode c_H_add 0 = .ok (.aload_n 0, 1) := by decide +kernel
theorem d_H_add_1 : decode c_H_add 1 = .ok (.getfield 15, 3) := by decide +kernel
theorem d_H_add_4 : decode c_H_add 4 = .ok (.bipush 16, 2) := by decide +kernel
theorem d_H_add_6 : decode c_H_add 6 = .ok (.if_icmp .ge 41, 3) := by decide +kernel
theorem d_H_add_9 : decode c_H_add 9 = .ok (.aload_n 0, 1) := by decide +kernel
theorem d_H_add_10 : decode c_H_add 10 = .ok (.getfield 9, 3) := by decide +kernel
theorem d_H_add_13 : decode c_H_add 13 = .ok (.aload_n 0, 1) := by decide +kernel
theorem d_H_add_14 : decode c_H_add 14 = .ok (.getfield 15, 3) := by decide +kernel
theorem d_H_add_17 : decode c_H_add 17 = .ok (.iload_n 1, 1) := by decide +kernel
theorem d_H_add_18 : decode c_H_add 18 = .ok (.iastore, 1) := by decide +kernel
theorem d_H_add_19 : decode c_H_add 19 = .ok (.aload_n 0, 1) := by decide +kernel
theorem d_H_add_20 : decode c_H_add 20 = .ok (.dup, 1) := by decide +kernel
theorem d_H_add_21 : decode c_H_add 21 = .ok (.getfield 15, 3) := by decide +kernel
theorem d_H_add_24 : decode c_H_add 24 = .ok (.iconst 1, 1) := by decide +kernel
theorem d_H_add_25 : decode c_H_add 25 = .ok (.iadd, 1) := by decide +kernel
theorem d_H_add_26 : decode c_H_add 26 = .ok (.putfield 15, 3) := by decide +kernel
theorem d_H_add_29 : decode c_H_add 29 = .ok (.aload_n 0, 1) := by decide +kernel
theorem d_H_add_30 : decode c_H_add 30 = .ok (.dup, 1) := by decide +kernel
theorem d_H_add_31 : decode c_H_add 31 = .ok (.getfield 19, 3) := by decide +kernel
theorem d_H_add_34 : decode c_H_add 34 = .ok (.iload_n 2, 1) := by decide +kernel
theorem d_H_add_35 : decode c_H_add 35 = .ok (.ifCond .eq 7, 3) := by decide +kernel
theorem d_H_add_38 : decode c_H_add 38 = .ok (.iload_n 1, 1) := by decide +kernel
theorem d_H_add_39 : decode c_H_add 39 = .ok (.goto 4, 3) := by decide +kernel
theorem d_H_add_42 : decode c_H_add 42 = .ok (.iconst 0, 1) := by decide +kernel
theorem d_H_add_43 : decode c_H_add 43 = .ok (.iadd, 1) := by decide +kernel
theorem d_H_add_44 : decode c_H_add 44 = .ok (.putfield 19, 3) := by decide +kernel
theorem d_H_add_47 : decode c_H_add 47 = .ok (.return_, 1) := by decide +kernel
theorem d_H_countAll_0 : decode c_H_countAll 0 = .ok (.lconst 1, 1) := by decide +kernel
theorem d_H_countAll_1 : decode c_H_countAll 1 = .ok (.aload_n 0, 1) := by decide +kernel
theorem d_H_countAll_2 : decode c_H_countAll 2 = .ok (.getfield 15, 3) := by decide +kernel
theorem d_H_countAll_5 : decode c_H_countAll 5 = .ok (.lshl, 1) := by decide +kernel
theorem d_H_countAll_6 : decode c_H_countAll 6 = .ok (.lreturn, 1) := by decide +kernel
theorem d_H_countNotAbove_0 : decode c_H_countNotAbove 0 = .ok (.aload_n 0, 1) := by decide +kernel
theorem d_H_countNotAbove_1 : decode c_H_countNotAbove 1 = .ok (.getfield 15, 3) := by decide +kernel
theorem d_H_countNotAbove_4 : decode c_H_countNotAbove 4 = .ok (.iconst 2, 1) := by decide +kernel
theorem d_H_countNotAbove_5 : decode c_H_countNotAbove 5 = .ok (.idiv, 1) := by decide +kernel
theorem d_H_countNotAbove_6 : decode c_H_countNotAbove 6 = .ok (.istore_n 1, 1) := by decide +kernel
theorem d_H_countNotAbove_7 : decode c_H_countNotAbove 7 = .ok (.aload_n 0, 1) := by decide +kernel
theorem d_H_countNotAbove_8 : decode c_H_countNotAbove 8 = .ok (.aload_n 0, 1) := by decide +kernel
theorem d_H_countNotAbove_9 : decode c_H_countNotAbove 9 = .ok (.getfield 22, 3) := by decide +kernel
theorem d_H_countNotAbove_12 : decode c_H_countNotAbove 12 = .ok (.iconst 0, 1) := by decide +kernel
theorem d_H_countNotAbove_13 : decode c_H_countNotAbove 13 = .ok (.iload_n 1, 1) := by decide +kernel
theorem d_H_countNotAbove_14 : decode c_H_countNotAbove 14 = .ok (.invokevirtual 31, 3) := by decide +kernel
theorem d_H_countNotAbove_17 : decode c_H_countNotAbove 17 = .ok (.istore_n 2, 1) := by decide +kernel
theorem d_H_countNotAbove_18 : decode c_H_countNotAbove 18 = .ok (.aload_n 0, 1) := by decide +kernel
theorem d_H_countNotAbove_19 : decode c_H_countNotAbove 19 = .ok (.aload_n 0, 1) := by decide +kernel
theorem d_H_countNotAbove_20 : decode c_H_countNotAbove 20 = .ok (.getfield 25, 3) := by decide +kernel
theorem d_H_countNotAbove_23 : decode c_H_countNotAbove 23 = .ok (.iload_n 1, 1) := by decide +kernel
theorem d_H_countNotAbove_24 : decode c_H_countNotAbove 24 = .ok (.aload_n 0, 1) := by decide +kernel
theorem d_H_countNotAbove_25 : decode c_H_countNotAbove 25 = .ok (.getfield 15, 3) := by decide +kernel
theorem d_H_countNotAbove_28 : decode c_H_countNotAbove 28 = .ok (.invokevirtual 31, 3) := by decide +kernel
theorem d_H_countNotAbove_31 : decode c_H_countNotAbove 31 = .ok (.istore_n 3, 1) := by decide +kernel
theorem d_H_countNotAbove_32 : decode c_H_countNotAbove 32 = .ok (.lconst 0, 1) := by decide +kernel
theorem d_H_countNotAbove_33 : decode c_H_countNotAbove 33 = .ok (.lstore 4, 2) := by decide +kernel
theorem d_H_countNotAbove_35 : decode c_H_countNotAbove 35 = .ok (.iconst 0, 1) := by decide +kernel
theorem d_H_countNotAbove_36 : decode c_H_countNotAbove 36 = .ok (.istore 6, 2) := by decide +kernel
theorem d_H_countNotAbove_38 : decode c_H_countNotAbove 38 = .ok (.iload 6, 2) := by decide +kernel
theorem d_H_countNotAbove_40 : decode c_H_countNotAbove 40 = .ok (.iload_n 2, 1) := by decide +kernel
theorem d_H_countNotAbove_41 : decode c_H_countNotAbove 41 = .ok (.if_icmp .ge 49, 3) := by decide +kernel
theorem d_H_countNotAbove_44 : decode c_H_countNotAbove 44 = .ok (.iload_n 3, 1) := by decide +kernel
theorem d_H_countNotAbove_45 : decode c_H_countNotAbove 45 = .ok (.ifCond .le 32, 3) := by decide +kernel
theorem d_H_countNotAbove_48 : decode c_H_countNotAbove 48 = .ok (.aload_n 0, 1) := by decide +kernel
theorem d_H_countNotAbove_49 : decode c_H_countNotAbove 49 = .ok (.getfield 22, 3) := by decide +kernel
theorem d_H_countNotAbove_52 : decode c_H_countNotAbove 52 = .ok (.iload 6, 2) := by decide +kernel
theorem d_H_countNotAbove_54 : decode c_H_countNotAbove 54 = .ok (.iaload, 1) := by decide +kernel
theorem d_H_countNotAbove_55 : decode c_H_countNotAbove 55 = .ok (.aload_n 0, 1) := by decide +kernel
theorem d_H_countNotAbove_56 : decode c_H_countNotAbove 56 = .ok (.getfield 25, 3) := by decide +kernel
theorem d_H_countNotAbove_59 : decode c_H_countNotAbove 59 = .ok (.iload_n 3, 1) := by decide +kernel
theorem d_H_countNotAbove_60 : decode c_H_countNotAbove 60 = .ok (.iconst 1, 1) := by decide +kernel
theorem d_H_countNotAbove_61 : decode c_H_countNotAbove 61 = .ok (.isub, 1) := by decide +kernel
theorem d_H_countNotAbove_62 : decode c_H_countNotAbove 62 = .ok (.iaload, 1) := by decide +kernel
theorem d_H_countNotAbove_63 : decode c_H_countNotAbove 63 = .ok (.iadd, 1) := by decide +kernel
theorem d_H_countNotAbove_64 : decode c_H_countNotAbove 64 = .ok (.aload_n 0, 1) := by decide +kernel
theorem d_H_countNotAbove_65 : decode c_H_countNotAbove 65 = .ok (.getfield 19, 3) := by decide +kernel
theorem d_H_countNotAbove_68 : decode c_H_countNotAbove 68 = .ok (.if_icmp .le 9, 3) := by decide +kernel
theorem d_H_countNotAbove_71 : decode c_H_countNotAbove 71 = .ok (.iinc 3 (-1), 3) := by decide +kernel
theorem d_H_countNotAbove_74 : decode c_H_countNotAbove 74 = .ok (.goto (-30), 3) := by decide +kernel
theorem d_H_countNotAbove_77 : decode c_H_countNotAbove 77 = .ok (.lload 4, 2) := by decide +kernel
theorem d_H_countNotAbove_79 : decode c_H_countNotAbove 79 = .ok (.iload_n 3, 1) := by decide +kernel
theorem d_H_countNotAbove_80 : decode c_H_countNotAbove 80 = .ok (.i2l, 1) := by decide +kernel
theorem d_H_countNotAbove_81 : decode c_H_countNotAbove 81 = .ok (.ladd, 1) := by decide +kernel
theorem d_H_countNotAbove_82 : decode c_H_countNotAbove 82 = .ok (.lstore 4, 2) := by decide +kernel
theorem d_H_countNotAbove_84 : decode c_H_countNotAbove 84 = .ok (.iinc 6 1, 3) := by decide +kernel
theorem d_H_countNotAbove_87 : decode c_H_countNotAbove 87 = .ok (.goto (-49), 3) := by decide +kernel
theorem d_H_countNotAbove_90 : decode c_H_countNotAbove 90 = .ok (.lload 4, 2) := by decide +kernel
theorem d_H_countNotAbove_92 : decode c_H_countNotAbove 92 = .ok (.lreturn, 1) := by decide +kernel
theorem d_H_fillSums_0 : decode c_H_fillSums 0 = .ok (.iconst 1, 1) := by decide +kernel
theorem d_H_fillSums_1 : decode c_H_fillSums 1 = .ok (.istore 4, 2) := by decide +kernel
theorem d_H_fillSums_3 : decode c_H_fillSums 3 = .ok (.aload_n 1, 1) := by decide +kernel
theorem d_H_fillSums_4 : decode c_H_fillSums 4 = .ok (.iconst 0, 1) := by decide +kernel
theorem d_H_fillSums_5 : decode c_H_fillSums 5 = .ok (.iconst 0, 1) := by decide +kernel
theorem d_H_fillSums_6 : decode c_H_fillSums 6 = .ok (.iastore, 1) := by decide +kernel
theorem d_H_fillSums_7 : decode c_H_fillSums 7 = .ok (.iload_n 2, 1) := by decide +kernel
theorem d_H_fillSums_8 : decode c_H_fillSums 8 = .ok (.istore 5, 2) := by decide +kernel
theorem d_H_fillSums_10 : decode c_H_fillSums 10 = .ok (.iload 5, 2) := by decide +kernel
theorem d_H_fillSums_12 : decode c_H_fillSums 12 = .ok (.iload_n 3, 1) := by decide +kernel
theorem d_H_fillSums_13 : decode c_H_fillSums 13 = .ok (.if_icmp .ge 29, 3) := by decide +kernel
theorem d_H_fillSums_16 : decode c_H_fillSums 16 = .ok (.aload_n 0, 1) := by decide +kernel
theorem d_H_fillSums_17 : decode c_H_fillSums 17 = .ok (.aload_n 1, 1) := by decide +kernel
theorem d_H_fillSums_18 : decode c_H_fillSums 18 = .ok (.iload 4, 2) := by decide +kernel
theorem d_H_fillSums_20 : decode c_H_fillSums 20 = .ok (.aload_n 0, 1) := by decide +kernel
theorem d_H_fillSums_21 : decode c_H_fillSums 21 = .ok (.getfield 9, 3) := by decide +kernel
theorem d_H_fillSums_24 : decode c_H_fillSums 24 = .ok (.iload 5, 2) := by decide +kernel
theorem d_H_fillSums_26 : decode c_H_fillSums 26 = .ok (.iaload, 1) := by decide +kernel
theorem d_H_fillSums_27 : decode c_H_fillSums 27 = .ok (.invokevirtual 35, 3) := by decide +kernel
theorem d_H_fillSums_30 : decode c_H_fillSums 30 = .ok (.iload 4, 2) := by decide +kernel
theorem d_H_fillSums_32 : decode c_H_fillSums 32 = .ok (.iconst 2, 1) := by decide +kernel
theorem d_H_fillSums_33 : decode c_H_fillSums 33 = .ok (.imul, 1) := by decide +kernel
theorem d_H_fillSums_34 : decode c_H_fillSums 34 = .ok (.istore 4, 2) := by decide +kernel
theorem d_H_fillSums_36 : decode c_H_fillSums 36 = .ok (.iinc 5 1, 3) := by decide +kernel
theorem d_H_fillSums_39 : decode c_H_fillSums 39 = .ok (.goto (-29), 3) := by decide +kernel
theorem d_H_fillSums_42 : decode c_H_fillSums 42 = .ok (.iload 4, 2) := by decide +kernel
theorem d_H_fillSums_44 : decode c_H_fillSums 44 = .ok (.ireturn, 1) := by decide +kernel
theorem d_H_addWeight_0 : decode c_H_addWeight 0 = .ok (.aload_n 1, 1) := by decide +kernel
theorem d_H_addWeight_1 : decode c_H_addWeight 1 = .ok (.iconst 0, 1) := by decide +kernel
theorem d_H_addWeight_2 : decode c_H_addWeight 2 = .ok (.aload_n 0, 1) := by decide +kernel
theorem d_H_addWeight_3 : decode c_H_addWeight 3 = .ok (.getfield 28, 3) := by decide +kernel
theorem d_H_addWeight_6 : decode c_H_addWeight 6 = .ok (.iconst 0, 1) := by decide +kernel
theorem d_H_addWeight_7 : decode c_H_addWeight 7 = .ok (.iload_n 2, 1) := by decide +kernel
theorem d_H_addWeight_8 : decode c_H_addWeight 8 = .ok (.invokestatic 39, 3) := by decide +kernel
theorem d_H_addWeight_11 : decode c_H_addWeight 11 = .ok (.iconst 0, 1) := by decide +kernel
theorem d_H_addWeight_12 : decode c_H_addWeight 12 = .ok (.istore 4, 2) := by decide +kernel
theorem d_H_addWeight_14 : decode c_H_addWeight 14 = .ok (.iconst 0, 1) := by decide +kernel
theorem d_H_addWeight_15 : decode c_H_addWeight 15 = .ok (.istore 5, 2) := by decide +kernel
theorem d_H_addWeight_17 : decode c_H_addWeight 17 = .ok (.iconst 0, 1) := by decide +kernel
theorem d_H_addWeight_18 : decode c_H_addWeight 18 = .ok (.istore 6, 2) := by decide +kernel
theorem d_H_addWeight_20 : decode c_H_addWeight 20 = .ok (.iload 6, 2) := by decide +kernel
theorem d_H_addWeight_22 : decode c_H_addWeight 22 = .ok (.iconst 2, 1) := by decide +kernel
theorem d_H_addWeight_23 : decode c_H_addWeight 23 = .ok (.iload_n 2, 1) := by decide +kernel
theorem d_H_addWeight_24 : decode c_H_addWeight 24 = .ok (.imul, 1) := by decide +kernel
theorem d_H_addWeight_25 : decode c_H_addWeight 25 = .ok (.if_icmp .ge 85, 3) := by decide +kernel
theorem d_H_addWeight_28 : decode c_H_addWeight 28 = .ok (.iload 5, 2) := by decide +kernel
theorem d_H_addWeight_30 : decode c_H_addWeight 30 = .ok (.iload_n 2, 1) := by decide +kernel
theorem d_H_addWeight_31 : decode c_H_addWeight 31 = .ok (.if_icmp .ge 28, 3) := by decide +kernel
theorem d_H_addWeight_34 : decode c_H_addWeight 34 = .ok (.iload 4, 2) := by decide +kernel
theorem d_H_addWeight_36 : decode c_H_addWeight 36 = .ok (.iload_n 2, 1) := by decide +kernel
theorem d_H_addWeight_37 : decode c_H_addWeight 37 = .ok (.if_icmp .ge 26, 3) := by decide +kernel
theorem d_H_addWeight_40 : decode c_H_addWeight 40 = .ok (.aload_n 0, 1) := by decide +kernel
theorem d_H_addWeight_41 : decode c_H_addWeight 41 = .ok (.getfield 28, 3) := by decide +kernel
theorem d_H_addWeight_44 : decode c_H_addWeight 44 = .ok (.iload 4, 2) := by decide +kernel
theorem d_H_addWeight_46 : decode c_H_addWeight 46 = .ok (.iaload, 1) := by decide +kernel
theorem d_H_addWeight_47 : decode c_H_addWeight 47 = .ok (.aload_n 0, 1) := by decide +kernel
theorem d_H_addWeight_48 : decode c_H_addWeight 48 = .ok (.getfield 28, 3) := by decide +kernel
theorem d_H_addWeight_51 : decode c_H_addWeight 51 = .ok (.iload 5, 2) := by decide +kernel
theorem d_H_addWeight_53 : decode c_H_addWeight 53 = .ok (.iaload, 1) := by decide +kernel
theorem d_H_addWeight_54 : decode c_H_addWeight 54 = .ok (.iload_n 3, 1) := by decide +kernel
theorem d_H_addWeight_55 : decode c_H_addWeight 55 = .ok (.iadd, 1) := by decide +kernel
theorem d_H_addWeight_56 : decode c_H_addWeight 56 = .ok (.if_icmp .gt 7, 3) := by decide +kernel
theorem d_H_addWeight_59 : decode c_H_addWeight 59 = .ok (.iconst 1, 1) := by decide +kernel
theorem d_H_addWeight_60 : decode c_H_addWeight 60 = .ok (.goto 4, 3) := by decide +kernel
theorem d_H_addWeight_63 : decode c_H_addWeight 63 = .ok (.iconst 0, 1) := by decide +kernel
theorem d_H_addWeight_64 : decode c_H_addWeight 64 = .ok (.istore 7, 2) := by decide +kernel
theorem d_H_addWeight_66 : decode c_H_addWeight 66 = .ok (.iload 7, 2) := by decide +kernel
theorem d_H_addWeight_68 : decode c_H_addWeight 68 = .ok (.ifCond .eq 20, 3) := by decide +kernel
theorem d_H_addWeight_71 : decode c_H_addWeight 71 = .ok (.aload_n 1, 1) := by decide +kernel
theorem d_H_addWeight_72 : decode c_H_addWeight 72 = .ok (.iload 6, 2) := by decide +kernel
theorem d_H_addWeight_74 : decode c_H_addWeight 74 = .ok (.aload_n 0, 1) := by decide +kernel
theorem d_H_addWeight_75 : decode c_H_addWeight 75 = .ok (.getfield 28, 3) := by decide +kernel
theorem d_H_addWeight_78 : decode c_H_addWeight 78 = .ok (.iload 4, 2) := by decide +kernel
theorem d_H_addWeight_80 : decode c_H_addWeight 80 = .ok (.iaload, 1) := by decide +kernel
theorem d_H_addWeight_81 : decode c_H_addWeight 81 = .ok (.iastore, 1) := by decide +kernel
theorem d_H_addWeight_82 : decode c_H_addWeight 82 = .ok (.iinc 4 1, 3) := by decide +kernel
theorem d_H_addWeight_85 : decode c_H_addWeight 85 = .ok (.goto 19, 3) := by decide +kernel
theorem d_H_addWeight_88 : decode c_H_addWeight 88 = .ok (.aload_n 1, 1) := by decide +kernel
theorem d_H_addWeight_89 : decode c_H_addWeight 89 = .ok (.iload 6, 2) := by decide +kernel
theorem d_H_addWeight_91 : decode c_H_addWeight 91 = .ok (.aload_n 0, 1) := by decide +kernel
theorem d_H_addWeight_92 : decode c_H_addWeight 92 = .ok (.getfield 28, 3) := by decide +kernel
theorem d_H_addWeight_95 : decode c_H_addWeight 95 = .ok (.iload 5, 2) := by decide +kernel
theorem d_H_addWeight_97 : decode c_H_addWeight 97 = .ok (.iaload, 1) := by decide +kernel
theorem d_H_addWeight_98 : decode c_H_addWeight 98 = .ok (.iload_n 3, 1) := by decide +kernel
theorem d_H_addWeight_99 : decode c_H_addWeight 99 = .ok (.iadd, 1) := by decide +kernel
theorem d_H_addWeight_100 : decode c_H_addWeight 100 = .ok (.iastore, 1) := by decide +kernel
theorem d_H_addWeight_101 : decode c_H_addWeight 101 = .ok (.iinc 5 1, 3) := by decide +kernel
theorem d_H_addWeight_104 : decode c_H_addWeight 104 = .ok (.iinc 6 1, 3) := by decide +kernel
theorem d_H_addWeight_107 : decode c_H_addWeight 107 = .ok (.goto (-87), 3) := by decide +kernel
theorem d_H_addWeight_110 : decode c_H_addWeight 110 = .ok (.return_, 1) := by decide +kernel
theorem d_K_init_0 : decode c_K_init 0 = .ok (.aload_n 0, 1) := by decide +kernel
theorem d_K_init_1 : decode c_K_init 1 = .ok (.invokespecial 3, 3) := by decide +kernel
theorem d_K_init_4 : decode c_K_init 4 = .ok (.aload_n 0, 1) := by decide +kernel
theorem d_K_init_5 : decode c_K_init 5 = .ok (.bipush 33, 2) := by decide +kernel
theorem d_K_init_7 : decode c_K_init 7 = .ok (.newarray .long, 2) := by decide +kernel
theorem d_K_init_9 : decode c_K_init 9 = .ok (.putfield 9, 3) := by decide +kernel
theorem d_K_init_12 : decode c_K_init 12 = .ok (.aload_n 0, 1) := by decide +kernel
theorem d_K_init_13 : decode c_K_init 13 = .ok (.iconst 0, 1) := by decide +kernel
theorem d_K_init_14 : decode c_K_init 14 = .ok (.putfield 15, 3) := by decide +kernel
theorem d_K_init_17 : decode c_K_init 17 = .ok (.aload_n 0, 1) := by decide +kernel
theorem d_K_init_18 : decode c_K_init 18 = .ok (.lconst 0, 1) := by decide +kernel
theorem d_K_init_19 : decode c_K_init 19 = .ok (.putfield 19, 3) := by decide +kernel
theorem d_K_init_22 : decode c_K_init 22 = .ok (.aload_n 0, 1) := by decide +kernel
theorem d_K_init_23 : decode c_K_init 23 = .ok (.lconst 1, 1) := by decide +kernel
theorem d_K_init_24 : decode c_K_init 24 = .ok (.putfield 23, 3) := by decide +kernel
theorem d_K_init_27 : decode c_K_init 27 = .ok (.return_, 1) := by decide +kernel
theorem d_K_start_0 : decode c_K_start 0 = .ok (.iconst 0, 1) := by decide +kernel
theorem d_K_start_1 : decode c_K_start 1 = .ok (.istore_n 3, 1) := by decide +kernel
theorem d_K_start_2 : decode c_K_start 2 = .ok (.iload_n 3, 1) := by decide +kernel
theorem d_K_start_3 : decode c_K_start 3 = .ok (.bipush 32, 2) := by decide +kernel
theorem d_K_start_5 : decode c_K_start 5 = .ok (.if_icmp .gt 25, 3) := by decide +kernel
theorem d_K_start_8 : decode c_K_start 8 = .ok (.aload_n 0, 1) := by decide +kernel
theorem d_K_start_9 : decode c_K_start 9 = .ok (.getfield 9, 3) := by decide +kernel
theorem d_K_start_12 : decode c_K_start 12 = .ok (.iload_n 3, 1) := by decide +kernel
theorem d_K_start_13 : decode c_K_start 13 = .ok (.iload_n 3, 1) := by decide +kernel
theorem d_K_start_14 : decode c_K_start 14 = .ok (.iload_n 2, 1) := by decide +kernel
theorem d_K_start_15 : decode c_K_start 15 = .ok (.if_icmp .ne 7, 3) := by decide +kernel
theorem d_K_start_18 : decode c_K_start 18 = .ok (.lconst 1, 1) := by decide +kernel
theorem d_K_start_19 : decode c_K_start 19 = .ok (.goto 4, 3) := by decide +kernel
theorem d_K_start_22 : decode c_K_start 22 = .ok (.lconst 0, 1) := by decide +kernel
theorem d_K_start_23 : decode c_K_start 23 = .ok (.lastore, 1) := by decide +kernel
theorem d_K_start_24 : decode c_K_start 24 = .ok (.iinc 3 1, 3) := by decide +kernel
theorem d_K_start_27 : decode c_K_start 27 = .ok (.goto (-25), 3) := by decide +kernel
theorem d_K_start_30 : decode c_K_start 30 = .ok (.aload_n 0, 1) := by decide +kernel
theorem d_K_start_31 : decode c_K_start 31 = .ok (.iload_n 1, 1) := by decide +kernel
theorem d_K_start_32 : decode c_K_start 32 = .ok (.iload_n 2, 1) := by decide +kernel
theorem d_K_start_33 : decode c_K_start 33 = .ok (.iadd, 1) := by decide +kernel
theorem d_K_start_34 : decode c_K_start 34 = .ok (.putfield 15, 3) := by decide +kernel
theorem d_K_start_37 : decode c_K_start 37 = .ok (.aload_n 0, 1) := by decide +kernel
theorem d_K_start_38 : decode c_K_start 38 = .ok (.lconst 0, 1) := by decide +kernel
theorem d_K_start_39 : decode c_K_start 39 = .ok (.putfield 19, 3) := by decide +kernel
theorem d_K_start_42 : decode c_K_start 42 = .ok (.aload_n 0, 1) := by decide +kernel
theorem d_K_start_43 : decode c_K_start 43 = .ok (.lconst 1, 1) := by decide +kernel
theorem d_K_start_44 : decode c_K_start 44 = .ok (.putfield 23, 3) := by decide +kernel
theorem d_K_start_47 : decode c_K_start 47 = .ok (.return_, 1) := by decide +kernel
theorem d_K_goOn_0 : decode c_K_goOn 0 = .ok (.aload_n 0, 1) := by decide +kernel
theorem d_K_goOn_1 : decode c_K_goOn 1 = .ok (.ldc2_w 26, 3) := by decide +kernel
theorem d_K_goOn_4 : decode c_K_goOn 4 = .ok (.aload_n 0, 1) := by decide +kernel
theorem d_K_goOn_5 : decode c_K_goOn 5 = .ok (.getfield 19, 3) := by decide +kernel
theorem d_K_goOn_8 : decode c_K_goOn 8 = .ok (.lmul, 1) := by decide +kernel
theorem d_K_goOn_9 : decode c_K_goOn 9 = .ok (.aload_n 0, 1) := by decide +kernel
theorem d_K_goOn_10 : decode c_K_goOn 10 = .ok (.getfield 9, 3) := by decide +kernel
theorem d_K_goOn_13 : decode c_K_goOn 13 = .ok (.aload_n 0, 1) := by decide +kernel
theorem d_K_goOn_14 : decode c_K_goOn 14 = .ok (.getfield 15, 3) := by decide +kernel
theorem d_K_goOn_17 : decode c_K_goOn 17 = .ok (.iconst 1, 1) := by decide +kernel
theorem d_K_goOn_18 : decode c_K_goOn 18 = .ok (.isub, 1) := by decide +kernel
theorem d_K_goOn_19 : decode c_K_goOn 19 = .ok (.laload, 1) := by decide +kernel
theorem d_K_goOn_20 : decode c_K_goOn 20 = .ok (.ladd, 1) := by decide +kernel
theorem d_K_goOn_21 : decode c_K_goOn 21 = .ok (.putfield 19, 3) := by decide +kernel
theorem d_K_goOn_24 : decode c_K_goOn 24 = .ok (.aload_n 0, 1) := by decide +kernel
theorem d_K_goOn_25 : decode c_K_goOn 25 = .ok (.dup, 1) := by decide +kernel
theorem d_K_goOn_26 : decode c_K_goOn 26 = .ok (.getfield 23, 3) := by decide +kernel
theorem d_K_goOn_29 : decode c_K_goOn 29 = .ok (.ldc2_w 26, 3) := by decide +kernel
theorem d_K_goOn_32 : decode c_K_goOn 32 = .ok (.lmul, 1) := by decide +kernel
theorem d_K_goOn_33 : decode c_K_goOn 33 = .ok (.putfield 23, 3) := by decide +kernel
theorem d_K_goOn_36 : decode c_K_goOn 36 = .ok (.lconst 0, 1) := by decide +kernel
theorem d_K_goOn_37 : decode c_K_goOn 37 = .ok (.lstore_n 1, 1) := by decide +kernel
theorem d_K_goOn_38 : decode c_K_goOn 38 = .ok (.iconst 1, 1) := by decide +kernel
theorem d_K_goOn_39 : decode c_K_goOn 39 = .ok (.istore_n 3, 1) := by decide +kernel
theorem d_K_goOn_40 : decode c_K_goOn 40 = .ok (.iload_n 3, 1) := by decide +kernel
theorem d_K_goOn_41 : decode c_K_goOn 41 = .ok (.aload_n 0, 1) := by decide +kernel
theorem d_K_goOn_42 : decode c_K_goOn 42 = .ok (.getfield 15, 3) := by decide +kernel
theorem d_K_goOn_45 : decode c_K_goOn 45 = .ok (.if_icmp .ge 36, 3) := by decide +kernel
theorem d_K_goOn_48 : decode c_K_goOn 48 = .ok (.aload_n 0, 1) := by decide +kernel
theorem d_K_goOn_49 : decode c_K_goOn 49 = .ok (.getfield 9, 3) := by decide +kernel
theorem d_K_goOn_52 : decode c_K_goOn 52 = .ok (.iload_n 3, 1) := by decide +kernel
theorem d_K_goOn_53 : decode c_K_goOn 53 = .ok (.laload, 1) := by decide +kernel
theorem d_K_goOn_54 : decode c_K_goOn 54 = .ok (.lstore 4, 2) := by decide +kernel
theorem d_K_goOn_56 : decode c_K_goOn 56 = .ok (.aload_n 0, 1) := by decide +kernel
theorem d_K_goOn_57 : decode c_K_goOn 57 = .ok (.getfield 9, 3) := by decide +kernel
theorem d_K_goOn_60 : decode c_K_goOn 60 = .ok (.iload_n 3, 1) := by decide +kernel
theorem d_K_goOn_61 : decode c_K_goOn 61 = .ok (.lload_n 1, 1) := by decide +kernel
theorem d_K_goOn_62 : decode c_K_goOn 62 = .ok (.aload_n 0, 1) := by decide +kernel
theorem d_K_goOn_63 : decode c_K_goOn 63 = .ok (.getfield 9, 3) := by decide +kernel
theorem d_K_goOn_66 : decode c_K_goOn 66 = .ok (.iload_n 3, 1) := by decide +kernel
theorem d_K_goOn_67 : decode c_K_goOn 67 = .ok (.iconst 1, 1) := by decide +kernel
theorem d_K_goOn_68 : decode c_K_goOn 68 = .ok (.iadd, 1) := by decide +kernel
theorem d_K_goOn_69 : decode c_K_goOn 69 = .ok (.laload, 1) := by decide +kernel
theorem d_K_goOn_70 : decode c_K_goOn 70 = .ok (.ladd, 1) := by decide +kernel
theorem d_K_goOn_71 : decode c_K_goOn 71 = .ok (.lastore, 1) := by decide +kernel
theorem d_K_goOn_72 : decode c_K_goOn 72 = .ok (.lload 4, 2) := by decide +kernel
theorem d_K_goOn_74 : decode c_K_goOn 74 = .ok (.lstore_n 1, 1) := by decide +kernel
theorem d_K_goOn_75 : decode c_K_goOn 75 = .ok (.iinc 3 1, 3) := by decide +kernel
theorem d_K_goOn_78 : decode c_K_goOn 78 = .ok (.goto (-38), 3) := by decide +kernel
theorem d_K_goOn_81 : decode c_K_goOn 81 = .ok (.return_, 1) := by decide +kernel
theorem d_M_init_0 : decode c_M_init 0 = .ok (.aload_n 0, 1) := by decide +kernel
theorem d_M_init_1 : decode c_M_init 1 = .ok (.invokespecial 1, 3) := by decide +kernel
theorem d_M_init_4 : decode c_M_init 4 = .ok (.aload_n 0, 1) := by decide +kernel
theorem d_M_init_5 : decode c_M_init 5 = .ok (.bipush 32, 2) := by decide +kernel
theorem d_M_init_7 : decode c_M_init 7 = .ok (.newarray .int, 2) := by decide +kernel
theorem d_M_init_9 : decode c_M_init 9 = .ok (.putfield 7, 3) := by decide +kernel
theorem d_M_init_12 : decode c_M_init 12 = .ok (.aload_n 0, 1) := by decide +kernel
theorem d_M_init_13 : decode c_M_init 13 = .ok (.bipush 32, 2) := by decide +kernel
theorem d_M_init_15 : decode c_M_init 15 = .ok (.newarray .boolean, 2) := by decide +kernel
theorem d_M_init_17 : decode c_M_init 17 = .ok (.putfield 13, 3) := by decide +kernel
theorem d_M_init_20 : decode c_M_init 20 = .ok (.aload_n 0, 1) := by decide +kernel
theorem d_M_init_21 : decode c_M_init 21 = .ok (.bipush 96, 2) := by decide +kernel
theorem d_M_init_23 : decode c_M_init 23 = .ok (.newarray .int, 2) := by decide +kernel
theorem d_M_init_25 : decode c_M_init 25 = .ok (.putfield 17, 3) := by decide +kernel
theorem d_M_init_28 : decode c_M_init 28 = .ok (.aload_n 0, 1) := by decide +kernel
theorem d_M_init_29 : decode c_M_init 29 = .ok (.iconst 4, 1) := by decide +kernel
theorem d_M_init_30 : decode c_M_init 30 = .ok (.newarray .int, 2) := by decide +kernel
theorem d_M_init_32 : decode c_M_init 32 = .ok (.putfield 20, 3) := by decide +kernel
theorem d_M_init_35 : decode c_M_init 35 = .ok (.aload_n 0, 1) := by decide +kernel
theorem d_M_init_36 : decode c_M_init 36 = .ok (.iconst 4, 1) := by decide +kernel
theorem d_M_init_37 : decode c_M_init 37 = .ok (.newarray .int, 2) := by decide +kernel
theorem d_M_init_39 : decode c_M_init 39 = .ok (.putfield 23, 3) := by decide +kernel
theorem d_M_init_42 : decode c_M_init 42 = .ok (.aload_n 0, 1) := by decide +kernel
theorem d_M_init_43 : decode c_M_init 43 = .ok (.bipush 16, 2) := by decide +kernel
theorem d_M_init_45 : decode c_M_init 45 = .ok (.newarray .int, 2) := by decide +kernel
theorem d_M_init_47 : decode c_M_init 47 = .ok (.putfield 26, 3) := by decide +kernel
end
section
theorem d_M_init_50 : decode c_M_init 50 = .ok (.aload_n 0, 1) := by decide +kernel
theorem d_M_init_51 : decode c_M_init 51 = .ok (.bipush 16, 2) := by decide +kernel
theorem d_M_init_53 : decode c_M_init 53 = .ok (.newarray .int, 2) := by decide +kernel
theorem d_M_init_55 : decode c_M_init 55 = .ok (.putfield 29, 3) := by decide +kernel
theorem d_M_init_58 : decode c_M_init 58 = .ok (.aload_n 0, 1) := by decide +kernel
theorem d_M_init_59 : decode c_M_init 59 = .ok (.iconst 4, 1) := by decide +kernel
theorem d_M_init_60 : decode c_M_init 60 = .ok (.newarray .boolean, 2) := by decide +kernel
theorem d_M_init_62 : decode c_M_init 62 = .ok (.putfield 32, 3) := by decide +kernel
theorem d_M_init_65 : decode c_M_init 65 = .ok (.aload_n 0, 1) := by decide +kernel
theorem d_M_init_66 : decode c_M_init 66 = .ok (.bipush 64, 2) := by decide +kernel
theorem d_M_init_68 : decode c_M_init 68 = .ok (.newarray .int, 2) := by decide +kernel
theorem d_M_init_70 : decode c_M_init 70 = .ok (.putfield 35, 3) := by decide +kernel
theorem d_M_init_73 : decode c_M_init 73 = .ok (.aload_n 0, 1) := by decide +kernel
theorem d_M_init_74 : decode c_M_init 74 = .ok (.iconst 3, 1) := by decide +kernel
theorem d_M_init_75 : decode c_M_init 75 = .ok (.newarray .int, 2) := by decide +kernel
theorem d_M_init_77 : decode c_M_init 77 = .ok (.putfield 38, 3) := by decide +kernel
theorem d_M_init_80 : decode c_M_init 80 = .ok (.aload_n 0, 1) := by decide +kernel
theorem d_M_init_81 : decode c_M_init 81 = .ok (.bipush 16, 2) := by decide +kernel
theorem d_M_init_83 : decode c_M_init 83 = .ok (.newarray .int, 2) := by decide +kernel
theorem d_M_init_85 : decode c_M_init 85 = .ok (.putfield 41, 3) := by decide +kernel
theorem d_M_init_88 : decode c_M_init 88 = .ok (.aload_n 0, 1) := by decide +kernel
theorem d_M_init_89 : decode c_M_init 89 = .ok (.bipush 35, 2) := by decide +kernel
theorem d_M_init_91 : decode c_M_init 91 = .ok (.newarray .long, 2) := by decide +kernel
theorem d_M_init_93 : decode c_M_init 93 = .ok (.putfield 44, 3) := by decide +kernel
theorem d_M_init_96 : decode c_M_init 96 = .ok (.aload_n 0, 1) := by decide +kernel
theorem d_M_init_97 : decode c_M_init 97 = .ok (.bipush 35, 2) := by decide +kernel
theorem d_M_init_99 : decode c_M_init 99 = .ok (.newarray .long, 2) := by decide +kernel
theorem d_M_init_101 : decode c_M_init 101 = .ok (.putfield 48, 3) := by decide +kernel
theorem d_M_init_104 : decode c_M_init 104 = .ok (.aload_n 0, 1) := by decide +kernel
theorem d_M_init_105 : decode c_M_init 105 = .ok (.iload_n 1, 1) := by decide +kernel
theorem d_M_init_106 : decode c_M_init 106 = .ok (.i2l, 1) := by decide +kernel
theorem d_M_init_107 : decode c_M_init 107 = .ok (.putfield 51, 3) := by decide +kernel
theorem d_M_init_110 : decode c_M_init 110 = .ok (.iconst 0, 1) := by decide +kernel
theorem d_M_init_111 : decode c_M_init 111 = .ok (.istore_n 2, 1) := by decide +kernel
theorem d_M_init_112 : decode c_M_init 112 = .ok (.iload_n 2, 1) := by decide +kernel
theorem d_M_init_113 : decode c_M_init 113 = .ok (.bipush 64, 2) := by decide +kernel
theorem d_M_init_115 : decode c_M_init 115 = .ok (.if_icmp .ge 16, 3) := by decide +kernel
theorem d_M_init_118 : decode c_M_init 118 = .ok (.aload_n 0, 1) := by decide +kernel
theorem d_M_init_119 : decode c_M_init 119 = .ok (.getfield 35, 3) := by decide +kernel
theorem d_M_init_122 : decode c_M_init 122 = .ok (.iload_n 2, 1) := by decide +kernel
theorem d_M_init_123 : decode c_M_init 123 = .ok (.iconst (-1), 1) := by decide +kernel
theorem d_M_init_124 : decode c_M_init 124 = .ok (.iastore, 1) := by decide +kernel
theorem d_M_init_125 : decode c_M_init 125 = .ok (.iinc 2 1, 3) := by decide +kernel
theorem d_M_init_128 : decode c_M_init 128 = .ok (.goto (-16), 3) := by decide +kernel
theorem d_M_init_131 : decode c_M_init 131 = .ok (.return_, 1) := by decide +kernel
theorem d_M_thrown_0 : decode c_M_thrown 0 = .ok (.aload_n 0, 1) := by decide +kernel
theorem d_M_thrown_1 : decode c_M_thrown 1 = .ok (.getfield 55, 3) := by decide +kernel
theorem d_M_thrown_4 : decode c_M_thrown 4 = .ok (.ireturn, 1) := by decide +kernel
theorem d_M_isIn_0 : decode c_M_isIn 0 = .ok (.iload_n 0, 1) := by decide +kernel
theorem d_M_isIn_1 : decode c_M_isIn 1 = .ok (.ifCond .lt 12, 3) := by decide +kernel
theorem d_M_isIn_4 : decode c_M_isIn 4 = .ok (.iload_n 0, 1) := by decide +kernel
theorem d_M_isIn_5 : decode c_M_isIn 5 = .ok (.iload_n 1, 1) := by decide +kernel
theorem d_M_isIn_6 : decode c_M_isIn 6 = .ok (.if_icmp .ge 7, 3) := by decide +kernel
theorem d_M_isIn_9 : decode c_M_isIn 9 = .ok (.iconst 1, 1) := by decide +kernel
theorem d_M_isIn_10 : decode c_M_isIn 10 = .ok (.goto 4, 3) := by decide +kernel
theorem d_M_isIn_13 : decode c_M_isIn 13 = .ok (.iconst 0, 1) := by decide +kernel
theorem d_M_isIn_14 : decode c_M_isIn 14 = .ok (.ireturn, 1) := by decide +kernel
theorem d_M_haul_0 : decode c_M_haul 0 = .ok (.aload_n 0, 1) := by decide +kernel
theorem d_M_haul_1 : decode c_M_haul 1 = .ok (.iload_n 1, 1) := by decide +kernel
theorem d_M_haul_2 : decode c_M_haul 2 = .ok (.iconst 4, 1) := by decide +kernel
theorem d_M_haul_3 : decode c_M_haul 3 = .ok (.invokestatic 59, 3) := by decide +kernel
theorem d_M_haul_6 : decode c_M_haul 6 = .ok (.ifCond .ne 7, 3) := by decide +kernel
theorem d_M_haul_9 : decode c_M_haul 9 = .ok (.iconst 1, 1) := by decide +kernel
theorem d_M_haul_10 : decode c_M_haul 10 = .ok (.goto 17, 3) := by decide +kernel
theorem d_M_haul_13 : decode c_M_haul 13 = .ok (.aload_n 0, 1) := by decide +kernel
theorem d_M_haul_14 : decode c_M_haul 14 = .ok (.getfield 63, 3) := by decide +kernel
theorem d_M_haul_17 : decode c_M_haul 17 = .ok (.bipush 32, 2) := by decide +kernel
theorem d_M_haul_19 : decode c_M_haul 19 = .ok (.if_icmp .ne 7, 3) := by decide +kernel
theorem d_M_haul_22 : decode c_M_haul 22 = .ok (.iconst 2, 1) := by decide +kernel
theorem d_M_haul_23 : decode c_M_haul 23 = .ok (.goto 4, 3) := by decide +kernel
theorem d_M_haul_26 : decode c_M_haul 26 = .ok (.iconst 0, 1) := by decide +kernel
theorem d_M_haul_27 : decode c_M_haul 27 = .ok (.putfield 55, 3) := by decide +kernel
theorem d_M_haul_30 : decode c_M_haul 30 = .ok (.aload_n 0, 1) := by decide +kernel
theorem d_M_haul_31 : decode c_M_haul 31 = .ok (.getfield 55, 3) := by decide +kernel
theorem d_M_haul_34 : decode c_M_haul 34 = .ok (.ifCond .le 5, 3) := by decide +kernel
theorem d_M_haul_37 : decode c_M_haul 37 = .ok (.iconst 0, 1) := by decide +kernel
theorem d_M_haul_38 : decode c_M_haul 38 = .ok (.ireturn, 1) := by decide +kernel
theorem d_M_haul_39 : decode c_M_haul 39 = .ok (.aload_n 0, 1) := by decide +kernel
theorem d_M_haul_40 : decode c_M_haul 40 = .ok (.getfield 7, 3) := by decide +kernel
theorem d_M_haul_43 : decode c_M_haul 43 = .ok (.aload_n 0, 1) := by decide +kernel
theorem d_M_haul_44 : decode c_M_haul 44 = .ok (.getfield 63, 3) := by decide +kernel
theorem d_M_haul_47 : decode c_M_haul 47 = .ok (.iload_n 1, 1) := by decide +kernel
theorem d_M_haul_48 : decode c_M_haul 48 = .ok (.iastore, 1) := by decide +kernel
theorem d_M_haul_49 : decode c_M_haul 49 = .ok (.aload_n 0, 1) := by decide +kernel
theorem d_M_haul_50 : decode c_M_haul 50 = .ok (.getfield 20, 3) := by decide +kernel
theorem d_M_haul_53 : decode c_M_haul 53 = .ok (.iload_n 1, 1) := by decide +kernel
theorem d_M_haul_54 : decode c_M_haul 54 = .ok (.iaload, 1) := by decide +kernel
theorem d_M_haul_55 : decode c_M_haul 55 = .ok (.iconst 2, 1) := by decide +kernel
theorem d_M_haul_56 : decode c_M_haul 56 = .ok (.irem, 1) := by decide +kernel
theorem d_M_haul_57 : decode c_M_haul 57 = .ok (.ifCond .ne 50, 3) := by decide +kernel
theorem d_M_haul_60 : decode c_M_haul 60 = .ok (.aload_n 0, 1) := by decide +kernel
theorem d_M_haul_61 : decode c_M_haul 61 = .ok (.aload_n 0, 1) := by decide +kernel
theorem d_M_haul_62 : decode c_M_haul 62 = .ok (.getfield 51, 3) := by decide +kernel
theorem d_M_haul_65 : decode c_M_haul 65 = .ok (.ldc2_w 66, 3) := by decide +kernel
theorem d_M_haul_68 : decode c_M_haul 68 = .ok (.lmul, 1) := by decide +kernel
theorem d_M_haul_69 : decode c_M_haul 69 = .ok (.ldc2_w 68, 3) := by decide +kernel
theorem d_M_haul_72 : decode c_M_haul 72 = .ok (.ladd, 1) := by decide +kernel
theorem d_M_haul_73 : decode c_M_haul 73 = .ok (.putfield 51, 3) := by decide +kernel
theorem d_M_haul_76 : decode c_M_haul 76 = .ok (.aload_n 0, 1) := by decide +kernel
theorem d_M_haul_77 : decode c_M_haul 77 = .ok (.getfield 13, 3) := by decide +kernel
theorem d_M_haul_80 : decode c_M_haul 80 = .ok (.aload_n 0, 1) := by decide +kernel
theorem d_M_haul_81 : decode c_M_haul 81 = .ok (.getfield 63, 3) := by decide +kernel
theorem d_M_haul_84 : decode c_M_haul 84 = .ok (.aload_n 0, 1) := by decide +kernel
theorem d_M_haul_85 : decode c_M_haul 85 = .ok (.getfield 51, 3) := by decide +kernel
theorem d_M_haul_88 : decode c_M_haul 88 = .ok (.bipush 40, 2) := by decide +kernel
theorem d_M_haul_90 : decode c_M_haul 90 = .ok (.lshr, 1) := by decide +kernel
theorem d_M_haul_91 : decode c_M_haul 91 = .ok (.lconst 1, 1) := by decide +kernel
theorem d_M_haul_92 : decode c_M_haul 92 = .ok (.land, 1) := by decide +kernel
theorem d_M_haul_93 : decode c_M_haul 93 = .ok (.lconst 1, 1) := by decide +kernel
theorem d_M_haul_94 : decode c_M_haul 94 = .ok (.lcmp, 1) := by decide +kernel
theorem d_M_haul_95 : decode c_M_haul 95 = .ok (.ifCond .ne 7, 3) := by decide +kernel
theorem d_M_haul_98 : decode c_M_haul 98 = .ok (.iconst 1, 1) := by decide +kernel
theorem d_M_haul_99 : decode c_M_haul 99 = .ok (.goto 4, 3) := by decide +kernel
theorem d_M_haul_102 : decode c_M_haul 102 = .ok (.iconst 0, 1) := by decide +kernel
theorem d_M_haul_103 : decode c_M_haul 103 = .ok (.bastore, 1) := by decide +kernel
theorem d_M_haul_104 : decode c_M_haul 104 = .ok (.goto 69, 3) := by decide +kernel
theorem d_M_haul_107 : decode c_M_haul 107 = .ok (.aload_n 0, 1) := by decide +kernel
theorem d_M_haul_108 : decode c_M_haul 108 = .ok (.getfield 13, 3) := by decide +kernel
theorem d_M_haul_111 : decode c_M_haul 111 = .ok (.aload_n 0, 1) := by decide +kernel
theorem d_M_haul_112 : decode c_M_haul 112 = .ok (.getfield 63, 3) := by decide +kernel
theorem d_M_haul_115 : decode c_M_haul 115 = .ok (.aload_n 0, 1) := by decide +kernel
theorem d_M_haul_116 : decode c_M_haul 116 = .ok (.getfield 13, 3) := by decide +kernel
theorem d_M_haul_119 : decode c_M_haul 119 = .ok (.aload_n 0, 1) := by decide +kernel
theorem d_M_haul_120 : decode c_M_haul 120 = .ok (.getfield 23, 3) := by decide +kernel
theorem d_M_haul_123 : decode c_M_haul 123 = .ok (.iload_n 1, 1) := by decide +kernel
theorem d_M_haul_124 : decode c_M_haul 124 = .ok (.iaload, 1) := by decide +kernel
theorem d_M_haul_125 : decode c_M_haul 125 = .ok (.baload, 1) := by decide +kernel
theorem d_M_haul_126 : decode c_M_haul 126 = .ok (.ifCond .ne 7, 3) := by decide +kernel
theorem d_M_haul_129 : decode c_M_haul 129 = .ok (.iconst 1, 1) := by decide +kernel
theorem d_M_haul_130 : decode c_M_haul 130 = .ok (.goto 4, 3) := by decide +kernel
theorem d_M_haul_133 : decode c_M_haul 133 = .ok (.iconst 0, 1) := by decide +kernel
theorem d_M_haul_134 : decode c_M_haul 134 = .ok (.bastore, 1) := by decide +kernel
theorem d_M_haul_135 : decode c_M_haul 135 = .ok (.aload_n 0, 1) := by decide +kernel
theorem d_M_haul_136 : decode c_M_haul 136 = .ok (.getfield 26, 3) := by decide +kernel
theorem d_M_haul_139 : decode c_M_haul 139 = .ok (.aload_n 0, 1) := by decide +kernel
theorem d_M_haul_140 : decode c_M_haul 140 = .ok (.getfield 70, 3) := by decide +kernel
theorem d_M_haul_143 : decode c_M_haul 143 = .ok (.aload_n 0, 1) := by decide +kernel
theorem d_M_haul_144 : decode c_M_haul 144 = .ok (.getfield 23, 3) := by decide +kernel
theorem d_M_haul_147 : decode c_M_haul 147 = .ok (.iload_n 1, 1) := by decide +kernel
theorem d_M_haul_148 : decode c_M_haul 148 = .ok (.iaload, 1) := by decide +kernel
theorem d_M_haul_149 : decode c_M_haul 149 = .ok (.iastore, 1) := by decide +kernel
theorem d_M_haul_150 : decode c_M_haul 150 = .ok (.aload_n 0, 1) := by decide +kernel
theorem d_M_haul_151 : decode c_M_haul 151 = .ok (.getfield 29, 3) := by decide +kernel
theorem d_M_haul_154 : decode c_M_haul 154 = .ok (.aload_n 0, 1) := by decide +kernel
theorem d_M_haul_155 : decode c_M_haul 155 = .ok (.getfield 70, 3) := by decide +kernel
theorem d_M_haul_158 : decode c_M_haul 158 = .ok (.aload_n 0, 1) := by decide +kernel
theorem d_M_haul_159 : decode c_M_haul 159 = .ok (.getfield 63, 3) := by decide +kernel
theorem d_M_haul_162 : decode c_M_haul 162 = .ok (.iastore, 1) := by decide +kernel
theorem d_M_haul_163 : decode c_M_haul 163 = .ok (.aload_n 0, 1) := by decide +kernel
theorem d_M_haul_164 : decode c_M_haul 164 = .ok (.dup, 1) := by decide +kernel
theorem d_M_haul_165 : decode c_M_haul 165 = .ok (.getfield 70, 3) := by decide +kernel
theorem d_M_haul_168 : decode c_M_haul 168 = .ok (.iconst 1, 1) := by decide +kernel
theorem d_M_haul_169 : decode c_M_haul 169 = .ok (.iadd, 1) := by decide +kernel
theorem d_M_haul_170 : decode c_M_haul 170 = .ok (.putfield 70, 3) := by decide +kernel
theorem d_M_haul_173 : decode c_M_haul 173 = .ok (.aload_n 0, 1) := by decide +kernel
theorem d_M_haul_174 : decode c_M_haul 174 = .ok (.getfield 23, 3) := by decide +kernel
theorem d_M_haul_177 : decode c_M_haul 177 = .ok (.iload_n 1, 1) := by decide +kernel
theorem d_M_haul_178 : decode c_M_haul 178 = .ok (.aload_n 0, 1) := by decide +kernel
theorem d_M_haul_179 : decode c_M_haul 179 = .ok (.getfield 63, 3) := by decide +kernel
theorem d_M_haul_182 : decode c_M_haul 182 = .ok (.iastore, 1) := by decide +kernel
theorem d_M_haul_183 : decode c_M_haul 183 = .ok (.aload_n 0, 1) := by decide +kernel
theorem d_M_haul_184 : decode c_M_haul 184 = .ok (.getfield 20, 3) := by decide +kernel
theorem d_M_haul_187 : decode c_M_haul 187 = .ok (.iload_n 1, 1) := by decide +kernel
theorem d_M_haul_188 : decode c_M_haul 188 = .ok (.dup2, 1) := by decide +kernel
theorem d_M_haul_189 : decode c_M_haul 189 = .ok (.iaload, 1) := by decide +kernel
theorem d_M_haul_190 : decode c_M_haul 190 = .ok (.iconst 1, 1) := by decide +kernel
theorem d_M_haul_191 : decode c_M_haul 191 = .ok (.iadd, 1) := by decide +kernel
theorem d_M_haul_192 : decode c_M_haul 192 = .ok (.iastore, 1) := by decide +kernel
theorem d_M_haul_193 : decode c_M_haul 193 = .ok (.aload_n 0, 1) := by decide +kernel
theorem d_M_haul_194 : decode c_M_haul 194 = .ok (.dup, 1) := by decide +kernel
theorem d_M_haul_195 : decode c_M_haul 195 = .ok (.getfield 63, 3) := by decide +kernel
theorem d_M_haul_198 : decode c_M_haul 198 = .ok (.iconst 1, 1) := by decide +kernel
theorem d_M_haul_199 : decode c_M_haul 199 = .ok (.iadd, 1) := by decide +kernel
theorem d_M_haul_200 : decode c_M_haul 200 = .ok (.putfield 63, 3) := by decide +kernel
theorem d_M_haul_203 : decode c_M_haul 203 = .ok (.aload_n 0, 1) := by decide +kernel
theorem d_M_haul_204 : decode c_M_haul 204 = .ok (.getfield 63, 3) := by decide +kernel
theorem d_M_haul_207 : decode c_M_haul 207 = .ok (.iconst 1, 1) := by decide +kernel
theorem d_M_haul_208 : decode c_M_haul 208 = .ok (.isub, 1) := by decide +kernel
theorem d_M_haul_209 : decode c_M_haul 209 = .ok (.ireturn, 1) := by decide +kernel
theorem d_M_caught_0 : decode c_M_caught 0 = .ok (.aload_n 0, 1) := by decide +kernel
theorem d_M_caught_1 : decode c_M_caught 1 = .ok (.iload_n 1, 1) := by decide +kernel
theorem d_M_caught_2 : decode c_M_caught 2 = .ok (.aload_n 0, 1) := by decide +kernel
theorem d_M_caught_3 : decode c_M_caught 3 = .ok (.getfield 63, 3) := by decide +kernel
theorem d_M_caught_6 : decode c_M_caught 6 = .ok (.invokestatic 59, 3) := by decide +kernel
theorem d_M_caught_9 : decode c_M_caught 9 = .ok (.ifCond .eq 11, 3) := by decide +kernel
theorem d_M_caught_12 : decode c_M_caught 12 = .ok (.iload_n 2, 1) := by decide +kernel
theorem d_M_caught_13 : decode c_M_caught 13 = .ok (.iconst 3, 1) := by decide +kernel
theorem d_M_caught_14 : decode c_M_caught 14 = .ok (.invokestatic 59, 3) := by decide +kernel
theorem d_M_caught_17 : decode c_M_caught 17 = .ok (.ifCond .ne 7, 3) := by decide +kernel
theorem d_M_caught_20 : decode c_M_caught 20 = .ok (.iconst 1, 1) := by decide +kernel
theorem d_M_caught_21 : decode c_M_caught 21 = .ok (.goto 19, 3) := by decide +kernel
theorem d_M_caught_24 : decode c_M_caught 24 = .ok (.iload_n 3, 1) := by decide +kernel
theorem d_M_caught_25 : decode c_M_caught 25 = .ok (.ifCond .lt 10, 3) := by decide +kernel
theorem d_M_caught_28 : decode c_M_caught 28 = .ok (.iload_n 3, 1) := by decide +kernel
theorem d_M_caught_29 : decode c_M_caught 29 = .ok (.sipush 1000, 3) := by decide +kernel
theorem d_M_caught_32 : decode c_M_caught 32 = .ok (.if_icmp .le 7, 3) := by decide +kernel
theorem d_M_caught_35 : decode c_M_caught 35 = .ok (.iconst 2, 1) := by decide +kernel
theorem d_M_caught_36 : decode c_M_caught 36 = .ok (.goto 4, 3) := by decide +kernel
theorem d_M_caught_39 : decode c_M_caught 39 = .ok (.iconst 0, 1) := by decide +kernel
theorem d_M_caught_40 : decode c_M_caught 40 = .ok (.putfield 55, 3) := by decide +kernel
theorem d_M_caught_43 : decode c_M_caught 43 = .ok (.aload_n 0, 1) := by decide +kernel
theorem d_M_caught_44 : decode c_M_caught 44 = .ok (.getfield 55, 3) := by decide +kernel
theorem d_M_caught_47 : decode c_M_caught 47 = .ok (.ifCond .le 5, 3) := by decide +kernel
theorem d_M_caught_50 : decode c_M_caught 50 = .ok (.iconst 0, 1) := by decide +kernel
theorem d_M_caught_51 : decode c_M_caught 51 = .ok (.ireturn, 1) := by decide +kernel
theorem d_M_caught_52 : decode c_M_caught 52 = .ok (.aload_n 0, 1) := by decide +kernel
theorem d_M_caught_53 : decode c_M_caught 53 = .ok (.getfield 17, 3) := by decide +kernel
theorem d_M_caught_56 : decode c_M_caught 56 = .ok (.iconst 3, 1) := by decide +kernel
theorem d_M_caught_57 : decode c_M_caught 57 = .ok (.iload_n 1, 1) := by decide +kernel
theorem d_M_caught_58 : decode c_M_caught 58 = .ok (.imul, 1) := by decide +kernel
theorem d_M_caught_59 : decode c_M_caught 59 = .ok (.iload_n 2, 1) := by decide +kernel
theorem d_M_caught_60 : decode c_M_caught 60 = .ok (.iadd, 1) := by decide +kernel
theorem d_M_caught_61 : decode c_M_caught 61 = .ok (.iaload, 1) := by decide +kernel
theorem d_M_caught_62 : decode c_M_caught 62 = .ok (.iload_n 3, 1) := by decide +kernel
theorem d_M_caught_63 : decode c_M_caught 63 = .ok (.if_icmp .eq 7, 3) := by decide +kernel
theorem d_M_caught_66 : decode c_M_caught 66 = .ok (.iconst 1, 1) := by decide +kernel
theorem d_M_caught_67 : decode c_M_caught 67 = .ok (.goto 4, 3) := by decide +kernel
theorem d_M_caught_70 : decode c_M_caught 70 = .ok (.iconst 0, 1) := by decide +kernel
theorem d_M_caught_71 : decode c_M_caught 71 = .ok (.istore 4, 2) := by decide +kernel
theorem d_M_caught_73 : decode c_M_caught 73 = .ok (.aload_n 0, 1) := by decide +kernel
theorem d_M_caught_74 : decode c_M_caught 74 = .ok (.getfield 17, 3) := by decide +kernel
theorem d_M_caught_77 : decode c_M_caught 77 = .ok (.iconst 3, 1) := by decide +kernel
theorem d_M_caught_78 : decode c_M_caught 78 = .ok (.iload_n 1, 1) := by decide +kernel
theorem d_M_caught_79 : decode c_M_caught 79 = .ok (.imul, 1) := by decide +kernel
theorem d_M_caught_80 : decode c_M_caught 80 = .ok (.iload_n 2, 1) := by decide +kernel
theorem d_M_caught_81 : decode c_M_caught 81 = .ok (.iadd, 1) := by decide +kernel
theorem d_M_caught_82 : decode c_M_caught 82 = .ok (.iload_n 3, 1) := by decide +kernel
theorem d_M_caught_83 : decode c_M_caught 83 = .ok (.iastore, 1) := by decide +kernel
theorem d_M_caught_84 : decode c_M_caught 84 = .ok (.iload 4, 2) := by decide +kernel
theorem d_M_caught_86 : decode c_M_caught 86 = .ok (.ireturn, 1) := by decide +kernel
theorem d_M_out_0 : decode c_M_out 0 = .ok (.aload_n 0, 1) := by decide +kernel
theorem d_M_out_1 : decode c_M_out 1 = .ok (.iload_n 1, 1) := by decide +kernel
theorem d_M_out_2 : decode c_M_out 2 = .ok (.iconst 4, 1) := by decide +kernel
theorem d_M_out_3 : decode c_M_out 3 = .ok (.invokestatic 59, 3) := by decide +kernel
theorem d_M_out_6 : decode c_M_out 6 = .ok (.ifCond .eq 7, 3) := by decide +kernel
theorem d_M_out_9 : decode c_M_out 9 = .ok (.iconst 0, 1) := by decide +kernel
theorem d_M_out_10 : decode c_M_out 10 = .ok (.goto 4, 3) := by decide +kernel
theorem d_M_out_13 : decode c_M_out 13 = .ok (.iconst 1, 1) := by decide +kernel
theorem d_M_out_14 : decode c_M_out 14 = .ok (.putfield 55, 3) := by decide +kernel
theorem d_M_out_17 : decode c_M_out 17 = .ok (.aload_n 0, 1) := by decide +kernel
theorem d_M_out_18 : decode c_M_out 18 = .ok (.getfield 55, 3) := by decide +kernel
theorem d_M_out_21 : decode c_M_out 21 = .ok (.ifCond .le 5, 3) := by decide +kernel
theorem d_M_out_24 : decode c_M_out 24 = .ok (.iconst 0, 1) := by decide +kernel
theorem d_M_out_25 : decode c_M_out 25 = .ok (.ireturn, 1) := by decide +kernel
theorem d_M_out_26 : decode c_M_out 26 = .ok (.aload_n 0, 1) := by decide +kernel
theorem d_M_out_27 : decode c_M_out 27 = .ok (.getfield 32, 3) := by decide +kernel
theorem d_M_out_30 : decode c_M_out 30 = .ok (.iload_n 1, 1) := by decide +kernel
theorem d_M_out_31 : decode c_M_out 31 = .ok (.baload, 1) := by decide +kernel
theorem d_M_out_32 : decode c_M_out 32 = .ok (.iload_n 2, 1) := by decide +kernel
theorem d_M_out_33 : decode c_M_out 33 = .ok (.if_icmp .eq 7, 3) := by decide +kernel
theorem d_M_out_36 : decode c_M_out 36 = .ok (.iconst 1, 1) := by decide +kernel
theorem d_M_out_37 : decode c_M_out 37 = .ok (.goto 4, 3) := by decide +kernel
theorem d_M_out_40 : decode c_M_out 40 = .ok (.iconst 0, 1) := by decide +kernel
theorem d_M_out_41 : decode c_M_out 41 = .ok (.istore_n 3, 1) := by decide +kernel
theorem d_M_out_42 : decode c_M_out 42 = .ok (.aload_n 0, 1) := by decide +kernel
theorem d_M_out_43 : decode c_M_out 43 = .ok (.getfield 32, 3) := by decide +kernel
theorem d_M_out_46 : decode c_M_out 46 = .ok (.iload_n 1, 1) := by decide +kernel
theorem d_M_out_47 : decode c_M_out 47 = .ok (.iload_n 2, 1) := by decide +kernel
theorem d_M_out_48 : decode c_M_out 48 = .ok (.bastore, 1) := by decide +kernel
theorem d_M_out_49 : decode c_M_out 49 = .ok (.iload_n 3, 1) := by decide +kernel
theorem d_M_out_50 : decode c_M_out 50 = .ok (.ireturn, 1) := by decide +kernel
theorem d_M_arm_0 : decode c_M_arm 0 = .ok (.aload_n 0, 1) := by decide +kernel
theorem d_M_arm_1 : decode c_M_arm 1 = .ok (.iload_n 1, 1) := by decide +kernel
theorem d_M_arm_2 : decode c_M_arm 2 = .ok (.aload_n 0, 1) := by decide +kernel
theorem d_M_arm_3 : decode c_M_arm 3 = .ok (.getfield 63, 3) := by decide +kernel
theorem d_M_arm_6 : decode c_M_arm 6 = .ok (.invokestatic 59, 3) := by decide +kernel
theorem d_M_arm_9 : decode c_M_arm 9 = .ok (.ifCond .eq 7, 3) := by decide +kernel
theorem d_M_arm_12 : decode c_M_arm 12 = .ok (.iconst 0, 1) := by decide +kernel
theorem d_M_arm_13 : decode c_M_arm 13 = .ok (.goto 4, 3) := by decide +kernel
theorem d_M_arm_16 : decode c_M_arm 16 = .ok (.iconst 1, 1) := by decide +kernel
theorem d_M_arm_17 : decode c_M_arm 17 = .ok (.putfield 55, 3) := by decide +kernel
theorem d_M_arm_20 : decode c_M_arm 20 = .ok (.aload_n 0, 1) := by decide +kernel
theorem d_M_arm_21 : decode c_M_arm 21 = .ok (.getfield 55, 3) := by decide +kernel
theorem d_M_arm_24 : decode c_M_arm 24 = .ok (.ifCond .ne 16, 3) := by decide +kernel
theorem d_M_arm_27 : decode c_M_arm 27 = .ok (.aload_n 0, 1) := by decide +kernel
theorem d_M_arm_28 : decode c_M_arm 28 = .ok (.getfield 13, 3) := by decide +kernel
theorem d_M_arm_31 : decode c_M_arm 31 = .ok (.iload_n 1, 1) := by decide +kernel
theorem d_M_arm_32 : decode c_M_arm 32 = .ok (.baload, 1) := by decide +kernel
theorem d_M_arm_33 : decode c_M_arm 33 = .ok (.ifCond .eq 7, 3) := by decide +kernel
theorem d_M_arm_36 : decode c_M_arm 36 = .ok (.iconst 1, 1) := by decide +kernel
theorem d_M_arm_37 : decode c_M_arm 37 = .ok (.goto 4, 3) := by decide +kernel
theorem d_M_arm_40 : decode c_M_arm 40 = .ok (.iconst 0, 1) := by decide +kernel
theorem d_M_arm_41 : decode c_M_arm 41 = .ok (.ireturn, 1) := by decide +kernel
theorem d_M_pair_0 : decode c_M_pair 0 = .ok (.aload_n 0, 1) := by decide +kernel
theorem d_M_pair_1 : decode c_M_pair 1 = .ok (.iload_n 1, 1) := by decide +kernel
theorem d_M_pair_2 : decode c_M_pair 2 = .ok (.aload_n 0, 1) := by decide +kernel
theorem d_M_pair_3 : decode c_M_pair 3 = .ok (.getfield 70, 3) := by decide +kernel
theorem d_M_pair_6 : decode c_M_pair 6 = .ok (.invokestatic 59, 3) := by decide +kernel
theorem d_M_pair_9 : decode c_M_pair 9 = .ok (.ifCond .eq 15, 3) := by decide +kernel
theorem d_M_pair_12 : decode c_M_pair 12 = .ok (.iload_n 2, 1) := by decide +kernel
theorem d_M_pair_13 : decode c_M_pair 13 = .ok (.iconst 3, 1) := by decide +kernel
theorem d_M_pair_14 : decode c_M_pair 14 = .ok (.invokestatic 59, 3) := by decide +kernel
theorem d_M_pair_17 : decode c_M_pair 17 = .ok (.ifCond .eq 7, 3) := by decide +kernel
theorem d_M_pair_20 : decode c_M_pair 20 = .ok (.iconst 0, 1) := by decide +kernel
theorem d_M_pair_21 : decode c_M_pair 21 = .ok (.goto 4, 3) := by decide +kernel
theorem d_M_pair_24 : decode c_M_pair 24 = .ok (.iconst 1, 1) := by decide +kernel
theorem d_M_pair_25 : decode c_M_pair 25 = .ok (.putfield 55, 3) := by decide +kernel
theorem d_M_pair_28 : decode c_M_pair 28 = .ok (.aload_n 0, 1) := by decide +kernel
theorem d_M_pair_29 : decode c_M_pair 29 = .ok (.getfield 55, 3) := by decide +kernel
theorem d_M_pair_32 : decode c_M_pair 32 = .ok (.ifCond .le 5, 3) := by decide +kernel
theorem d_M_pair_35 : decode c_M_pair 35 = .ok (.iconst 0, 1) := by decide +kernel
theorem d_M_pair_36 : decode c_M_pair 36 = .ok (.ireturn, 1) := by decide +kernel
theorem d_M_pair_37 : decode c_M_pair 37 = .ok (.aload_n 0, 1) := by decide +kernel
theorem d_M_pair_38 : decode c_M_pair 38 = .ok (.getfield 13, 3) := by decide +kernel
theorem d_M_pair_41 : decode c_M_pair 41 = .ok (.aload_n 0, 1) := by decide +kernel
theorem d_M_pair_42 : decode c_M_pair 42 = .ok (.getfield 29, 3) := by decide +kernel
theorem d_M_pair_45 : decode c_M_pair 45 = .ok (.iload_n 1, 1) := by decide +kernel
theorem d_M_pair_46 : decode c_M_pair 46 = .ok (.iaload, 1) := by decide +kernel
theorem d_M_pair_47 : decode c_M_pair 47 = .ok (.baload, 1) := by decide +kernel
theorem d_M_pair_48 : decode c_M_pair 48 = .ok (.istore_n 3, 1) := by decide +kernel
theorem d_M_pair_49 : decode c_M_pair 49 = .ok (.iload_n 2, 1) := by decide +kernel
theorem d_M_pair_50 : decode c_M_pair 50 = .ok (.iconst 2, 1) := by decide +kernel
theorem d_M_pair_51 : decode c_M_pair 51 = .ok (.if_icmp .ne 17, 3) := by decide +kernel
theorem d_M_pair_54 : decode c_M_pair 54 = .ok (.aload_n 0, 1) := by decide +kernel
theorem d_M_pair_55 : decode c_M_pair 55 = .ok (.getfield 7, 3) := by decide +kernel
theorem d_M_pair_58 : decode c_M_pair 58 = .ok (.aload_n 0, 1) := by decide +kernel
theorem d_M_pair_59 : decode c_M_pair 59 = .ok (.getfield 26, 3) := by decide +kernel
theorem d_M_pair_62 : decode c_M_pair 62 = .ok (.iload_n 1, 1) := by decide +kernel
theorem d_M_pair_63 : decode c_M_pair 63 = .ok (.iaload, 1) := by decide +kernel
theorem d_M_pair_64 : decode c_M_pair 64 = .ok (.iaload, 1) := by decide +kernel
theorem d_M_pair_65 : decode c_M_pair 65 = .ok (.goto 31, 3) := by decide +kernel
theorem d_M_pair_68 : decode c_M_pair 68 = .ok (.iload_n 2, 1) := by decide +kernel
theorem d_M_pair_69 : decode c_M_pair 69 = .ok (.ifCond .ne 7, 3) := by decide +kernel
theorem d_M_pair_72 : decode c_M_pair 72 = .ok (.iconst 1, 1) := by decide +kernel
theorem d_M_pair_73 : decode c_M_pair 73 = .ok (.goto 4, 3) := by decide +kernel
theorem d_M_pair_76 : decode c_M_pair 76 = .ok (.iconst 0, 1) := by decide +kernel
theorem d_M_pair_77 : decode c_M_pair 77 = .ok (.iload_n 3, 1) := by decide +kernel
theorem d_M_pair_78 : decode c_M_pair 78 = .ok (.if_icmp .ne 12, 3) := by decide +kernel
theorem d_M_pair_81 : decode c_M_pair 81 = .ok (.aload_n 0, 1) := by decide +kernel
theorem d_M_pair_82 : decode c_M_pair 82 = .ok (.getfield 29, 3) := by decide +kernel
theorem d_M_pair_85 : decode c_M_pair 85 = .ok (.iload_n 1, 1) := by decide +kernel
theorem d_M_pair_86 : decode c_M_pair 86 = .ok (.iaload, 1) := by decide +kernel
theorem d_M_pair_87 : decode c_M_pair 87 = .ok (.goto 9, 3) := by decide +kernel
theorem d_M_pair_90 : decode c_M_pair 90 = .ok (.aload_n 0, 1) := by decide +kernel
theorem d_M_pair_91 : decode c_M_pair 91 = .ok (.getfield 26, 3) := by decide +kernel
theorem d_M_pair_94 : decode c_M_pair 94 = .ok (.iload_n 1, 1) := by decide +kernel
theorem d_M_pair_95 : decode c_M_pair 95 = .ok (.iaload, 1) := by decide +kernel
theorem d_M_pair_96 : decode c_M_pair 96 = .ok (.ireturn, 1) := by decide +kernel
theorem d_M_pairs_0 : decode c_M_pairs 0 = .ok (.aload_n 0, 1) := by decide +kernel
theorem d_M_pairs_1 : decode c_M_pairs 1 = .ok (.iconst 0, 1) := by decide +kernel
theorem d_M_pairs_2 : decode c_M_pairs 2 = .ok (.putfield 55, 3) := by decide +kernel
theorem d_M_pairs_5 : decode c_M_pairs 5 = .ok (.aload_n 0, 1) := by decide +kernel
theorem d_M_pairs_6 : decode c_M_pairs 6 = .ok (.getfield 70, 3) := by decide +kernel
theorem d_M_pairs_9 : decode c_M_pairs 9 = .ok (.ireturn, 1) := by decide +kernel
theorem d_M_by_0 : decode c_M_by 0 = .ok (.aload_n 0, 1) := by decide +kernel
theorem d_M_by_1 : decode c_M_by 1 = .ok (.getfield 17, 3) := by decide +kernel
theorem d_M_by_4 : decode c_M_by 4 = .ok (.iconst 3, 1) := by decide +kernel
theorem d_M_by_5 : decode c_M_by 5 = .ok (.aload_n 0, 1) := by decide +kernel
theorem d_M_by_6 : decode c_M_by 6 = .ok (.getfield 26, 3) := by decide +kernel
theorem d_M_by_9 : decode c_M_by 9 = .ok (.iload_n 1, 1) := by decide +kernel
theorem d_M_by_10 : decode c_M_by 10 = .ok (.iaload, 1) := by decide +kernel
theorem d_M_by_11 : decode c_M_by 11 = .ok (.imul, 1) := by decide +kernel
theorem d_M_by_12 : decode c_M_by 12 = .ok (.iload_n 2, 1) := by decide +kernel
theorem d_M_by_13 : decode c_M_by 13 = .ok (.iadd, 1) := by decide +kernel
theorem d_M_by_14 : decode c_M_by 14 = .ok (.iaload, 1) := by decide +kernel
theorem d_M_by_15 : decode c_M_by 15 = .ok (.aload_n 0, 1) := by decide +kernel
theorem d_M_by_16 : decode c_M_by 16 = .ok (.getfield 17, 3) := by decide +kernel
theorem d_M_by_19 : decode c_M_by 19 = .ok (.iconst 3, 1) := by decide +kernel
theorem d_M_by_20 : decode c_M_by 20 = .ok (.aload_n 0, 1) := by decide +kernel
theorem d_M_by_21 : decode c_M_by 21 = .ok (.getfield 29, 3) := by decide +kernel
theorem d_M_by_24 : decode c_M_by 24 = .ok (.iload_n 1, 1) := by decide +kernel
theorem d_M_by_25 : decode c_M_by 25 = .ok (.iaload, 1) := by decide +kernel
theorem d_M_by_26 : decode c_M_by 26 = .ok (.imul, 1) := by decide +kernel
theorem d_M_by_27 : decode c_M_by 27 = .ok (.iload_n 2, 1) := by decide +kernel
theorem d_M_by_28 : decode c_M_by 28 = .ok (.iadd, 1) := by decide +kernel
theorem d_M_by_29 : decode c_M_by 29 = .ok (.iaload, 1) := by decide +kernel
theorem d_M_by_30 : decode c_M_by 30 = .ok (.isub, 1) := by decide +kernel
theorem d_M_by_31 : decode c_M_by 31 = .ok (.istore_n 3, 1) := by decide +kernel
theorem d_M_by_32 : decode c_M_by 32 = .ok (.aload_n 0, 1) := by decide +kernel
theorem d_M_by_33 : decode c_M_by 33 = .ok (.getfield 13, 3) := by decide +kernel
theorem d_M_by_36 : decode c_M_by 36 = .ok (.aload_n 0, 1) := by decide +kernel
theorem d_M_by_37 : decode c_M_by 37 = .ok (.getfield 26, 3) := by decide +kernel
theorem d_M_by_40 : decode c_M_by 40 = .ok (.iload_n 1, 1) := by decide +kernel
theorem d_M_by_41 : decode c_M_by 41 = .ok (.iaload, 1) := by decide +kernel
theorem d_M_by_42 : decode c_M_by 42 = .ok (.baload, 1) := by decide +kernel
theorem d_M_by_43 : decode c_M_by 43 = .ok (.ifCond .eq 7, 3) := by decide +kernel
theorem d_M_by_46 : decode c_M_by 46 = .ok (.iload_n 3, 1) := by decide +kernel
theorem d_M_by_47 : decode c_M_by 47 = .ok (.goto 5, 3) := by decide +kernel
theorem d_M_by_50 : decode c_M_by 50 = .ok (.iload_n 3, 1) := by decide +kernel
theorem d_M_by_51 : decode c_M_by 51 = .ok (.ineg, 1) := by decide +kernel
theorem d_M_by_52 : decode c_M_by 52 = .ok (.ireturn, 1) := by decide +kernel
theorem d_M_isKept_0 : decode c_M_isKept 0 = .ok (.aload_n 0, 1) := by decide +kernel
theorem d_M_isKept_1 : decode c_M_isKept 1 = .ok (.getfield 17, 3) := by decide +kernel
theorem d_M_isKept_4 : decode c_M_isKept 4 = .ok (.iconst 3, 1) := by decide +kernel
theorem d_M_isKept_5 : decode c_M_isKept 5 = .ok (.aload_n 0, 1) := by decide +kernel
theorem d_M_isKept_6 : decode c_M_isKept 6 = .ok (.getfield 26, 3) := by decide +kernel
theorem d_M_isKept_9 : decode c_M_isKept 9 = .ok (.iload_n 1, 1) := by decide +kernel
theorem d_M_isKept_10 : decode c_M_isKept 10 = .ok (.iaload, 1) := by decide +kernel
theorem d_M_isKept_11 : decode c_M_isKept 11 = .ok (.imul, 1) := by decide +kernel
theorem d_M_isKept_12 : decode c_M_isKept 12 = .ok (.iload_n 2, 1) := by decide +kernel
theorem d_M_isKept_13 : decode c_M_isKept 13 = .ok (.iadd, 1) := by decide +kernel
theorem d_M_isKept_14 : decode c_M_isKept 14 = .ok (.iaload, 1) := by decide +kernel
theorem d_M_isKept_15 : decode c_M_isKept 15 = .ok (.ifCond .gt 21, 3) := by decide +kernel
theorem d_M_isKept_18 : decode c_M_isKept 18 = .ok (.aload_n 0, 1) := by decide +kernel
theorem d_M_isKept_19 : decode c_M_isKept 19 = .ok (.getfield 17, 3) := by decide +kernel
theorem d_M_isKept_22 : decode c_M_isKept 22 = .ok (.iconst 3, 1) := by decide +kernel
theorem d_M_isKept_23 : decode c_M_isKept 23 = .ok (.aload_n 0, 1) := by decide +kernel
theorem d_M_isKept_24 : decode c_M_isKept 24 = .ok (.getfield 29, 3) := by decide +kernel
theorem d_M_isKept_27 : decode c_M_isKept 27 = .ok (.iload_n 1, 1) := by decide +kernel
theorem d_M_isKept_28 : decode c_M_isKept 28 = .ok (.iaload, 1) := by decide +kernel
theorem d_M_isKept_29 : decode c_M_isKept 29 = .ok (.imul, 1) := by decide +kernel
theorem d_M_isKept_30 : decode c_M_isKept 30 = .ok (.iload_n 2, 1) := by decide +kernel
theorem d_M_isKept_31 : decode c_M_isKept 31 = .ok (.iadd, 1) := by decide +kernel
theorem d_M_isKept_32 : decode c_M_isKept 32 = .ok (.iaload, 1) := by decide +kernel
theorem d_M_isKept_33 : decode c_M_isKept 33 = .ok (.ifCond .le 7, 3) := by decide +kernel
theorem d_M_isKept_36 : decode c_M_isKept 36 = .ok (.iconst 1, 1) := by decide +kernel
theorem d_M_isKept_37 : decode c_M_isKept 37 = .ok (.goto 4, 3) := by decide +kernel
theorem d_M_isKept_40 : decode c_M_isKept 40 = .ok (.iconst 0, 1) := by decide +kernel
theorem d_M_isKept_41 : decode c_M_isKept 41 = .ok (.istore_n 3, 1) := by decide +kernel
theorem d_M_isKept_42 : decode c_M_isKept 42 = .ok (.iload_n 3, 1) := by decide +kernel
theorem d_M_isKept_43 : decode c_M_isKept 43 = .ok (.ifCond .eq 26, 3) := by decide +kernel
theorem d_M_isKept_46 : decode c_M_isKept 46 = .ok (.aload_n 0, 1) := by decide +kernel
theorem d_M_isKept_47 : decode c_M_isKept 47 = .ok (.getfield 32, 3) := by decide +kernel
theorem d_M_isKept_50 : decode c_M_isKept 50 = .ok (.aload_n 0, 1) := by decide +kernel
theorem d_M_isKept_51 : decode c_M_isKept 51 = .ok (.getfield 7, 3) := by decide +kernel
theorem d_M_isKept_54 : decode c_M_isKept 54 = .ok (.aload_n 0, 1) := by decide +kernel
theorem d_M_isKept_55 : decode c_M_isKept 55 = .ok (.getfield 26, 3) := by decide +kernel
theorem d_M_isKept_58 : decode c_M_isKept 58 = .ok (.iload_n 1, 1) := by decide +kernel
theorem d_M_isKept_59 : decode c_M_isKept 59 = .ok (.iaload, 1) := by decide +kernel
theorem d_M_isKept_60 : decode c_M_isKept 60 = .ok (.iaload, 1) := by decide +kernel
theorem d_M_isKept_61 : decode c_M_isKept 61 = .ok (.baload, 1) := by decide +kernel
theorem d_M_isKept_62 : decode c_M_isKept 62 = .ok (.ifCond .ne 7, 3) := by decide +kernel
theorem d_M_isKept_65 : decode c_M_isKept 65 = .ok (.iconst 1, 1) := by decide +kernel
theorem d_M_isKept_66 : decode c_M_isKept 66 = .ok (.goto 4, 3) := by decide +kernel
theorem d_M_isKept_69 : decode c_M_isKept 69 = .ok (.iconst 0, 1) := by decide +kernel
theorem d_M_isKept_70 : decode c_M_isKept 70 = .ok (.ireturn, 1) := by decide +kernel
theorem d_M_difference_0 : decode c_M_difference 0 = .ok (.aload_n 0, 1) := by decide +kernel
theorem d_M_difference_1 : decode c_M_difference 1 = .ok (.iload_n 1, 1) := by decide +kernel
theorem d_M_difference_2 : decode c_M_difference 2 = .ok (.aload_n 0, 1) := by decide +kernel
theorem d_M_difference_3 : decode c_M_difference 3 = .ok (.getfield 70, 3) := by decide +kernel
theorem d_M_difference_6 : decode c_M_difference 6 = .ok (.invokestatic 59, 3) := by decide +kernel
theorem d_M_difference_9 : decode c_M_difference 9 = .ok (.ifCond .eq 15, 3) := by decide +kernel
theorem d_M_difference_12 : decode c_M_difference 12 = .ok (.iload_n 2, 1) := by decide +kernel
theorem d_M_difference_13 : decode c_M_difference 13 = .ok (.iconst 3, 1) := by decide +kernel
theorem d_M_difference_14 : decode c_M_difference 14 = .ok (.invokestatic 59, 3) := by decide +kernel
theorem d_M_difference_17 : decode c_M_difference 17 = .ok (.ifCond .eq 7, 3) := by decide +kernel
theorem d_M_difference_20 : decode c_M_difference 20 = .ok (.iconst 0, 1) := by decide +kernel
theorem d_M_difference_21 : decode c_M_difference 21 = .ok (.goto 4, 3) := by decide +kernel
theorem d_M_difference_24 : decode c_M_difference 24 = .ok (.iconst 1, 1) := by decide +kernel
theorem d_M_difference_25 : decode c_M_difference 25 = .ok (.putfield 55, 3) := by decide +kernel
theorem d_M_difference_28 : decode c_M_difference 28 = .ok (.aload_n 0, 1) := by decide +kernel
theorem d_M_difference_29 : decode c_M_difference 29 = .ok (.getfield 55, 3) := by decide +kernel
theorem d_M_difference_32 : decode c_M_difference 32 = .ok (.ifCond .le 7, 3) := by decide +kernel
theorem d_M_difference_35 : decode c_M_difference 35 = .ok (.iconst 0, 1) := by decide +kernel
theorem d_M_difference_36 : decode c_M_difference 36 = .ok (.goto 9, 3) := by decide +kernel
theorem d_M_difference_39 : decode c_M_difference 39 = .ok (.aload_n 0, 1) := by decide +kernel
theorem d_M_difference_40 : decode c_M_difference 40 = .ok (.iload_n 1, 1) := by decide +kernel
theorem d_M_difference_41 : decode c_M_difference 41 = .ok (.iload_n 2, 1) := by decide +kernel
theorem d_M_difference_42 : decode c_M_difference 42 = .ok (.invokevirtual 73, 3) := by decide +kernel
theorem d_M_difference_45 : decode c_M_difference 45 = .ok (.ireturn, 1) := by decide +kernel
theorem d_M_keptOf_0 : decode c_M_keptOf 0 = .ok (.iconst 0, 1) := by decide +kernel
theorem d_M_keptOf_1 : decode c_M_keptOf 1 = .ok (.istore_n 2, 1) := by decide +kernel
theorem d_M_keptOf_2 : decode c_M_keptOf 2 = .ok (.iconst 0, 1) := by decide +kernel
theorem d_M_keptOf_3 : decode c_M_keptOf 3 = .ok (.istore_n 3, 1) := by decide +kernel
theorem d_M_keptOf_4 : decode c_M_keptOf 4 = .ok (.iload_n 3, 1) := by decide +kernel
theorem d_M_keptOf_5 : decode c_M_keptOf 5 = .ok (.aload_n 0, 1) := by decide +kernel
theorem d_M_keptOf_6 : decode c_M_keptOf 6 = .ok (.getfield 70, 3) := by decide +kernel
theorem d_M_keptOf_9 : decode c_M_keptOf 9 = .ok (.if_icmp .ge 26, 3) := by decide +kernel
theorem d_M_keptOf_12 : decode c_M_keptOf 12 = .ok (.iload_n 2, 1) := by decide +kernel
theorem d_M_keptOf_13 : decode c_M_keptOf 13 = .ok (.aload_n 0, 1) := by decide +kernel
theorem d_M_keptOf_14 : decode c_M_keptOf 14 = .ok (.iload_n 3, 1) := by decide +kernel
theorem d_M_keptOf_15 : decode c_M_keptOf 15 = .ok (.iload_n 1, 1) := by decide +kernel
theorem d_M_keptOf_16 : decode c_M_keptOf 16 = .ok (.invokevirtual 77, 3) := by decide +kernel
theorem d_M_keptOf_19 : decode c_M_keptOf 19 = .ok (.ifCond .eq 7, 3) := by decide +kernel
theorem d_M_keptOf_22 : decode c_M_keptOf 22 = .ok (.iconst 1, 1) := by decide +kernel
theorem d_M_keptOf_23 : decode c_M_keptOf 23 = .ok (.goto 4, 3) := by decide +kernel
theorem d_M_keptOf_26 : decode c_M_keptOf 26 = .ok (.iconst 0, 1) := by decide +kernel
theorem d_M_keptOf_27 : decode c_M_keptOf 27 = .ok (.iadd, 1) := by decide +kernel
theorem d_M_keptOf_28 : decode c_M_keptOf 28 = .ok (.istore_n 2, 1) := by decide +kernel
theorem d_M_keptOf_29 : decode c_M_keptOf 29 = .ok (.iinc 3 1, 3) := by decide +kernel
theorem d_M_keptOf_32 : decode c_M_keptOf 32 = .ok (.goto (-28), 3) := by decide +kernel
theorem d_M_keptOf_35 : decode c_M_keptOf 35 = .ok (.iload_n 2, 1) := by decide +kernel
theorem d_M_keptOf_36 : decode c_M_keptOf 36 = .ok (.ireturn, 1) := by decide +kernel
theorem d_M_kept_0 : decode c_M_kept 0 = .ok (.aload_n 0, 1) := by decide +kernel
theorem d_M_kept_1 : decode c_M_kept 1 = .ok (.iload_n 1, 1) := by decide +kernel
theorem d_M_kept_2 : decode c_M_kept 2 = .ok (.iconst 3, 1) := by decide +kernel
theorem d_M_kept_3 : decode c_M_kept 3 = .ok (.invokestatic 59, 3) := by decide +kernel
theorem d_M_kept_6 : decode c_M_kept 6 = .ok (.ifCond .eq 7, 3) := by decide +kernel
theorem d_M_kept_9 : decode c_M_kept 9 = .ok (.iconst 0, 1) := by decide +kernel
theorem d_M_kept_10 : decode c_M_kept 10 = .ok (.goto 4, 3) := by decide +kernel
theorem d_M_kept_13 : decode c_M_kept 13 = .ok (.iconst 1, 1) := by decide +kernel
theorem d_M_kept_14 : decode c_M_kept 14 = .ok (.putfield 55, 3) := by decide +kernel
theorem d_M_kept_17 : decode c_M_kept 17 = .ok (.aload_n 0, 1) := by decide +kernel
theorem d_M_kept_18 : decode c_M_kept 18 = .ok (.getfield 55, 3) := by decide +kernel
theorem d_M_kept_21 : decode c_M_kept 21 = .ok (.ifCond .le 7, 3) := by decide +kernel
theorem d_M_kept_24 : decode c_M_kept 24 = .ok (.iconst 0, 1) := by decide +kernel
theorem d_M_kept_25 : decode c_M_kept 25 = .ok (.goto 8, 3) := by decide +kernel
theorem d_M_kept_28 : decode c_M_kept 28 = .ok (.aload_n 0, 1) := by decide +kernel
theorem d_M_kept_29 : decode c_M_kept 29 = .ok (.iload_n 1, 1) := by decide +kernel
theorem d_M_kept_30 : decode c_M_kept 30 = .ok (.invokevirtual 80, 3) := by decide +kernel
theorem d_M_kept_33 : decode c_M_kept 33 = .ok (.ireturn, 1) := by decide +kernel
theorem d_M_sumOf_0 : decode c_M_sumOf 0 = .ok (.iconst 0, 1) := by decide +kernel
theorem d_M_sumOf_1 : decode c_M_sumOf 1 = .ok (.istore_n 2, 1) := by decide +kernel
theorem d_M_sumOf_2 : decode c_M_sumOf 2 = .ok (.iconst 0, 1) := by decide +kernel
theorem d_M_sumOf_3 : decode c_M_sumOf 3 = .ok (.istore_n 3, 1) := by decide +kernel
theorem d_M_sumOf_4 : decode c_M_sumOf 4 = .ok (.iload_n 3, 1) := by decide +kernel
theorem d_M_sumOf_5 : decode c_M_sumOf 5 = .ok (.aload_n 0, 1) := by decide +kernel
theorem d_M_sumOf_6 : decode c_M_sumOf 6 = .ok (.getfield 70, 3) := by decide +kernel
theorem d_M_sumOf_9 : decode c_M_sumOf 9 = .ok (.if_icmp .ge 31, 3) := by decide +kernel
theorem d_M_sumOf_12 : decode c_M_sumOf 12 = .ok (.iload_n 2, 1) := by decide +kernel
theorem d_M_sumOf_13 : decode c_M_sumOf 13 = .ok (.aload_n 0, 1) := by decide +kernel
theorem d_M_sumOf_14 : decode c_M_sumOf 14 = .ok (.iload_n 3, 1) := by decide +kernel
theorem d_M_sumOf_15 : decode c_M_sumOf 15 = .ok (.iload_n 1, 1) := by decide +kernel
theorem d_M_sumOf_16 : decode c_M_sumOf 16 = .ok (.invokevirtual 77, 3) := by decide +kernel
theorem d_M_sumOf_19 : decode c_M_sumOf 19 = .ok (.ifCond .eq 12, 3) := by decide +kernel
theorem d_M_sumOf_22 : decode c_M_sumOf 22 = .ok (.aload_n 0, 1) := by decide +kernel
theorem d_M_sumOf_23 : decode c_M_sumOf 23 = .ok (.iload_n 3, 1) := by decide +kernel
theorem d_M_sumOf_24 : decode c_M_sumOf 24 = .ok (.iload_n 1, 1) := by decide +kernel
theorem d_M_sumOf_25 : decode c_M_sumOf 25 = .ok (.invokevirtual 73, 3) := by decide +kernel
theorem d_M_sumOf_28 : decode c_M_sumOf 28 = .ok (.goto 4, 3) := by decide +kernel
theorem d_M_sumOf_31 : decode c_M_sumOf 31 = .ok (.iconst 0, 1) := by decide +kernel
theorem d_M_sumOf_32 : decode c_M_sumOf 32 = .ok (.iadd, 1) := by decide +kernel
theorem d_M_sumOf_33 : decode c_M_sumOf 33 = .ok (.istore_n 2, 1) := by decide +kernel
theorem d_M_sumOf_34 : decode c_M_sumOf 34 = .ok (.iinc 3 1, 3) := by decide +kernel
theorem d_M_sumOf_37 : decode c_M_sumOf 37 = .ok (.goto (-33), 3) := by decide +kernel
theorem d_M_sumOf_40 : decode c_M_sumOf 40 = .ok (.iload_n 2, 1) := by decide +kernel
theorem d_M_sumOf_41 : decode c_M_sumOf 41 = .ok (.ireturn, 1) := by decide +kernel
theorem d_M_sum_0 : decode c_M_sum 0 = .ok (.aload_n 0, 1) := by decide +kernel
theorem d_M_sum_1 : decode c_M_sum 1 = .ok (.iload_n 1, 1) := by decide +kernel
theorem d_M_sum_2 : decode c_M_sum 2 = .ok (.iconst 3, 1) := by decide +kernel
theorem d_M_sum_3 : decode c_M_sum 3 = .ok (.invokestatic 59, 3) := by decide +kernel
theorem d_M_sum_6 : decode c_M_sum 6 = .ok (.ifCond .eq 7, 3) := by decide +kernel
theorem d_M_sum_9 : decode c_M_sum 9 = .ok (.iconst 0, 1) := by decide +kernel
theorem d_M_sum_10 : decode c_M_sum 10 = .ok (.goto 4, 3) := by decide +kernel
theorem d_M_sum_13 : decode c_M_sum 13 = .ok (.iconst 1, 1) := by decide +kernel
theorem d_M_sum_14 : decode c_M_sum 14 = .ok (.putfield 55, 3) := by decide +kernel
theorem d_M_sum_17 : decode c_M_sum 17 = .ok (.aload_n 0, 1) := by decide +kernel
theorem d_M_sum_18 : decode c_M_sum 18 = .ok (.getfield 55, 3) := by decide +kernel
theorem d_M_sum_21 : decode c_M_sum 21 = .ok (.ifCond .le 7, 3) := by decide +kernel
theorem d_M_sum_24 : decode c_M_sum 24 = .ok (.iconst 0, 1) := by decide +kernel
theorem d_M_sum_25 : decode c_M_sum 25 = .ok (.goto 8, 3) := by decide +kernel
theorem d_M_sum_28 : decode c_M_sum 28 = .ok (.aload_n 0, 1) := by decide +kernel
theorem d_M_sum_29 : decode c_M_sum 29 = .ok (.iload_n 1, 1) := by decide +kernel
theorem d_M_sum_30 : decode c_M_sum 30 = .ok (.invokevirtual 84, 3) := by decide +kernel
theorem d_M_sum_33 : decode c_M_sum 33 = .ok (.ireturn, 1) := by decide +kernel
theorem d_M_part_0 : decode c_M_part 0 = .ok (.lload_n 0, 1) := by decide +kernel
theorem d_M_part_1 : decode c_M_part 1 = .ok (.lconst 0, 1) := by decide +kernel
theorem d_M_part_2 : decode c_M_part 2 = .ok (.lcmp, 1) := by decide +kernel
theorem d_M_part_3 : decode c_M_part 3 = .ok (.ifCond .ge 8, 3) := by decide +kernel
theorem d_M_part_6 : decode c_M_part 6 = .ok (.lload_n 0, 1) := by decide +kernel
theorem d_M_part_7 : decode c_M_part 7 = .ok (.lneg, 1) := by decide +kernel
theorem d_M_part_8 : decode c_M_part 8 = .ok (.goto 4, 3) := by decide +kernel
theorem d_M_part_11 : decode c_M_part 11 = .ok (.lload_n 0, 1) := by decide +kernel
theorem d_M_part_12 : decode c_M_part 12 = .ok (.lstore 5, 2) := by decide +kernel
theorem d_M_part_14 : decode c_M_part 14 = .ok (.lload_n 2, 1) := by decide +kernel
theorem d_M_part_15 : decode c_M_part 15 = .ok (.lstore 7, 2) := by decide +kernel
theorem d_M_part_17 : decode c_M_part 17 = .ok (.lload 7, 2) := by decide +kernel
theorem d_M_part_19 : decode c_M_part 19 = .ok (.lconst 0, 1) := by decide +kernel
theorem d_M_part_20 : decode c_M_part 20 = .ok (.lcmp, 1) := by decide +kernel
theorem d_M_part_21 : decode c_M_part 21 = .ok (.ifCond .eq 21, 3) := by decide +kernel
theorem d_M_part_24 : decode c_M_part 24 = .ok (.lload 5, 2) := by decide +kernel
theorem d_M_part_26 : decode c_M_part 26 = .ok (.lload 7, 2) := by decide +kernel
theorem d_M_part_28 : decode c_M_part 28 = .ok (.lrem, 1) := by decide +kernel
theorem d_M_part_29 : decode c_M_part 29 = .ok (.lstore 9, 2) := by decide +kernel
theorem d_M_part_31 : decode c_M_part 31 = .ok (.lload 7, 2) := by decide +kernel
theorem d_M_part_33 : decode c_M_part 33 = .ok (.lstore 5, 2) := by decide +kernel
theorem d_M_part_35 : decode c_M_part 35 = .ok (.lload 9, 2) := by decide +kernel
theorem d_M_part_37 : decode c_M_part 37 = .ok (.lstore 7, 2) := by decide +kernel
theorem d_M_part_39 : decode c_M_part 39 = .ok (.goto (-22), 3) := by decide +kernel
theorem d_M_part_42 : decode c_M_part 42 = .ok (.iload 4, 2) := by decide +kernel
theorem d_M_part_44 : decode c_M_part 44 = .ok (.ifCond .ne 10, 3) := by decide +kernel
theorem d_M_part_47 : decode c_M_part 47 = .ok (.lload_n 0, 1) := by decide +kernel
theorem d_M_part_48 : decode c_M_part 48 = .ok (.lload 5, 2) := by decide +kernel
theorem d_M_part_50 : decode c_M_part 50 = .ok (.ldiv, 1) := by decide +kernel
theorem d_M_part_51 : decode c_M_part 51 = .ok (.goto 7, 3) := by decide +kernel
theorem d_M_part_54 : decode c_M_part 54 = .ok (.lload_n 2, 1) := by decide +kernel
theorem d_M_part_55 : decode c_M_part 55 = .ok (.lload 5, 2) := by decide +kernel
theorem d_M_part_57 : decode c_M_part 57 = .ok (.ldiv, 1) := by decide +kernel
theorem d_M_part_58 : decode c_M_part 58 = .ok (.lreturn, 1) := by decide +kernel
theorem d_M_odds_0 : decode c_M_odds 0 = .ok (.aload_n 0, 1) := by decide +kernel
theorem d_M_odds_1 : decode c_M_odds 1 = .ok (.iload_n 1, 1) := by decide +kernel
theorem d_M_odds_2 : decode c_M_odds 2 = .ok (.iconst 3, 1) := by decide +kernel
theorem d_M_odds_3 : decode c_M_odds 3 = .ok (.invokestatic 59, 3) := by decide +kernel
theorem d_M_odds_6 : decode c_M_odds 6 = .ok (.ifCond .eq 15, 3) := by decide +kernel
theorem d_M_odds_9 : decode c_M_odds 9 = .ok (.iload_n 2, 1) := by decide +kernel
theorem d_M_odds_10 : decode c_M_odds 10 = .ok (.iconst 2, 1) := by decide +kernel
theorem d_M_odds_11 : decode c_M_odds 11 = .ok (.invokestatic 59, 3) := by decide +kernel
theorem d_M_odds_14 : decode c_M_odds 14 = .ok (.ifCond .eq 7, 3) := by decide +kernel
theorem d_M_odds_17 : decode c_M_odds 17 = .ok (.iconst 0, 1) := by decide +kernel
theorem d_M_odds_18 : decode c_M_odds 18 = .ok (.goto 4, 3) := by decide +kernel
theorem d_M_odds_21 : decode c_M_odds 21 = .ok (.iconst 1, 1) := by decide +kernel
theorem d_M_odds_22 : decode c_M_odds 22 = .ok (.putfield 55, 3) := by decide +kernel
theorem d_M_odds_25 : decode c_M_odds 25 = .ok (.aload_n 0, 1) := by decide +kernel
theorem d_M_odds_26 : decode c_M_odds 26 = .ok (.getfield 55, 3) := by decide +kernel
theorem d_M_odds_29 : decode c_M_odds 29 = .ok (.ifCond .le 5, 3) := by decide +kernel
theorem d_M_odds_32 : decode c_M_odds 32 = .ok (.lconst 0, 1) := by decide +kernel
theorem d_M_odds_33 : decode c_M_odds 33 = .ok (.lreturn, 1) := by decide +kernel
theorem d_M_odds_34 : decode c_M_odds 34 = .ok (.iconst 0, 1) := by decide +kernel
theorem d_M_odds_35 : decode c_M_odds 35 = .ok (.istore_n 3, 1) := by decide +kernel
theorem d_M_odds_36 : decode c_M_odds 36 = .ok (.iconst 0, 1) := by decide +kernel
theorem d_M_odds_37 : decode c_M_odds 37 = .ok (.istore 4, 2) := by decide +kernel
theorem d_M_odds_39 : decode c_M_odds 39 = .ok (.iload 4, 2) := by decide +kernel
theorem d_M_odds_41 : decode c_M_odds 41 = .ok (.aload_n 0, 1) := by decide +kernel
theorem d_M_odds_42 : decode c_M_odds 42 = .ok (.getfield 70, 3) := by decide +kernel
theorem d_M_odds_45 : decode c_M_odds 45 = .ok (.if_icmp .ge 35, 3) := by decide +kernel
theorem d_M_odds_48 : decode c_M_odds 48 = .ok (.aload_n 0, 1) := by decide +kernel
theorem d_M_odds_49 : decode c_M_odds 49 = .ok (.iload 4, 2) := by decide +kernel
theorem d_M_odds_51 : decode c_M_odds 51 = .ok (.iload_n 1, 1) := by decide +kernel
theorem d_M_odds_52 : decode c_M_odds 52 = .ok (.invokevirtual 77, 3) := by decide +kernel
theorem d_M_odds_55 : decode c_M_odds 55 = .ok (.ifCond .eq 19, 3) := by decide +kernel
theorem d_M_odds_58 : decode c_M_odds 58 = .ok (.aload_n 0, 1) := by decide +kernel
theorem d_M_odds_59 : decode c_M_odds 59 = .ok (.getfield 41, 3) := by decide +kernel
theorem d_M_odds_62 : decode c_M_odds 62 = .ok (.iload_n 3, 1) := by decide +kernel
theorem d_M_odds_63 : decode c_M_odds 63 = .ok (.aload_n 0, 1) := by decide +kernel
theorem d_M_odds_64 : decode c_M_odds 64 = .ok (.iload 4, 2) := by decide +kernel
theorem d_M_odds_66 : decode c_M_odds 66 = .ok (.iload_n 1, 1) := by decide +kernel
theorem d_M_odds_67 : decode c_M_odds 67 = .ok (.invokevirtual 73, 3) := by decide +kernel
theorem d_M_odds_70 : decode c_M_odds 70 = .ok (.iastore, 1) := by decide +kernel
theorem d_M_odds_71 : decode c_M_odds 71 = .ok (.iinc 3 1, 3) := by decide +kernel
theorem d_M_odds_74 : decode c_M_odds 74 = .ok (.iinc 4 1, 3) := by decide +kernel
theorem d_M_odds_77 : decode c_M_odds 77 = .ok (.goto (-38), 3) := by decide +kernel
theorem d_M_odds_80 : decode c_M_odds 80 = .ok (.aload_n 0, 1) := by decide +kernel
theorem d_M_odds_81 : decode c_M_odds 81 = .ok (.iload_n 1, 1) := by decide +kernel
theorem d_M_odds_82 : decode c_M_odds 82 = .ok (.invokevirtual 84, 3) := by decide +kernel
theorem d_M_odds_85 : decode c_M_odds 85 = .ok (.istore 4, 2) := by decide +kernel
theorem d_M_odds_87 : decode c_M_odds 87 = .ok (.lconst 0, 1) := by decide +kernel
theorem d_M_odds_88 : decode c_M_odds 88 = .ok (.lstore 5, 2) := by decide +kernel
theorem d_M_odds_90 : decode c_M_odds 90 = .ok (.iconst 0, 1) := by decide +kernel
theorem d_M_odds_91 : decode c_M_odds 91 = .ok (.istore 7, 2) := by decide +kernel
theorem d_M_odds_93 : decode c_M_odds 93 = .ok (.iload 7, 2) := by decide +kernel
theorem d_M_odds_95 : decode c_M_odds 95 = .ok (.iconst 1, 1) := by decide +kernel
theorem d_M_odds_96 : decode c_M_odds 96 = .ok (.iload_n 3, 1) := by decide +kernel
theorem d_M_odds_97 : decode c_M_odds 97 = .ok (.ishl, 1) := by decide +kernel
theorem d_M_odds_98 : decode c_M_odds 98 = .ok (.if_icmp .ge 78, 3) := by decide +kernel
theorem d_M_odds_101 : decode c_M_odds 101 = .ok (.iconst 0, 1) := by decide +kernel
theorem d_M_odds_102 : decode c_M_odds 102 = .ok (.istore 8, 2) := by decide +kernel
theorem d_M_odds_104 : decode c_M_odds 104 = .ok (.iconst 0, 1) := by decide +kernel
theorem d_M_odds_105 : decode c_M_odds 105 = .ok (.istore 9, 2) := by decide +kernel
theorem d_M_odds_107 : decode c_M_odds 107 = .ok (.iload 9, 2) := by decide +kernel
theorem d_M_odds_109 : decode c_M_odds 109 = .ok (.iload_n 3, 1) := by decide +kernel
theorem d_M_odds_110 : decode c_M_odds 110 = .ok (.if_icmp .ge 43, 3) := by decide +kernel
theorem d_M_odds_113 : decode c_M_odds 113 = .ok (.iload 8, 2) := by decide +kernel
theorem d_M_odds_115 : decode c_M_odds 115 = .ok (.iload 7, 2) := by decide +kernel
theorem d_M_odds_117 : decode c_M_odds 117 = .ok (.iload 9, 2) := by decide +kernel
theorem d_M_odds_119 : decode c_M_odds 119 = .ok (.ishr, 1) := by decide +kernel
theorem d_M_odds_120 : decode c_M_odds 120 = .ok (.iconst 1, 1) := by decide +kernel
theorem d_M_odds_121 : decode c_M_odds 121 = .ok (.iand, 1) := by decide +kernel
theorem d_M_odds_122 : decode c_M_odds 122 = .ok (.iconst 1, 1) := by decide +kernel
theorem d_M_odds_123 : decode c_M_odds 123 = .ok (.if_icmp .ne 14, 3) := by decide +kernel
theorem d_M_odds_126 : decode c_M_odds 126 = .ok (.aload_n 0, 1) := by decide +kernel
theorem d_M_odds_127 : decode c_M_odds 127 = .ok (.getfield 41, 3) := by decide +kernel
theorem d_M_odds_130 : decode c_M_odds 130 = .ok (.iload 9, 2) := by decide +kernel
theorem d_M_odds_132 : decode c_M_odds 132 = .ok (.iaload, 1) := by decide +kernel
theorem d_M_odds_133 : decode c_M_odds 133 = .ok (.ineg, 1) := by decide +kernel
theorem d_M_odds_134 : decode c_M_odds 134 = .ok (.goto 10, 3) := by decide +kernel
theorem d_M_odds_137 : decode c_M_odds 137 = .ok (.aload_n 0, 1) := by decide +kernel
theorem d_M_odds_138 : decode c_M_odds 138 = .ok (.getfield 41, 3) := by decide +kernel
theorem d_M_odds_141 : decode c_M_odds 141 = .ok (.iload 9, 2) := by decide +kernel
theorem d_M_odds_143 : decode c_M_odds 143 = .ok (.iaload, 1) := by decide +kernel
theorem d_M_odds_144 : decode c_M_odds 144 = .ok (.iadd, 1) := by decide +kernel
theorem d_M_odds_145 : decode c_M_odds 145 = .ok (.istore 8, 2) := by decide +kernel
theorem d_M_odds_147 : decode c_M_odds 147 = .ok (.iinc 9 1, 3) := by decide +kernel
theorem d_M_odds_150 : decode c_M_odds 150 = .ok (.goto (-43), 3) := by decide +kernel
theorem d_M_odds_153 : decode c_M_odds 153 = .ok (.lload 5, 2) := by decide +kernel
theorem d_M_odds_155 : decode c_M_odds 155 = .ok (.iload 8, 2) := by decide +kernel
theorem d_M_odds_157 : decode c_M_odds 157 = .ok (.iload 4, 2) := by decide +kernel
theorem d_M_odds_159 : decode c_M_odds 159 = .ok (.if_icmp .gt 7, 3) := by decide +kernel
theorem d_M_odds_162 : decode c_M_odds 162 = .ok (.lconst 1, 1) := by decide +kernel
theorem d_M_odds_163 : decode c_M_odds 163 = .ok (.goto 4, 3) := by decide +kernel
theorem d_M_odds_166 : decode c_M_odds 166 = .ok (.lconst 0, 1) := by decide +kernel
theorem d_M_odds_167 : decode c_M_odds 167 = .ok (.ladd, 1) := by decide +kernel
theorem d_M_odds_168 : decode c_M_odds 168 = .ok (.lstore 5, 2) := by decide +kernel
theorem d_M_odds_170 : decode c_M_odds 170 = .ok (.iinc 7 1, 3) := by decide +kernel
theorem d_M_odds_173 : decode c_M_odds 173 = .ok (.goto (-80), 3) := by decide +kernel
theorem d_M_odds_176 : decode c_M_odds 176 = .ok (.lload 5, 2) := by decide +kernel
theorem d_M_odds_178 : decode c_M_odds 178 = .ok (.lconst 1, 1) := by decide +kernel
theorem d_M_odds_179 : decode c_M_odds 179 = .ok (.iload_n 3, 1) := by decide +kernel
theorem d_M_odds_180 : decode c_M_odds 180 = .ok (.lshl, 1) := by decide +kernel
theorem d_M_odds_181 : decode c_M_odds 181 = .ok (.iload_n 2, 1) := by decide +kernel
theorem d_M_odds_182 : decode c_M_odds 182 = .ok (.invokestatic 87, 3) := by decide +kernel
theorem d_M_odds_185 : decode c_M_odds 185 = .ok (.lreturn, 1) := by decide +kernel
theorem d_M_plain_0 : decode c_M_plain 0 = .ok (.iload_n 0, 1) := by decide +kernel
theorem d_M_plain_1 : decode c_M_plain 1 = .ok (.ifCond .ge 8, 3) := by decide +kernel
theorem d_M_plain_4 : decode c_M_plain 4 = .ok (.iload_n 0, 1) := by decide +kernel
theorem d_M_plain_5 : decode c_M_plain 5 = .ok (.ineg, 1) := by decide +kernel
theorem d_M_plain_6 : decode c_M_plain 6 = .ok (.goto 4, 3) := by decide +kernel
theorem d_M_plain_9 : decode c_M_plain 9 = .ok (.iload_n 0, 1) := by decide +kernel
theorem d_M_plain_10 : decode c_M_plain 10 = .ok (.ireturn, 1) := by decide +kernel
theorem d_M_isRanked_0 : decode c_M_isRanked 0 = .ok (.aload_n 0, 1) := by decide +kernel
theorem d_M_isRanked_1 : decode c_M_isRanked 1 = .ok (.iload_n 1, 1) := by decide +kernel
theorem d_M_isRanked_2 : decode c_M_isRanked 2 = .ok (.iload_n 2, 1) := by decide +kernel
theorem d_M_isRanked_3 : decode c_M_isRanked 3 = .ok (.invokevirtual 77, 3) := by decide +kernel
theorem d_M_isRanked_6 : decode c_M_isRanked 6 = .ok (.ifCond .eq 16, 3) := by decide +kernel
theorem d_M_isRanked_9 : decode c_M_isRanked 9 = .ok (.aload_n 0, 1) := by decide +kernel
theorem d_M_isRanked_10 : decode c_M_isRanked 10 = .ok (.iload_n 1, 1) := by decide +kernel
theorem d_M_isRanked_11 : decode c_M_isRanked 11 = .ok (.iload_n 2, 1) := by decide +kernel
theorem d_M_isRanked_12 : decode c_M_isRanked 12 = .ok (.invokevirtual 73, 3) := by decide +kernel
theorem d_M_isRanked_15 : decode c_M_isRanked 15 = .ok (.ifCond .eq 7, 3) := by decide +kernel
theorem d_M_isRanked_18 : decode c_M_isRanked 18 = .ok (.iconst 1, 1) := by decide +kernel
theorem d_M_isRanked_19 : decode c_M_isRanked 19 = .ok (.goto 4, 3) := by decide +kernel
theorem d_M_isRanked_22 : decode c_M_isRanked 22 = .ok (.iconst 0, 1) := by decide +kernel
theorem d_M_isRanked_23 : decode c_M_isRanked 23 = .ok (.ireturn, 1) := by decide +kernel
theorem d_M_rankOf_0 : decode c_M_rankOf 0 = .ok (.aload_n 0, 1) := by decide +kernel
theorem d_M_rankOf_1 : decode c_M_rankOf 1 = .ok (.iload_n 1, 1) := by decide +kernel
theorem d_M_rankOf_2 : decode c_M_rankOf 2 = .ok (.iload_n 2, 1) := by decide +kernel
theorem d_M_rankOf_3 : decode c_M_rankOf 3 = .ok (.invokevirtual 91, 3) := by decide +kernel
theorem d_M_rankOf_6 : decode c_M_rankOf 6 = .ok (.ifCond .ne 5, 3) := by decide +kernel
theorem d_M_rankOf_9 : decode c_M_rankOf 9 = .ok (.iconst 0, 1) := by decide +kernel
theorem d_M_rankOf_10 : decode c_M_rankOf 10 = .ok (.ireturn, 1) := by decide +kernel
theorem d_M_rankOf_11 : decode c_M_rankOf 11 = .ok (.iconst 1, 1) := by decide +kernel
end
section
theorem d_M_rankOf_12 : decode c_M_rankOf 12 = .ok (.istore_n 3, 1) := by decide +kernel
theorem d_M_rankOf_13 : decode c_M_rankOf 13 = .ok (.iconst 0, 1) := by decide +kernel
theorem d_M_rankOf_14 : decode c_M_rankOf 14 = .ok (.istore 4, 2) := by decide +kernel
theorem d_M_rankOf_16 : decode c_M_rankOf 16 = .ok (.iload 4, 2) := by decide +kernel
theorem d_M_rankOf_18 : decode c_M_rankOf 18 = .ok (.aload_n 0, 1) := by decide +kernel
theorem d_M_rankOf_19 : decode c_M_rankOf 19 = .ok (.getfield 70, 3) := by decide +kernel
theorem d_M_rankOf_22 : decode c_M_rankOf 22 = .ok (.if_icmp .ge 76, 3) := by decide +kernel
theorem d_M_rankOf_25 : decode c_M_rankOf 25 = .ok (.aload_n 0, 1) := by decide +kernel
theorem d_M_rankOf_26 : decode c_M_rankOf 26 = .ok (.iload 4, 2) := by decide +kernel
theorem d_M_rankOf_28 : decode c_M_rankOf 28 = .ok (.iload_n 2, 1) := by decide +kernel
theorem d_M_rankOf_29 : decode c_M_rankOf 29 = .ok (.invokevirtual 91, 3) := by decide +kernel
theorem d_M_rankOf_32 : decode c_M_rankOf 32 = .ok (.ifCond .eq 16, 3) := by decide +kernel
theorem d_M_rankOf_35 : decode c_M_rankOf 35 = .ok (.aload_n 0, 1) := by decide +kernel
theorem d_M_rankOf_36 : decode c_M_rankOf 36 = .ok (.iload 4, 2) := by decide +kernel
theorem d_M_rankOf_38 : decode c_M_rankOf 38 = .ok (.iload_n 2, 1) := by decide +kernel
theorem d_M_rankOf_39 : decode c_M_rankOf 39 = .ok (.invokevirtual 73, 3) := by decide +kernel
theorem d_M_rankOf_42 : decode c_M_rankOf 42 = .ok (.invokestatic 94, 3) := by decide +kernel
theorem d_M_rankOf_45 : decode c_M_rankOf 45 = .ok (.goto 5, 3) := by decide +kernel
theorem d_M_rankOf_48 : decode c_M_rankOf 48 = .ok (.ldc 97, 2) := by decide +kernel
theorem d_M_rankOf_50 : decode c_M_rankOf 50 = .ok (.istore 5, 2) := by decide +kernel
theorem d_M_rankOf_52 : decode c_M_rankOf 52 = .ok (.iload_n 3, 1) := by decide +kernel
theorem d_M_rankOf_53 : decode c_M_rankOf 53 = .ok (.iload 5, 2) := by decide +kernel
theorem d_M_rankOf_55 : decode c_M_rankOf 55 = .ok (.aload_n 0, 1) := by decide +kernel
theorem d_M_rankOf_56 : decode c_M_rankOf 56 = .ok (.iload_n 1, 1) := by decide +kernel
theorem d_M_rankOf_57 : decode c_M_rankOf 57 = .ok (.iload_n 2, 1) := by decide +kernel
theorem d_M_rankOf_58 : decode c_M_rankOf 58 = .ok (.invokevirtual 73, 3) := by decide +kernel
theorem d_M_rankOf_61 : decode c_M_rankOf 61 = .ok (.invokestatic 94, 3) := by decide +kernel
theorem d_M_rankOf_64 : decode c_M_rankOf 64 = .ok (.if_icmp .ge 7, 3) := by decide +kernel
theorem d_M_rankOf_67 : decode c_M_rankOf 67 = .ok (.iconst 2, 1) := by decide +kernel
theorem d_M_rankOf_68 : decode c_M_rankOf 68 = .ok (.goto 22, 3) := by decide +kernel
theorem d_M_rankOf_71 : decode c_M_rankOf 71 = .ok (.iload 5, 2) := by decide +kernel
theorem d_M_rankOf_73 : decode c_M_rankOf 73 = .ok (.aload_n 0, 1) := by decide +kernel
theorem d_M_rankOf_74 : decode c_M_rankOf 74 = .ok (.iload_n 1, 1) := by decide +kernel
theorem d_M_rankOf_75 : decode c_M_rankOf 75 = .ok (.iload_n 2, 1) := by decide +kernel
theorem d_M_rankOf_76 : decode c_M_rankOf 76 = .ok (.invokevirtual 73, 3) := by decide +kernel
theorem d_M_rankOf_79 : decode c_M_rankOf 79 = .ok (.invokestatic 94, 3) := by decide +kernel
theorem d_M_rankOf_82 : decode c_M_rankOf 82 = .ok (.if_icmp .ne 7, 3) := by decide +kernel
theorem d_M_rankOf_85 : decode c_M_rankOf 85 = .ok (.iconst 1, 1) := by decide +kernel
theorem d_M_rankOf_86 : decode c_M_rankOf 86 = .ok (.goto 4, 3) := by decide +kernel
theorem d_M_rankOf_89 : decode c_M_rankOf 89 = .ok (.iconst 0, 1) := by decide +kernel
theorem d_M_rankOf_90 : decode c_M_rankOf 90 = .ok (.iadd, 1) := by decide +kernel
theorem d_M_rankOf_91 : decode c_M_rankOf 91 = .ok (.istore_n 3, 1) := by decide +kernel
theorem d_M_rankOf_92 : decode c_M_rankOf 92 = .ok (.iinc 4 1, 3) := by decide +kernel
theorem d_M_rankOf_95 : decode c_M_rankOf 95 = .ok (.goto (-79), 3) := by decide +kernel
theorem d_M_rankOf_98 : decode c_M_rankOf 98 = .ok (.iload_n 3, 1) := by decide +kernel
theorem d_M_rankOf_99 : decode c_M_rankOf 99 = .ok (.ireturn, 1) := by decide +kernel
theorem d_M_rank_0 : decode c_M_rank 0 = .ok (.aload_n 0, 1) := by decide +kernel
theorem d_M_rank_1 : decode c_M_rank 1 = .ok (.iload_n 1, 1) := by decide +kernel
theorem d_M_rank_2 : decode c_M_rank 2 = .ok (.aload_n 0, 1) := by decide +kernel
theorem d_M_rank_3 : decode c_M_rank 3 = .ok (.getfield 70, 3) := by decide +kernel
theorem d_M_rank_6 : decode c_M_rank 6 = .ok (.invokestatic 59, 3) := by decide +kernel
theorem d_M_rank_9 : decode c_M_rank 9 = .ok (.ifCond .eq 15, 3) := by decide +kernel
theorem d_M_rank_12 : decode c_M_rank 12 = .ok (.iload_n 2, 1) := by decide +kernel
theorem d_M_rank_13 : decode c_M_rank 13 = .ok (.iconst 3, 1) := by decide +kernel
theorem d_M_rank_14 : decode c_M_rank 14 = .ok (.invokestatic 59, 3) := by decide +kernel
theorem d_M_rank_17 : decode c_M_rank 17 = .ok (.ifCond .eq 7, 3) := by decide +kernel
theorem d_M_rank_20 : decode c_M_rank 20 = .ok (.iconst 0, 1) := by decide +kernel
theorem d_M_rank_21 : decode c_M_rank 21 = .ok (.goto 4, 3) := by decide +kernel
theorem d_M_rank_24 : decode c_M_rank 24 = .ok (.iconst 1, 1) := by decide +kernel
theorem d_M_rank_25 : decode c_M_rank 25 = .ok (.putfield 55, 3) := by decide +kernel
theorem d_M_rank_28 : decode c_M_rank 28 = .ok (.aload_n 0, 1) := by decide +kernel
theorem d_M_rank_29 : decode c_M_rank 29 = .ok (.getfield 55, 3) := by decide +kernel
theorem d_M_rank_32 : decode c_M_rank 32 = .ok (.ifCond .le 7, 3) := by decide +kernel
theorem d_M_rank_35 : decode c_M_rank 35 = .ok (.iconst 0, 1) := by decide +kernel
theorem d_M_rank_36 : decode c_M_rank 36 = .ok (.goto 9, 3) := by decide +kernel
theorem d_M_rank_39 : decode c_M_rank 39 = .ok (.aload_n 0, 1) := by decide +kernel
theorem d_M_rank_40 : decode c_M_rank 40 = .ok (.iload_n 1, 1) := by decide +kernel
theorem d_M_rank_41 : decode c_M_rank 41 = .ok (.iload_n 2, 1) := by decide +kernel
theorem d_M_rank_42 : decode c_M_rank 42 = .ok (.invokevirtual 98, 3) := by decide +kernel
theorem d_M_rank_45 : decode c_M_rank 45 = .ok (.ireturn, 1) := by decide +kernel
theorem d_M_rankOdds_0 : decode c_M_rankOdds 0 = .ok (.aload_n 0, 1) := by decide +kernel
theorem d_M_rankOdds_1 : decode c_M_rankOdds 1 = .ok (.iload_n 1, 1) := by decide +kernel
theorem d_M_rankOdds_2 : decode c_M_rankOdds 2 = .ok (.iconst 3, 1) := by decide +kernel
theorem d_M_rankOdds_3 : decode c_M_rankOdds 3 = .ok (.invokestatic 59, 3) := by decide +kernel
theorem d_M_rankOdds_6 : decode c_M_rankOdds 6 = .ok (.ifCond .eq 15, 3) := by decide +kernel
theorem d_M_rankOdds_9 : decode c_M_rankOdds 9 = .ok (.iload_n 2, 1) := by decide +kernel
theorem d_M_rankOdds_10 : decode c_M_rankOdds 10 = .ok (.iconst 2, 1) := by decide +kernel
theorem d_M_rankOdds_11 : decode c_M_rankOdds 11 = .ok (.invokestatic 59, 3) := by decide +kernel
theorem d_M_rankOdds_14 : decode c_M_rankOdds 14 = .ok (.ifCond .eq 7, 3) := by decide +kernel
theorem d_M_rankOdds_17 : decode c_M_rankOdds 17 = .ok (.iconst 0, 1) := by decide +kernel
theorem d_M_rankOdds_18 : decode c_M_rankOdds 18 = .ok (.goto 4, 3) := by decide +kernel
theorem d_M_rankOdds_21 : decode c_M_rankOdds 21 = .ok (.iconst 1, 1) := by decide +kernel
theorem d_M_rankOdds_22 : decode c_M_rankOdds 22 = .ok (.putfield 55, 3) := by decide +kernel
theorem d_M_rankOdds_25 : decode c_M_rankOdds 25 = .ok (.aload_n 0, 1) := by decide +kernel
theorem d_M_rankOdds_26 : decode c_M_rankOdds 26 = .ok (.getfield 55, 3) := by decide +kernel
theorem d_M_rankOdds_29 : decode c_M_rankOdds 29 = .ok (.ifCond .le 5, 3) := by decide +kernel
theorem d_M_rankOdds_32 : decode c_M_rankOdds 32 = .ok (.lconst 0, 1) := by decide +kernel
theorem d_M_rankOdds_33 : decode c_M_rankOdds 33 = .ok (.lreturn, 1) := by decide +kernel
theorem d_M_rankOdds_34 : decode c_M_rankOdds 34 = .ok (.iconst 0, 1) := by decide +kernel
theorem d_M_rankOdds_35 : decode c_M_rankOdds 35 = .ok (.istore_n 3, 1) := by decide +kernel
theorem d_M_rankOdds_36 : decode c_M_rankOdds 36 = .ok (.iconst 0, 1) := by decide +kernel
theorem d_M_rankOdds_37 : decode c_M_rankOdds 37 = .ok (.istore 4, 2) := by decide +kernel
theorem d_M_rankOdds_39 : decode c_M_rankOdds 39 = .ok (.iconst 0, 1) := by decide +kernel
theorem d_M_rankOdds_40 : decode c_M_rankOdds 40 = .ok (.istore 5, 2) := by decide +kernel
theorem d_M_rankOdds_42 : decode c_M_rankOdds 42 = .ok (.iload 5, 2) := by decide +kernel
theorem d_M_rankOdds_44 : decode c_M_rankOdds 44 = .ok (.aload_n 0, 1) := by decide +kernel
theorem d_M_rankOdds_45 : decode c_M_rankOdds 45 = .ok (.getfield 70, 3) := by decide +kernel
theorem d_M_rankOdds_48 : decode c_M_rankOdds 48 = .ok (.if_icmp .ge 60, 3) := by decide +kernel
theorem d_M_rankOdds_51 : decode c_M_rankOdds 51 = .ok (.aload_n 0, 1) := by decide +kernel
theorem d_M_rankOdds_52 : decode c_M_rankOdds 52 = .ok (.iload 5, 2) := by decide +kernel
theorem d_M_rankOdds_54 : decode c_M_rankOdds 54 = .ok (.iload_n 1, 1) := by decide +kernel
theorem d_M_rankOdds_55 : decode c_M_rankOdds 55 = .ok (.invokevirtual 91, 3) := by decide +kernel
theorem d_M_rankOdds_58 : decode c_M_rankOdds 58 = .ok (.ifCond .eq 44, 3) := by decide +kernel
theorem d_M_rankOdds_61 : decode c_M_rankOdds 61 = .ok (.aload_n 0, 1) := by decide +kernel
theorem d_M_rankOdds_62 : decode c_M_rankOdds 62 = .ok (.getfield 41, 3) := by decide +kernel
theorem d_M_rankOdds_65 : decode c_M_rankOdds 65 = .ok (.iload_n 3, 1) := by decide +kernel
theorem d_M_rankOdds_66 : decode c_M_rankOdds 66 = .ok (.aload_n 0, 1) := by decide +kernel
theorem d_M_rankOdds_67 : decode c_M_rankOdds 67 = .ok (.iload 5, 2) := by decide +kernel
theorem d_M_rankOdds_69 : decode c_M_rankOdds 69 = .ok (.iload_n 1, 1) := by decide +kernel
theorem d_M_rankOdds_70 : decode c_M_rankOdds 70 = .ok (.invokevirtual 98, 3) := by decide +kernel
theorem d_M_rankOdds_73 : decode c_M_rankOdds 73 = .ok (.iastore, 1) := by decide +kernel
theorem d_M_rankOdds_74 : decode c_M_rankOdds 74 = .ok (.iload 4, 2) := by decide +kernel
theorem d_M_rankOdds_76 : decode c_M_rankOdds 76 = .ok (.aload_n 0, 1) := by decide +kernel
theorem d_M_rankOdds_77 : decode c_M_rankOdds 77 = .ok (.iload 5, 2) := by decide +kernel
theorem d_M_rankOdds_79 : decode c_M_rankOdds 79 = .ok (.iload_n 1, 1) := by decide +kernel
theorem d_M_rankOdds_80 : decode c_M_rankOdds 80 = .ok (.invokevirtual 73, 3) := by decide +kernel
theorem d_M_rankOdds_83 : decode c_M_rankOdds 83 = .ok (.ifCond .le 12, 3) := by decide +kernel
theorem d_M_rankOdds_86 : decode c_M_rankOdds 86 = .ok (.aload_n 0, 1) := by decide +kernel
theorem d_M_rankOdds_87 : decode c_M_rankOdds 87 = .ok (.getfield 41, 3) := by decide +kernel
theorem d_M_rankOdds_90 : decode c_M_rankOdds 90 = .ok (.iload_n 3, 1) := by decide +kernel
theorem d_M_rankOdds_91 : decode c_M_rankOdds 91 = .ok (.iaload, 1) := by decide +kernel
theorem d_M_rankOdds_92 : decode c_M_rankOdds 92 = .ok (.goto 4, 3) := by decide +kernel
theorem d_M_rankOdds_95 : decode c_M_rankOdds 95 = .ok (.iconst 0, 1) := by decide +kernel
theorem d_M_rankOdds_96 : decode c_M_rankOdds 96 = .ok (.iadd, 1) := by decide +kernel
theorem d_M_rankOdds_97 : decode c_M_rankOdds 97 = .ok (.istore 4, 2) := by decide +kernel
theorem d_M_rankOdds_99 : decode c_M_rankOdds 99 = .ok (.iinc 3 1, 3) := by decide +kernel
theorem d_M_rankOdds_102 : decode c_M_rankOdds 102 = .ok (.iinc 5 1, 3) := by decide +kernel
theorem d_M_rankOdds_105 : decode c_M_rankOdds 105 = .ok (.goto (-63), 3) := by decide +kernel
theorem d_M_rankOdds_108 : decode c_M_rankOdds 108 = .ok (.lconst 0, 1) := by decide +kernel
theorem d_M_rankOdds_109 : decode c_M_rankOdds 109 = .ok (.lstore 5, 2) := by decide +kernel
theorem d_M_rankOdds_111 : decode c_M_rankOdds 111 = .ok (.iconst 0, 1) := by decide +kernel
theorem d_M_rankOdds_112 : decode c_M_rankOdds 112 = .ok (.istore 7, 2) := by decide +kernel
theorem d_M_rankOdds_114 : decode c_M_rankOdds 114 = .ok (.iload 7, 2) := by decide +kernel
theorem d_M_rankOdds_116 : decode c_M_rankOdds 116 = .ok (.iconst 1, 1) := by decide +kernel
theorem d_M_rankOdds_117 : decode c_M_rankOdds 117 = .ok (.iload_n 3, 1) := by decide +kernel
theorem d_M_rankOdds_118 : decode c_M_rankOdds 118 = .ok (.ishl, 1) := by decide +kernel
theorem d_M_rankOdds_119 : decode c_M_rankOdds 119 = .ok (.if_icmp .ge 71, 3) := by decide +kernel
theorem d_M_rankOdds_122 : decode c_M_rankOdds 122 = .ok (.iconst 0, 1) := by decide +kernel
theorem d_M_rankOdds_123 : decode c_M_rankOdds 123 = .ok (.istore 8, 2) := by decide +kernel
theorem d_M_rankOdds_125 : decode c_M_rankOdds 125 = .ok (.iconst 0, 1) := by decide +kernel
theorem d_M_rankOdds_126 : decode c_M_rankOdds 126 = .ok (.istore 9, 2) := by decide +kernel
theorem d_M_rankOdds_128 : decode c_M_rankOdds 128 = .ok (.iload 9, 2) := by decide +kernel
theorem d_M_rankOdds_130 : decode c_M_rankOdds 130 = .ok (.iload_n 3, 1) := by decide +kernel
theorem d_M_rankOdds_131 : decode c_M_rankOdds 131 = .ok (.if_icmp .ge 36, 3) := by decide +kernel
theorem d_M_rankOdds_134 : decode c_M_rankOdds 134 = .ok (.iload 8, 2) := by decide +kernel
theorem d_M_rankOdds_136 : decode c_M_rankOdds 136 = .ok (.iload 7, 2) := by decide +kernel
theorem d_M_rankOdds_138 : decode c_M_rankOdds 138 = .ok (.iload 9, 2) := by decide +kernel
theorem d_M_rankOdds_140 : decode c_M_rankOdds 140 = .ok (.ishr, 1) := by decide +kernel
theorem d_M_rankOdds_141 : decode c_M_rankOdds 141 = .ok (.iconst 1, 1) := by decide +kernel
theorem d_M_rankOdds_142 : decode c_M_rankOdds 142 = .ok (.iand, 1) := by decide +kernel
theorem d_M_rankOdds_143 : decode c_M_rankOdds 143 = .ok (.iconst 1, 1) := by decide +kernel
theorem d_M_rankOdds_144 : decode c_M_rankOdds 144 = .ok (.if_icmp .ne 13, 3) := by decide +kernel
theorem d_M_rankOdds_147 : decode c_M_rankOdds 147 = .ok (.aload_n 0, 1) := by decide +kernel
theorem d_M_rankOdds_148 : decode c_M_rankOdds 148 = .ok (.getfield 41, 3) := by decide +kernel
theorem d_M_rankOdds_151 : decode c_M_rankOdds 151 = .ok (.iload 9, 2) := by decide +kernel
theorem d_M_rankOdds_153 : decode c_M_rankOdds 153 = .ok (.iaload, 1) := by decide +kernel
theorem d_M_rankOdds_154 : decode c_M_rankOdds 154 = .ok (.goto 4, 3) := by decide +kernel
theorem d_M_rankOdds_157 : decode c_M_rankOdds 157 = .ok (.iconst 0, 1) := by decide +kernel
theorem d_M_rankOdds_158 : decode c_M_rankOdds 158 = .ok (.iadd, 1) := by decide +kernel
theorem d_M_rankOdds_159 : decode c_M_rankOdds 159 = .ok (.istore 8, 2) := by decide +kernel
theorem d_M_rankOdds_161 : decode c_M_rankOdds 161 = .ok (.iinc 9 1, 3) := by decide +kernel
theorem d_M_rankOdds_164 : decode c_M_rankOdds 164 = .ok (.goto (-36), 3) := by decide +kernel
theorem d_M_rankOdds_167 : decode c_M_rankOdds 167 = .ok (.lload 5, 2) := by decide +kernel
theorem d_M_rankOdds_169 : decode c_M_rankOdds 169 = .ok (.iload 8, 2) := by decide +kernel
theorem d_M_rankOdds_171 : decode c_M_rankOdds 171 = .ok (.iload 4, 2) := by decide +kernel
theorem d_M_rankOdds_173 : decode c_M_rankOdds 173 = .ok (.if_icmp .gt 7, 3) := by decide +kernel
theorem d_M_rankOdds_176 : decode c_M_rankOdds 176 = .ok (.lconst 1, 1) := by decide +kernel
theorem d_M_rankOdds_177 : decode c_M_rankOdds 177 = .ok (.goto 4, 3) := by decide +kernel
theorem d_M_rankOdds_180 : decode c_M_rankOdds 180 = .ok (.lconst 0, 1) := by decide +kernel
theorem d_M_rankOdds_181 : decode c_M_rankOdds 181 = .ok (.ladd, 1) := by decide +kernel
theorem d_M_rankOdds_182 : decode c_M_rankOdds 182 = .ok (.lstore 5, 2) := by decide +kernel
theorem d_M_rankOdds_184 : decode c_M_rankOdds 184 = .ok (.iinc 7 1, 3) := by decide +kernel
theorem d_M_rankOdds_187 : decode c_M_rankOdds 187 = .ok (.goto (-73), 3) := by decide +kernel
theorem d_M_rankOdds_190 : decode c_M_rankOdds 190 = .ok (.lload 5, 2) := by decide +kernel
theorem d_M_rankOdds_192 : decode c_M_rankOdds 192 = .ok (.lconst 1, 1) := by decide +kernel
theorem d_M_rankOdds_193 : decode c_M_rankOdds 193 = .ok (.iload_n 3, 1) := by decide +kernel
theorem d_M_rankOdds_194 : decode c_M_rankOdds 194 = .ok (.lshl, 1) := by decide +kernel
theorem d_M_rankOdds_195 : decode c_M_rankOdds 195 = .ok (.iload_n 2, 1) := by decide +kernel
theorem d_M_rankOdds_196 : decode c_M_rankOdds 196 = .ok (.invokestatic 87, 3) := by decide +kernel
theorem d_M_rankOdds_199 : decode c_M_rankOdds 199 = .ok (.lreturn, 1) := by decide +kernel
theorem d_M_isBound_0 : decode c_M_isBound 0 = .ok (.iload_n 0, 1) := by decide +kernel
theorem d_M_isBound_1 : decode c_M_isBound 1 = .ok (.iconst 1, 1) := by decide +kernel
theorem d_M_isBound_2 : decode c_M_isBound 2 = .ok (.if_icmp .lt 13, 3) := by decide +kernel
theorem d_M_isBound_5 : decode c_M_isBound 5 = .ok (.iload_n 0, 1) := by decide +kernel
theorem d_M_isBound_6 : decode c_M_isBound 6 = .ok (.bipush 16, 2) := by decide +kernel
theorem d_M_isBound_8 : decode c_M_isBound 8 = .ok (.if_icmp .gt 7, 3) := by decide +kernel
theorem d_M_isBound_11 : decode c_M_isBound 11 = .ok (.iconst 1, 1) := by decide +kernel
theorem d_M_isBound_12 : decode c_M_isBound 12 = .ok (.goto 4, 3) := by decide +kernel
theorem d_M_isBound_15 : decode c_M_isBound 15 = .ok (.iconst 0, 1) := by decide +kernel
theorem d_M_isBound_16 : decode c_M_isBound 16 = .ok (.ireturn, 1) := by decide +kernel
theorem d_M_stopped_0 : decode c_M_stopped 0 = .ok (.aload_n 0, 1) := by decide +kernel
theorem d_M_stopped_1 : decode c_M_stopped 1 = .ok (.iload_n 1, 1) := by decide +kernel
theorem d_M_stopped_2 : decode c_M_stopped 2 = .ok (.iconst 3, 1) := by decide +kernel
theorem d_M_stopped_3 : decode c_M_stopped 3 = .ok (.invokestatic 59, 3) := by decide +kernel
theorem d_M_stopped_6 : decode c_M_stopped 6 = .ok (.ifCond .ne 7, 3) := by decide +kernel
theorem d_M_stopped_9 : decode c_M_stopped 9 = .ok (.iconst 1, 1) := by decide +kernel
theorem d_M_stopped_10 : decode c_M_stopped 10 = .ok (.goto 22, 3) := by decide +kernel
theorem d_M_stopped_13 : decode c_M_stopped 13 = .ok (.iload_n 2, 1) := by decide +kernel
theorem d_M_stopped_14 : decode c_M_stopped 14 = .ok (.invokestatic 101, 3) := by decide +kernel
theorem d_M_stopped_17 : decode c_M_stopped 17 = .ok (.ifCond .eq 10, 3) := by decide +kernel
theorem d_M_stopped_20 : decode c_M_stopped 20 = .ok (.iload_n 3, 1) := by decide +kernel
theorem d_M_stopped_21 : decode c_M_stopped 21 = .ok (.invokestatic 101, 3) := by decide +kernel
theorem d_M_stopped_24 : decode c_M_stopped 24 = .ok (.ifCond .ne 7, 3) := by decide +kernel
theorem d_M_stopped_27 : decode c_M_stopped 27 = .ok (.iconst 2, 1) := by decide +kernel
theorem d_M_stopped_28 : decode c_M_stopped 28 = .ok (.goto 4, 3) := by decide +kernel
theorem d_M_stopped_31 : decode c_M_stopped 31 = .ok (.iconst 0, 1) := by decide +kernel
theorem d_M_stopped_32 : decode c_M_stopped 32 = .ok (.putfield 55, 3) := by decide +kernel
theorem d_M_stopped_35 : decode c_M_stopped 35 = .ok (.iconst 0, 1) := by decide +kernel
theorem d_M_stopped_36 : decode c_M_stopped 36 = .ok (.istore 4, 2) := by decide +kernel
theorem d_M_stopped_38 : decode c_M_stopped 38 = .ok (.iconst 0, 1) := by decide +kernel
theorem d_M_stopped_39 : decode c_M_stopped 39 = .ok (.istore 5, 2) := by decide +kernel
theorem d_M_stopped_41 : decode c_M_stopped 41 = .ok (.iload 5, 2) := by decide +kernel
theorem d_M_stopped_43 : decode c_M_stopped 43 = .ok (.aload_n 0, 1) := by decide +kernel
theorem d_M_stopped_44 : decode c_M_stopped 44 = .ok (.getfield 70, 3) := by decide +kernel
theorem d_M_stopped_47 : decode c_M_stopped 47 = .ok (.if_icmp .ge 87, 3) := by decide +kernel
theorem d_M_stopped_50 : decode c_M_stopped 50 = .ok (.aload_n 0, 1) := by decide +kernel
theorem d_M_stopped_51 : decode c_M_stopped 51 = .ok (.getfield 55, 3) := by decide +kernel
theorem d_M_stopped_54 : decode c_M_stopped 54 = .ok (.ifCond .ne 80, 3) := by decide +kernel
theorem d_M_stopped_57 : decode c_M_stopped 57 = .ok (.aload_n 0, 1) := by decide +kernel
theorem d_M_stopped_58 : decode c_M_stopped 58 = .ok (.iload 5, 2) := by decide +kernel
theorem d_M_stopped_60 : decode c_M_stopped 60 = .ok (.iload_n 1, 1) := by decide +kernel
theorem d_M_stopped_61 : decode c_M_stopped 61 = .ok (.invokevirtual 77, 3) := by decide +kernel
theorem d_M_stopped_64 : decode c_M_stopped 64 = .ok (.ifCond .ne 6, 3) := by decide +kernel
theorem d_M_stopped_67 : decode c_M_stopped 67 = .ok (.goto 61, 3) := by decide +kernel
theorem d_M_stopped_70 : decode c_M_stopped 70 = .ok (.aload_n 0, 1) := by decide +kernel
theorem d_M_stopped_71 : decode c_M_stopped 71 = .ok (.iload 5, 2) := by decide +kernel
theorem d_M_stopped_73 : decode c_M_stopped 73 = .ok (.iload_n 1, 1) := by decide +kernel
theorem d_M_stopped_74 : decode c_M_stopped 74 = .ok (.invokevirtual 73, 3) := by decide +kernel
theorem d_M_stopped_77 : decode c_M_stopped 77 = .ok (.istore 6, 2) := by decide +kernel
theorem d_M_stopped_79 : decode c_M_stopped 79 = .ok (.iload 4, 2) := by decide +kernel
theorem d_M_stopped_81 : decode c_M_stopped 81 = .ok (.iload 6, 2) := by decide +kernel
theorem d_M_stopped_83 : decode c_M_stopped 83 = .ok (.ifCond .ge 7, 3) := by decide +kernel
theorem d_M_stopped_86 : decode c_M_stopped 86 = .ok (.iconst 1, 1) := by decide +kernel
theorem d_M_stopped_87 : decode c_M_stopped 87 = .ok (.goto 13, 3) := by decide +kernel
theorem d_M_stopped_90 : decode c_M_stopped 90 = .ok (.iload 6, 2) := by decide +kernel
theorem d_M_stopped_92 : decode c_M_stopped 92 = .ok (.ifCond .le 7, 3) := by decide +kernel
theorem d_M_stopped_95 : decode c_M_stopped 95 = .ok (.iconst (-1), 1) := by decide +kernel
theorem d_M_stopped_96 : decode c_M_stopped 96 = .ok (.goto 4, 3) := by decide +kernel
theorem d_M_stopped_99 : decode c_M_stopped 99 = .ok (.iconst 0, 1) := by decide +kernel
theorem d_M_stopped_100 : decode c_M_stopped 100 = .ok (.iadd, 1) := by decide +kernel
theorem d_M_stopped_101 : decode c_M_stopped 101 = .ok (.istore 4, 2) := by decide +kernel
theorem d_M_stopped_103 : decode c_M_stopped 103 = .ok (.iload 4, 2) := by decide +kernel
theorem d_M_stopped_105 : decode c_M_stopped 105 = .ok (.iload_n 2, 1) := by decide +kernel
theorem d_M_stopped_106 : decode c_M_stopped 106 = .ok (.if_icmp .ne 8, 3) := by decide +kernel
theorem d_M_stopped_109 : decode c_M_stopped 109 = .ok (.iconst 2, 1) := by decide +kernel
theorem d_M_stopped_110 : decode c_M_stopped 110 = .ok (.iload 5, 2) := by decide +kernel
theorem d_M_stopped_112 : decode c_M_stopped 112 = .ok (.imul, 1) := by decide +kernel
theorem d_M_stopped_113 : decode c_M_stopped 113 = .ok (.ireturn, 1) := by decide +kernel
theorem d_M_stopped_114 : decode c_M_stopped 114 = .ok (.iload 4, 2) := by decide +kernel
theorem d_M_stopped_116 : decode c_M_stopped 116 = .ok (.iload_n 3, 1) := by decide +kernel
theorem d_M_stopped_117 : decode c_M_stopped 117 = .ok (.ineg, 1) := by decide +kernel
theorem d_M_stopped_118 : decode c_M_stopped 118 = .ok (.if_icmp .ne 10, 3) := by decide +kernel
theorem d_M_stopped_121 : decode c_M_stopped 121 = .ok (.iconst 2, 1) := by decide +kernel
theorem d_M_stopped_122 : decode c_M_stopped 122 = .ok (.iload 5, 2) := by decide +kernel
theorem d_M_stopped_124 : decode c_M_stopped 124 = .ok (.imul, 1) := by decide +kernel
theorem d_M_stopped_125 : decode c_M_stopped 125 = .ok (.iconst 1, 1) := by decide +kernel
theorem d_M_stopped_126 : decode c_M_stopped 126 = .ok (.iadd, 1) := by decide +kernel
theorem d_M_stopped_127 : decode c_M_stopped 127 = .ok (.ireturn, 1) := by decide +kernel
theorem d_M_stopped_128 : decode c_M_stopped 128 = .ok (.iinc 5 1, 3) := by decide +kernel
theorem d_M_stopped_131 : decode c_M_stopped 131 = .ok (.goto (-90), 3) := by decide +kernel
theorem d_M_stopped_134 : decode c_M_stopped 134 = .ok (.aload_n 0, 1) := by decide +kernel
theorem d_M_stopped_135 : decode c_M_stopped 135 = .ok (.getfield 55, 3) := by decide +kernel
theorem d_M_stopped_138 : decode c_M_stopped 138 = .ok (.ifCond .le 7, 3) := by decide +kernel
theorem d_M_stopped_141 : decode c_M_stopped 141 = .ok (.iconst 0, 1) := by decide +kernel
theorem d_M_stopped_142 : decode c_M_stopped 142 = .ok (.goto 4, 3) := by decide +kernel
theorem d_M_stopped_145 : decode c_M_stopped 145 = .ok (.iconst (-1), 1) := by decide +kernel
theorem d_M_stopped_146 : decode c_M_stopped 146 = .ok (.ireturn, 1) := by decide +kernel
theorem d_M_cross_0 : decode c_M_cross 0 = .ok (.iconst 0, 1) := by decide +kernel
theorem d_M_cross_1 : decode c_M_cross 1 = .ok (.istore 4, 2) := by decide +kernel
theorem d_M_cross_3 : decode c_M_cross 3 = .ok (.iload 4, 2) := by decide +kernel
theorem d_M_cross_5 : decode c_M_cross 5 = .ok (.bipush 35, 2) := by decide +kernel
theorem d_M_cross_7 : decode c_M_cross 7 = .ok (.if_icmp .ge 28, 3) := by decide +kernel
theorem d_M_cross_10 : decode c_M_cross 10 = .ok (.aload_n 0, 1) := by decide +kernel
theorem d_M_cross_11 : decode c_M_cross 11 = .ok (.getfield 44, 3) := by decide +kernel
theorem d_M_cross_14 : decode c_M_cross 14 = .ok (.iload 4, 2) := by decide +kernel
theorem d_M_cross_16 : decode c_M_cross 16 = .ok (.iload 4, 2) := by decide +kernel
theorem d_M_cross_18 : decode c_M_cross 18 = .ok (.bipush 17, 2) := by decide +kernel
theorem d_M_cross_20 : decode c_M_cross 20 = .ok (.if_icmp .ne 7, 3) := by decide +kernel
theorem d_M_cross_23 : decode c_M_cross 23 = .ok (.lconst 1, 1) := by decide +kernel
theorem d_M_cross_24 : decode c_M_cross 24 = .ok (.goto 4, 3) := by decide +kernel
theorem d_M_cross_27 : decode c_M_cross 27 = .ok (.lconst 0, 1) := by decide +kernel
theorem d_M_cross_28 : decode c_M_cross 28 = .ok (.lastore, 1) := by decide +kernel
theorem d_M_cross_29 : decode c_M_cross 29 = .ok (.iinc 4 1, 3) := by decide +kernel
theorem d_M_cross_32 : decode c_M_cross 32 = .ok (.goto (-29), 3) := by decide +kernel
theorem d_M_cross_35 : decode c_M_cross 35 = .ok (.lconst 0, 1) := by decide +kernel
theorem d_M_cross_36 : decode c_M_cross 36 = .ok (.lstore 4, 2) := by decide +kernel
theorem d_M_cross_38 : decode c_M_cross 38 = .ok (.iconst 1, 1) := by decide +kernel
theorem d_M_cross_39 : decode c_M_cross 39 = .ok (.istore 6, 2) := by decide +kernel
theorem d_M_cross_41 : decode c_M_cross 41 = .ok (.iload 6, 2) := by decide +kernel
theorem d_M_cross_43 : decode c_M_cross 43 = .ok (.iload_n 1, 1) := by decide +kernel
theorem d_M_cross_44 : decode c_M_cross 44 = .ok (.if_icmp .gt 143, 3) := by decide +kernel
theorem d_M_cross_47 : decode c_M_cross 47 = .ok (.iconst 1, 1) := by decide +kernel
theorem d_M_cross_48 : decode c_M_cross 48 = .ok (.istore 7, 2) := by decide +kernel
theorem d_M_cross_50 : decode c_M_cross 50 = .ok (.iload 7, 2) := by decide +kernel
theorem d_M_cross_52 : decode c_M_cross 52 = .ok (.bipush 34, 2) := by decide +kernel
theorem d_M_cross_54 : decode c_M_cross 54 = .ok (.if_icmp .ge 35, 3) := by decide +kernel
theorem d_M_cross_57 : decode c_M_cross 57 = .ok (.aload_n 0, 1) := by decide +kernel
theorem d_M_cross_58 : decode c_M_cross 58 = .ok (.getfield 48, 3) := by decide +kernel
theorem d_M_cross_61 : decode c_M_cross 61 = .ok (.iload 7, 2) := by decide +kernel
theorem d_M_cross_63 : decode c_M_cross 63 = .ok (.aload_n 0, 1) := by decide +kernel
theorem d_M_cross_64 : decode c_M_cross 64 = .ok (.getfield 44, 3) := by decide +kernel
theorem d_M_cross_67 : decode c_M_cross 67 = .ok (.iload 7, 2) := by decide +kernel
theorem d_M_cross_69 : decode c_M_cross 69 = .ok (.iconst 1, 1) := by decide +kernel
theorem d_M_cross_70 : decode c_M_cross 70 = .ok (.isub, 1) := by decide +kernel
theorem d_M_cross_71 : decode c_M_cross 71 = .ok (.laload, 1) := by decide +kernel
theorem d_M_cross_72 : decode c_M_cross 72 = .ok (.aload_n 0, 1) := by decide +kernel
theorem d_M_cross_73 : decode c_M_cross 73 = .ok (.getfield 44, 3) := by decide +kernel
theorem d_M_cross_76 : decode c_M_cross 76 = .ok (.iload 7, 2) := by decide +kernel
theorem d_M_cross_78 : decode c_M_cross 78 = .ok (.iconst 1, 1) := by decide +kernel
theorem d_M_cross_79 : decode c_M_cross 79 = .ok (.iadd, 1) := by decide +kernel
theorem d_M_cross_80 : decode c_M_cross 80 = .ok (.laload, 1) := by decide +kernel
theorem d_M_cross_81 : decode c_M_cross 81 = .ok (.ladd, 1) := by decide +kernel
theorem d_M_cross_82 : decode c_M_cross 82 = .ok (.lastore, 1) := by decide +kernel
theorem d_M_cross_83 : decode c_M_cross 83 = .ok (.iinc 7 1, 3) := by decide +kernel
theorem d_M_cross_86 : decode c_M_cross 86 = .ok (.goto (-36), 3) := by decide +kernel
theorem d_M_cross_89 : decode c_M_cross 89 = .ok (.lload 4, 2) := by decide +kernel
theorem d_M_cross_91 : decode c_M_cross 91 = .ok (.aload_n 0, 1) := by decide +kernel
theorem d_M_cross_92 : decode c_M_cross 92 = .ok (.getfield 48, 3) := by decide +kernel
theorem d_M_cross_95 : decode c_M_cross 95 = .ok (.bipush 17, 2) := by decide +kernel
theorem d_M_cross_97 : decode c_M_cross 97 = .ok (.iload_n 2, 1) := by decide +kernel
theorem d_M_cross_98 : decode c_M_cross 98 = .ok (.iadd, 1) := by decide +kernel
theorem d_M_cross_99 : decode c_M_cross 99 = .ok (.laload, 1) := by decide +kernel
theorem d_M_cross_100 : decode c_M_cross 100 = .ok (.iload_n 1, 1) := by decide +kernel
theorem d_M_cross_101 : decode c_M_cross 101 = .ok (.iload 6, 2) := by decide +kernel
theorem d_M_cross_103 : decode c_M_cross 103 = .ok (.isub, 1) := by decide +kernel
theorem d_M_cross_104 : decode c_M_cross 104 = .ok (.lshl, 1) := by decide +kernel
theorem d_M_cross_105 : decode c_M_cross 105 = .ok (.ladd, 1) := by decide +kernel
theorem d_M_cross_106 : decode c_M_cross 106 = .ok (.lstore 4, 2) := by decide +kernel
theorem d_M_cross_108 : decode c_M_cross 108 = .ok (.aload_n 0, 1) := by decide +kernel
theorem d_M_cross_109 : decode c_M_cross 109 = .ok (.getfield 48, 3) := by decide +kernel
theorem d_M_cross_112 : decode c_M_cross 112 = .ok (.bipush 17, 2) := by decide +kernel
theorem d_M_cross_114 : decode c_M_cross 114 = .ok (.iload_n 2, 1) := by decide +kernel
theorem d_M_cross_115 : decode c_M_cross 115 = .ok (.iadd, 1) := by decide +kernel
theorem d_M_cross_116 : decode c_M_cross 116 = .ok (.lconst 0, 1) := by decide +kernel
theorem d_M_cross_117 : decode c_M_cross 117 = .ok (.lastore, 1) := by decide +kernel
theorem d_M_cross_118 : decode c_M_cross 118 = .ok (.aload_n 0, 1) := by decide +kernel
theorem d_M_cross_119 : decode c_M_cross 119 = .ok (.getfield 48, 3) := by decide +kernel
theorem d_M_cross_122 : decode c_M_cross 122 = .ok (.bipush 17, 2) := by decide +kernel
theorem d_M_cross_124 : decode c_M_cross 124 = .ok (.iload_n 3, 1) := by decide +kernel
theorem d_M_cross_125 : decode c_M_cross 125 = .ok (.isub, 1) := by decide +kernel
theorem d_M_cross_126 : decode c_M_cross 126 = .ok (.lconst 0, 1) := by decide +kernel
theorem d_M_cross_127 : decode c_M_cross 127 = .ok (.lastore, 1) := by decide +kernel
theorem d_M_cross_128 : decode c_M_cross 128 = .ok (.iconst 1, 1) := by decide +kernel
theorem d_M_cross_129 : decode c_M_cross 129 = .ok (.istore 7, 2) := by decide +kernel
theorem d_M_cross_131 : decode c_M_cross 131 = .ok (.iload 7, 2) := by decide +kernel
theorem d_M_cross_133 : decode c_M_cross 133 = .ok (.bipush 34, 2) := by decide +kernel
theorem d_M_cross_135 : decode c_M_cross 135 = .ok (.if_icmp .ge 46, 3) := by decide +kernel
theorem d_M_cross_138 : decode c_M_cross 138 = .ok (.aload_n 0, 1) := by decide +kernel
theorem d_M_cross_139 : decode c_M_cross 139 = .ok (.getfield 44, 3) := by decide +kernel
theorem d_M_cross_142 : decode c_M_cross 142 = .ok (.iload 7, 2) := by decide +kernel
theorem d_M_cross_144 : decode c_M_cross 144 = .ok (.iload 7, 2) := by decide +kernel
theorem d_M_cross_146 : decode c_M_cross 146 = .ok (.bipush 17, 2) := by decide +kernel
theorem d_M_cross_148 : decode c_M_cross 148 = .ok (.isub, 1) := by decide +kernel
theorem d_M_cross_149 : decode c_M_cross 149 = .ok (.iload_n 2, 1) := by decide +kernel
theorem d_M_cross_150 : decode c_M_cross 150 = .ok (.if_icmp .ge 23, 3) := by decide +kernel
theorem d_M_cross_153 : decode c_M_cross 153 = .ok (.iload 7, 2) := by decide +kernel
theorem d_M_cross_155 : decode c_M_cross 155 = .ok (.bipush 17, 2) := by decide +kernel
theorem d_M_cross_157 : decode c_M_cross 157 = .ok (.isub, 1) := by decide +kernel
theorem d_M_cross_158 : decode c_M_cross 158 = .ok (.iload_n 3, 1) := by decide +kernel
theorem d_M_cross_159 : decode c_M_cross 159 = .ok (.ineg, 1) := by decide +kernel
theorem d_M_cross_160 : decode c_M_cross 160 = .ok (.if_icmp .le 13, 3) := by decide +kernel
theorem d_M_cross_163 : decode c_M_cross 163 = .ok (.aload_n 0, 1) := by decide +kernel
theorem d_M_cross_164 : decode c_M_cross 164 = .ok (.getfield 48, 3) := by decide +kernel
theorem d_M_cross_167 : decode c_M_cross 167 = .ok (.iload 7, 2) := by decide +kernel
theorem d_M_cross_169 : decode c_M_cross 169 = .ok (.laload, 1) := by decide +kernel
theorem d_M_cross_170 : decode c_M_cross 170 = .ok (.goto 4, 3) := by decide +kernel
theorem d_M_cross_173 : decode c_M_cross 173 = .ok (.lconst 0, 1) := by decide +kernel
theorem d_M_cross_174 : decode c_M_cross 174 = .ok (.lastore, 1) := by decide +kernel
theorem d_M_cross_175 : decode c_M_cross 175 = .ok (.iinc 7 1, 3) := by decide +kernel
theorem d_M_cross_178 : decode c_M_cross 178 = .ok (.goto (-47), 3) := by decide +kernel
theorem d_M_cross_181 : decode c_M_cross 181 = .ok (.iinc 6 1, 3) := by decide +kernel
theorem d_M_cross_184 : decode c_M_cross 184 = .ok (.goto (-143), 3) := by decide +kernel
theorem d_M_cross_187 : decode c_M_cross 187 = .ok (.lload 4, 2) := by decide +kernel
theorem d_M_cross_189 : decode c_M_cross 189 = .ok (.lreturn, 1) := by decide +kernel
theorem d_M_crossing_0 : decode c_M_crossing 0 = .ok (.aload_n 0, 1) := by decide +kernel
theorem d_M_crossing_1 : decode c_M_crossing 1 = .ok (.iload 4, 2) := by decide +kernel
theorem d_M_crossing_3 : decode c_M_crossing 3 = .ok (.iconst 2, 1) := by decide +kernel
theorem d_M_crossing_4 : decode c_M_crossing 4 = .ok (.invokestatic 59, 3) := by decide +kernel
theorem d_M_crossing_7 : decode c_M_crossing 7 = .ok (.ifCond .ne 7, 3) := by decide +kernel
theorem d_M_crossing_10 : decode c_M_crossing 10 = .ok (.iconst 1, 1) := by decide +kernel
theorem d_M_crossing_11 : decode c_M_crossing 11 = .ok (.goto 32, 3) := by decide +kernel
theorem d_M_crossing_14 : decode c_M_crossing 14 = .ok (.iload_n 1, 1) := by decide +kernel
theorem d_M_crossing_15 : decode c_M_crossing 15 = .ok (.ifCond .lt 23, 3) := by decide +kernel
theorem d_M_crossing_18 : decode c_M_crossing 18 = .ok (.iload_n 1, 1) := by decide +kernel
theorem d_M_crossing_19 : decode c_M_crossing 19 = .ok (.bipush 40, 2) := by decide +kernel
theorem d_M_crossing_21 : decode c_M_crossing 21 = .ok (.if_icmp .gt 17, 3) := by decide +kernel
theorem d_M_crossing_24 : decode c_M_crossing 24 = .ok (.iload_n 2, 1) := by decide +kernel
theorem d_M_crossing_25 : decode c_M_crossing 25 = .ok (.invokestatic 101, 3) := by decide +kernel
theorem d_M_crossing_28 : decode c_M_crossing 28 = .ok (.ifCond .eq 10, 3) := by decide +kernel
theorem d_M_crossing_31 : decode c_M_crossing 31 = .ok (.iload_n 3, 1) := by decide +kernel
theorem d_M_crossing_32 : decode c_M_crossing 32 = .ok (.invokestatic 101, 3) := by decide +kernel
theorem d_M_crossing_35 : decode c_M_crossing 35 = .ok (.ifCond .ne 7, 3) := by decide +kernel
theorem d_M_crossing_38 : decode c_M_crossing 38 = .ok (.iconst 2, 1) := by decide +kernel
theorem d_M_crossing_39 : decode c_M_crossing 39 = .ok (.goto 4, 3) := by decide +kernel
theorem d_M_crossing_42 : decode c_M_crossing 42 = .ok (.iconst 0, 1) := by decide +kernel
theorem d_M_crossing_43 : decode c_M_crossing 43 = .ok (.putfield 55, 3) := by decide +kernel
theorem d_M_crossing_46 : decode c_M_crossing 46 = .ok (.aload_n 0, 1) := by decide +kernel
theorem d_M_crossing_47 : decode c_M_crossing 47 = .ok (.getfield 55, 3) := by decide +kernel
theorem d_M_crossing_50 : decode c_M_crossing 50 = .ok (.ifCond .le 7, 3) := by decide +kernel
theorem d_M_crossing_53 : decode c_M_crossing 53 = .ok (.lconst 0, 1) := by decide +kernel
theorem d_M_crossing_54 : decode c_M_crossing 54 = .ok (.goto 18, 3) := by decide +kernel
theorem d_M_crossing_57 : decode c_M_crossing 57 = .ok (.aload_n 0, 1) := by decide +kernel
theorem d_M_crossing_58 : decode c_M_crossing 58 = .ok (.iload_n 1, 1) := by decide +kernel
theorem d_M_crossing_59 : decode c_M_crossing 59 = .ok (.iload_n 2, 1) := by decide +kernel
theorem d_M_crossing_60 : decode c_M_crossing 60 = .ok (.iload_n 3, 1) := by decide +kernel
theorem d_M_crossing_61 : decode c_M_crossing 61 = .ok (.invokevirtual 105, 3) := by decide +kernel
theorem d_M_crossing_64 : decode c_M_crossing 64 = .ok (.lconst 1, 1) := by decide +kernel
theorem d_M_crossing_65 : decode c_M_crossing 65 = .ok (.iload_n 1, 1) := by decide +kernel
theorem d_M_crossing_66 : decode c_M_crossing 66 = .ok (.lshl, 1) := by decide +kernel
theorem d_M_crossing_67 : decode c_M_crossing 67 = .ok (.iload 4, 2) := by decide +kernel
theorem d_M_crossing_69 : decode c_M_crossing 69 = .ok (.invokestatic 87, 3) := by decide +kernel
theorem d_M_crossing_72 : decode c_M_crossing 72 = .ok (.lreturn, 1) := by decide +kernel
theorem d_M_least_0 : decode c_M_least 0 = .ok (.aload_n 0, 1) := by decide +kernel
theorem d_M_least_1 : decode c_M_least 1 = .ok (.iload 4, 2) := by decide +kernel
theorem d_M_least_3 : decode c_M_least 3 = .ok (.iconst 1, 1) := by decide +kernel
theorem d_M_least_4 : decode c_M_least 4 = .ok (.if_icmp .lt 35, 3) := by decide +kernel
theorem d_M_least_7 : decode c_M_least 7 = .ok (.iload 4, 2) := by decide +kernel
theorem d_M_least_9 : decode c_M_least 9 = .ok (.sipush 1000, 3) := by decide +kernel
theorem d_M_least_12 : decode c_M_least 12 = .ok (.if_icmp .gt 27, 3) := by decide +kernel
theorem d_M_least_15 : decode c_M_least 15 = .ok (.iload_n 3, 1) := by decide +kernel
theorem d_M_least_16 : decode c_M_least 16 = .ok (.ifCond .lt 23, 3) := by decide +kernel
theorem d_M_least_19 : decode c_M_least 19 = .ok (.iload_n 3, 1) := by decide +kernel
theorem d_M_least_20 : decode c_M_least 20 = .ok (.iload 4, 2) := by decide +kernel
theorem d_M_least_22 : decode c_M_least 22 = .ok (.if_icmp .gt 17, 3) := by decide +kernel
theorem d_M_least_25 : decode c_M_least 25 = .ok (.iload_n 1, 1) := by decide +kernel
theorem d_M_least_26 : decode c_M_least 26 = .ok (.invokestatic 101, 3) := by decide +kernel
theorem d_M_least_29 : decode c_M_least 29 = .ok (.ifCond .eq 10, 3) := by decide +kernel
theorem d_M_least_32 : decode c_M_least 32 = .ok (.iload_n 2, 1) := by decide +kernel
theorem d_M_least_33 : decode c_M_least 33 = .ok (.invokestatic 101, 3) := by decide +kernel
theorem d_M_least_36 : decode c_M_least 36 = .ok (.ifCond .ne 7, 3) := by decide +kernel
theorem d_M_least_39 : decode c_M_least 39 = .ok (.iconst 1, 1) := by decide +kernel
theorem d_M_least_40 : decode c_M_least 40 = .ok (.goto 4, 3) := by decide +kernel
theorem d_M_least_43 : decode c_M_least 43 = .ok (.iconst 0, 1) := by decide +kernel
theorem d_M_least_44 : decode c_M_least 44 = .ok (.putfield 55, 3) := by decide +kernel
theorem d_M_least_47 : decode c_M_least 47 = .ok (.iconst 0, 1) := by decide +kernel
theorem d_M_least_48 : decode c_M_least 48 = .ok (.istore 5, 2) := by decide +kernel
theorem d_M_least_50 : decode c_M_least 50 = .ok (.iload 5, 2) := by decide +kernel
theorem d_M_least_52 : decode c_M_least 52 = .ok (.bipush 40, 2) := by decide +kernel
theorem d_M_least_54 : decode c_M_least 54 = .ok (.if_icmp .gt 40, 3) := by decide +kernel
theorem d_M_least_57 : decode c_M_least 57 = .ok (.aload_n 0, 1) := by decide +kernel
theorem d_M_least_58 : decode c_M_least 58 = .ok (.getfield 55, 3) := by decide +kernel
theorem d_M_least_61 : decode c_M_least 61 = .ok (.ifCond .ne 33, 3) := by decide +kernel
theorem d_M_least_64 : decode c_M_least 64 = .ok (.aload_n 0, 1) := by decide +kernel
theorem d_M_least_65 : decode c_M_least 65 = .ok (.iload 5, 2) := by decide +kernel
theorem d_M_least_67 : decode c_M_least 67 = .ok (.iload_n 1, 1) := by decide +kernel
theorem d_M_least_68 : decode c_M_least 68 = .ok (.iload_n 2, 1) := by decide +kernel
theorem d_M_least_69 : decode c_M_least 69 = .ok (.invokevirtual 105, 3) := by decide +kernel
theorem d_M_least_72 : decode c_M_least 72 = .ok (.iload 4, 2) := by decide +kernel
theorem d_M_least_74 : decode c_M_least 74 = .ok (.i2l, 1) := by decide +kernel
theorem d_M_least_75 : decode c_M_least 75 = .ok (.lmul, 1) := by decide +kernel
theorem d_M_least_76 : decode c_M_least 76 = .ok (.iload_n 3, 1) := by decide +kernel
theorem d_M_least_77 : decode c_M_least 77 = .ok (.i2l, 1) := by decide +kernel
theorem d_M_least_78 : decode c_M_least 78 = .ok (.iload 5, 2) := by decide +kernel
theorem d_M_least_80 : decode c_M_least 80 = .ok (.lshl, 1) := by decide +kernel
theorem d_M_least_81 : decode c_M_least 81 = .ok (.lcmp, 1) := by decide +kernel
theorem d_M_least_82 : decode c_M_least 82 = .ok (.ifCond .lt 6, 3) := by decide +kernel
theorem d_M_least_85 : decode c_M_least 85 = .ok (.iload 5, 2) := by decide +kernel
theorem d_M_least_87 : decode c_M_least 87 = .ok (.ireturn, 1) := by decide +kernel
theorem d_M_least_88 : decode c_M_least 88 = .ok (.iinc 5 1, 3) := by decide +kernel
theorem d_M_least_91 : decode c_M_least 91 = .ok (.goto (-41), 3) := by decide +kernel
theorem d_M_least_94 : decode c_M_least 94 = .ok (.aload_n 0, 1) := by decide +kernel
theorem d_M_least_95 : decode c_M_least 95 = .ok (.getfield 55, 3) := by decide +kernel
theorem d_M_least_98 : decode c_M_least 98 = .ok (.ifCond .le 7, 3) := by decide +kernel
theorem d_M_least_101 : decode c_M_least 101 = .ok (.iconst 0, 1) := by decide +kernel
theorem d_M_least_102 : decode c_M_least 102 = .ok (.goto 4, 3) := by decide +kernel
theorem d_M_least_105 : decode c_M_least 105 = .ok (.iconst (-1), 1) := by decide +kernel
theorem d_M_least_106 : decode c_M_least 106 = .ok (.ireturn, 1) := by decide +kernel
theorem d_M_keptOfShip_0 : decode c_M_keptOfShip 0 = .ok (.iconst 0, 1) := by decide +kernel
theorem d_M_keptOfShip_1 : decode c_M_keptOfShip 1 = .ok (.istore_n 3, 1) := by decide +kernel
theorem d_M_keptOfShip_2 : decode c_M_keptOfShip 2 = .ok (.iconst 0, 1) := by decide +kernel
theorem d_M_keptOfShip_3 : decode c_M_keptOfShip 3 = .ok (.istore 4, 2) := by decide +kernel
theorem d_M_keptOfShip_5 : decode c_M_keptOfShip 5 = .ok (.iload 4, 2) := by decide +kernel
theorem d_M_keptOfShip_7 : decode c_M_keptOfShip 7 = .ok (.aload_n 0, 1) := by decide +kernel
theorem d_M_keptOfShip_8 : decode c_M_keptOfShip 8 = .ok (.getfield 70, 3) := by decide +kernel
theorem d_M_keptOfShip_11 : decode c_M_keptOfShip 11 = .ok (.if_icmp .ge 43, 3) := by decide +kernel
theorem d_M_keptOfShip_14 : decode c_M_keptOfShip 14 = .ok (.iload_n 3, 1) := by decide +kernel
theorem d_M_keptOfShip_15 : decode c_M_keptOfShip 15 = .ok (.aload_n 0, 1) := by decide +kernel
theorem d_M_keptOfShip_16 : decode c_M_keptOfShip 16 = .ok (.getfield 7, 3) := by decide +kernel
theorem d_M_keptOfShip_19 : decode c_M_keptOfShip 19 = .ok (.aload_n 0, 1) := by decide +kernel
theorem d_M_keptOfShip_20 : decode c_M_keptOfShip 20 = .ok (.getfield 26, 3) := by decide +kernel
theorem d_M_keptOfShip_23 : decode c_M_keptOfShip 23 = .ok (.iload 4, 2) := by decide +kernel
theorem d_M_keptOfShip_25 : decode c_M_keptOfShip 25 = .ok (.iaload, 1) := by decide +kernel
theorem d_M_keptOfShip_26 : decode c_M_keptOfShip 26 = .ok (.iaload, 1) := by decide +kernel
theorem d_M_keptOfShip_27 : decode c_M_keptOfShip 27 = .ok (.iload_n 1, 1) := by decide +kernel
theorem d_M_keptOfShip_28 : decode c_M_keptOfShip 28 = .ok (.if_icmp .ne 17, 3) := by decide +kernel
theorem d_M_keptOfShip_31 : decode c_M_keptOfShip 31 = .ok (.aload_n 0, 1) := by decide +kernel
theorem d_M_keptOfShip_32 : decode c_M_keptOfShip 32 = .ok (.iload 4, 2) := by decide +kernel
theorem d_M_keptOfShip_34 : decode c_M_keptOfShip 34 = .ok (.iload_n 2, 1) := by decide +kernel
theorem d_M_keptOfShip_35 : decode c_M_keptOfShip 35 = .ok (.invokevirtual 77, 3) := by decide +kernel
theorem d_M_keptOfShip_38 : decode c_M_keptOfShip 38 = .ok (.ifCond .eq 7, 3) := by decide +kernel
theorem d_M_keptOfShip_41 : decode c_M_keptOfShip 41 = .ok (.iconst 1, 1) := by decide +kernel
theorem d_M_keptOfShip_42 : decode c_M_keptOfShip 42 = .ok (.goto 4, 3) := by decide +kernel
theorem d_M_keptOfShip_45 : decode c_M_keptOfShip 45 = .ok (.iconst 0, 1) := by decide +kernel
theorem d_M_keptOfShip_46 : decode c_M_keptOfShip 46 = .ok (.iadd, 1) := by decide +kernel
theorem d_M_keptOfShip_47 : decode c_M_keptOfShip 47 = .ok (.istore_n 3, 1) := by decide +kernel
theorem d_M_keptOfShip_48 : decode c_M_keptOfShip 48 = .ok (.iinc 4 1, 3) := by decide +kernel
theorem d_M_keptOfShip_51 : decode c_M_keptOfShip 51 = .ok (.goto (-46), 3) := by decide +kernel
theorem d_M_keptOfShip_54 : decode c_M_keptOfShip 54 = .ok (.iload_n 3, 1) := by decide +kernel
theorem d_M_keptOfShip_55 : decode c_M_keptOfShip 55 = .ok (.ireturn, 1) := by decide +kernel
theorem d_M_mean_0 : decode c_M_mean 0 = .ok (.aload_n 0, 1) := by decide +kernel
theorem d_M_mean_1 : decode c_M_mean 1 = .ok (.iload_n 1, 1) := by decide +kernel
theorem d_M_mean_2 : decode c_M_mean 2 = .ok (.iconst 4, 1) := by decide +kernel
theorem d_M_mean_3 : decode c_M_mean 3 = .ok (.invokestatic 59, 3) := by decide +kernel
theorem d_M_mean_6 : decode c_M_mean 6 = .ok (.ifCond .eq 23, 3) := by decide +kernel
theorem d_M_mean_9 : decode c_M_mean 9 = .ok (.iload_n 2, 1) := by decide +kernel
theorem d_M_mean_10 : decode c_M_mean 10 = .ok (.iconst 3, 1) := by decide +kernel
theorem d_M_mean_11 : decode c_M_mean 11 = .ok (.invokestatic 59, 3) := by decide +kernel
theorem d_M_mean_14 : decode c_M_mean 14 = .ok (.ifCond .eq 15, 3) := by decide +kernel
theorem d_M_mean_17 : decode c_M_mean 17 = .ok (.iload_n 3, 1) := by decide +kernel
theorem d_M_mean_18 : decode c_M_mean 18 = .ok (.iconst 2, 1) := by decide +kernel
theorem d_M_mean_19 : decode c_M_mean 19 = .ok (.invokestatic 59, 3) := by decide +kernel
theorem d_M_mean_22 : decode c_M_mean 22 = .ok (.ifCond .eq 7, 3) := by decide +kernel
theorem d_M_mean_25 : decode c_M_mean 25 = .ok (.iconst 0, 1) := by decide +kernel
theorem d_M_mean_26 : decode c_M_mean 26 = .ok (.goto 4, 3) := by decide +kernel
theorem d_M_mean_29 : decode c_M_mean 29 = .ok (.iconst 1, 1) := by decide +kernel
theorem d_M_mean_30 : decode c_M_mean 30 = .ok (.putfield 55, 3) := by decide +kernel
theorem d_M_mean_33 : decode c_M_mean 33 = .ok (.aload_n 0, 1) := by decide +kernel
theorem d_M_mean_34 : decode c_M_mean 34 = .ok (.getfield 55, 3) := by decide +kernel
theorem d_M_mean_37 : decode c_M_mean 37 = .ok (.ifCond .le 5, 3) := by decide +kernel
theorem d_M_mean_40 : decode c_M_mean 40 = .ok (.lconst 0, 1) := by decide +kernel
theorem d_M_mean_41 : decode c_M_mean 41 = .ok (.lreturn, 1) := by decide +kernel
theorem d_M_mean_42 : decode c_M_mean 42 = .ok (.aload_n 0, 1) := by decide +kernel
theorem d_M_mean_43 : decode c_M_mean 43 = .ok (.iload_n 1, 1) := by decide +kernel
theorem d_M_mean_44 : decode c_M_mean 44 = .ok (.iload_n 2, 1) := by decide +kernel
theorem d_M_mean_45 : decode c_M_mean 45 = .ok (.invokevirtual 109, 3) := by decide +kernel
theorem d_M_mean_48 : decode c_M_mean 48 = .ok (.istore 4, 2) := by decide +kernel
theorem d_M_mean_50 : decode c_M_mean 50 = .ok (.iconst 0, 1) := by decide +kernel
theorem d_M_mean_51 : decode c_M_mean 51 = .ok (.istore 5, 2) := by decide +kernel
theorem d_M_mean_53 : decode c_M_mean 53 = .ok (.iconst 0, 1) := by decide +kernel
theorem d_M_mean_54 : decode c_M_mean 54 = .ok (.istore 6, 2) := by decide +kernel
theorem d_M_mean_56 : decode c_M_mean 56 = .ok (.iload 6, 2) := by decide +kernel
theorem d_M_mean_58 : decode c_M_mean 58 = .ok (.aload_n 0, 1) := by decide +kernel
theorem d_M_mean_59 : decode c_M_mean 59 = .ok (.getfield 70, 3) := by decide +kernel
theorem d_M_mean_62 : decode c_M_mean 62 = .ok (.if_icmp .ge 51, 3) := by decide +kernel
theorem d_M_mean_65 : decode c_M_mean 65 = .ok (.iload 5, 2) := by decide +kernel
theorem d_M_mean_67 : decode c_M_mean 67 = .ok (.aload_n 0, 1) := by decide +kernel
theorem d_M_mean_68 : decode c_M_mean 68 = .ok (.getfield 7, 3) := by decide +kernel
theorem d_M_mean_71 : decode c_M_mean 71 = .ok (.aload_n 0, 1) := by decide +kernel
theorem d_M_mean_72 : decode c_M_mean 72 = .ok (.getfield 26, 3) := by decide +kernel
theorem d_M_mean_75 : decode c_M_mean 75 = .ok (.iload 6, 2) := by decide +kernel
theorem d_M_mean_77 : decode c_M_mean 77 = .ok (.iaload, 1) := by decide +kernel
theorem d_M_mean_78 : decode c_M_mean 78 = .ok (.iaload, 1) := by decide +kernel
theorem d_M_mean_79 : decode c_M_mean 79 = .ok (.iload_n 1, 1) := by decide +kernel
theorem d_M_mean_80 : decode c_M_mean 80 = .ok (.if_icmp .ne 23, 3) := by decide +kernel
theorem d_M_mean_83 : decode c_M_mean 83 = .ok (.aload_n 0, 1) := by decide +kernel
theorem d_M_mean_84 : decode c_M_mean 84 = .ok (.iload 6, 2) := by decide +kernel
theorem d_M_mean_86 : decode c_M_mean 86 = .ok (.iload_n 2, 1) := by decide +kernel
theorem d_M_mean_87 : decode c_M_mean 87 = .ok (.invokevirtual 77, 3) := by decide +kernel
theorem d_M_mean_90 : decode c_M_mean 90 = .ok (.ifCond .eq 13, 3) := by decide +kernel
theorem d_M_mean_93 : decode c_M_mean 93 = .ok (.aload_n 0, 1) := by decide +kernel
theorem d_M_mean_94 : decode c_M_mean 94 = .ok (.iload 6, 2) := by decide +kernel
theorem d_M_mean_96 : decode c_M_mean 96 = .ok (.iload_n 2, 1) := by decide +kernel
theorem d_M_mean_97 : decode c_M_mean 97 = .ok (.invokevirtual 73, 3) := by decide +kernel
theorem d_M_mean_100 : decode c_M_mean 100 = .ok (.goto 4, 3) := by decide +kernel
theorem d_M_mean_103 : decode c_M_mean 103 = .ok (.iconst 0, 1) := by decide +kernel
theorem d_M_mean_104 : decode c_M_mean 104 = .ok (.iadd, 1) := by decide +kernel
theorem d_M_mean_105 : decode c_M_mean 105 = .ok (.istore 5, 2) := by decide +kernel
theorem d_M_mean_107 : decode c_M_mean 107 = .ok (.iinc 6 1, 3) := by decide +kernel
theorem d_M_mean_110 : decode c_M_mean 110 = .ok (.goto (-54), 3) := by decide +kernel
theorem d_M_mean_113 : decode c_M_mean 113 = .ok (.iload 4, 2) := by decide +kernel
theorem d_M_mean_115 : decode c_M_mean 115 = .ok (.ifCond .ne 8, 3) := by decide +kernel
theorem d_M_mean_118 : decode c_M_mean 118 = .ok (.iload_n 3, 1) := by decide +kernel
theorem d_M_mean_119 : decode c_M_mean 119 = .ok (.i2l, 1) := by decide +kernel
theorem d_M_mean_120 : decode c_M_mean 120 = .ok (.goto 13, 3) := by decide +kernel
theorem d_M_mean_123 : decode c_M_mean 123 = .ok (.iload 5, 2) := by decide +kernel
theorem d_M_mean_125 : decode c_M_mean 125 = .ok (.i2l, 1) := by decide +kernel
theorem d_M_mean_126 : decode c_M_mean 126 = .ok (.iload 4, 2) := by decide +kernel
theorem d_M_mean_128 : decode c_M_mean 128 = .ok (.i2l, 1) := by decide +kernel
theorem d_M_mean_129 : decode c_M_mean 129 = .ok (.iload_n 3, 1) := by decide +kernel
theorem d_M_mean_130 : decode c_M_mean 130 = .ok (.invokestatic 87, 3) := by decide +kernel
theorem d_M_mean_133 : decode c_M_mean 133 = .ok (.lreturn, 1) := by decide +kernel
theorem d_M_weight_0 : decode c_M_weight 0 = .ok (.aload_n 0, 1) := by decide +kernel
theorem d_M_weight_1 : decode c_M_weight 1 = .ok (.iload_n 1, 1) := by decide +kernel
theorem d_M_weight_2 : decode c_M_weight 2 = .ok (.iconst 4, 1) := by decide +kernel
theorem d_M_weight_3 : decode c_M_weight 3 = .ok (.invokestatic 59, 3) := by decide +kernel
theorem d_M_weight_6 : decode c_M_weight 6 = .ok (.ifCond .eq 23, 3) := by decide +kernel
theorem d_M_weight_9 : decode c_M_weight 9 = .ok (.iload_n 2, 1) := by decide +kernel
theorem d_M_weight_10 : decode c_M_weight 10 = .ok (.iconst 3, 1) := by decide +kernel
theorem d_M_weight_11 : decode c_M_weight 11 = .ok (.invokestatic 59, 3) := by decide +kernel
theorem d_M_weight_14 : decode c_M_weight 14 = .ok (.ifCond .eq 15, 3) := by decide +kernel
theorem d_M_weight_17 : decode c_M_weight 17 = .ok (.iload_n 3, 1) := by decide +kernel
theorem d_M_weight_18 : decode c_M_weight 18 = .ok (.iconst 2, 1) := by decide +kernel
theorem d_M_weight_19 : decode c_M_weight 19 = .ok (.invokestatic 59, 3) := by decide +kernel
theorem d_M_weight_22 : decode c_M_weight 22 = .ok (.ifCond .eq 7, 3) := by decide +kernel
theorem d_M_weight_25 : decode c_M_weight 25 = .ok (.iconst 0, 1) := by decide +kernel
theorem d_M_weight_26 : decode c_M_weight 26 = .ok (.goto 4, 3) := by decide +kernel
theorem d_M_weight_29 : decode c_M_weight 29 = .ok (.iconst 1, 1) := by decide +kernel
theorem d_M_weight_30 : decode c_M_weight 30 = .ok (.putfield 55, 3) := by decide +kernel
theorem d_M_weight_33 : decode c_M_weight 33 = .ok (.aload_n 0, 1) := by decide +kernel
theorem d_M_weight_34 : decode c_M_weight 34 = .ok (.getfield 55, 3) := by decide +kernel
theorem d_M_weight_37 : decode c_M_weight 37 = .ok (.ifCond .le 5, 3) := by decide +kernel
theorem d_M_weight_40 : decode c_M_weight 40 = .ok (.lconst 0, 1) := by decide +kernel
theorem d_M_weight_41 : decode c_M_weight 41 = .ok (.lreturn, 1) := by decide +kernel
theorem d_M_weight_42 : decode c_M_weight 42 = .ok (.aload_n 0, 1) := by decide +kernel
theorem d_M_weight_43 : decode c_M_weight 43 = .ok (.iload_n 2, 1) := by decide +kernel
theorem d_M_weight_44 : decode c_M_weight 44 = .ok (.invokevirtual 80, 3) := by decide +kernel
theorem d_M_weight_47 : decode c_M_weight 47 = .ok (.istore 4, 2) := by decide +kernel
theorem d_M_weight_49 : decode c_M_weight 49 = .ok (.iload 4, 2) := by decide +kernel
theorem d_M_weight_51 : decode c_M_weight 51 = .ok (.ifCond .ne 8, 3) := by decide +kernel
theorem d_M_weight_54 : decode c_M_weight 54 = .ok (.iload_n 3, 1) := by decide +kernel
theorem d_M_weight_55 : decode c_M_weight 55 = .ok (.i2l, 1) := by decide +kernel
theorem d_M_weight_56 : decode c_M_weight 56 = .ok (.goto 17, 3) := by decide +kernel
theorem d_M_weight_59 : decode c_M_weight 59 = .ok (.aload_n 0, 1) := by decide +kernel
theorem d_M_weight_60 : decode c_M_weight 60 = .ok (.iload_n 1, 1) := by decide +kernel
theorem d_M_weight_61 : decode c_M_weight 61 = .ok (.iload_n 2, 1) := by decide +kernel
theorem d_M_weight_62 : decode c_M_weight 62 = .ok (.invokevirtual 109, 3) := by decide +kernel
theorem d_M_weight_65 : decode c_M_weight 65 = .ok (.i2l, 1) := by decide +kernel
theorem d_M_weight_66 : decode c_M_weight 66 = .ok (.iload 4, 2) := by decide +kernel
theorem d_M_weight_68 : decode c_M_weight 68 = .ok (.i2l, 1) := by decide +kernel
theorem d_M_weight_69 : decode c_M_weight 69 = .ok (.iload_n 3, 1) := by decide +kernel
theorem d_M_weight_70 : decode c_M_weight 70 = .ok (.invokestatic 87, 3) := by decide +kernel
theorem d_M_weight_73 : decode c_M_weight 73 = .ok (.lreturn, 1) := by decide +kernel
theorem d_M_joined_0 : decode c_M_joined 0 = .ok (.aload_n 0, 1) := by decide +kernel
theorem d_M_joined_1 : decode c_M_joined 1 = .ok (.iload_n 1, 1) := by decide +kernel
theorem d_M_joined_2 : decode c_M_joined 2 = .ok (.iconst 3, 1) := by decide +kernel
theorem d_M_joined_3 : decode c_M_joined 3 = .ok (.invokestatic 59, 3) := by decide +kernel
theorem d_M_joined_6 : decode c_M_joined 6 = .ok (.ifCond .eq 15, 3) := by decide +kernel
theorem d_M_joined_9 : decode c_M_joined 9 = .ok (.iload_n 2, 1) := by decide +kernel
theorem d_M_joined_10 : decode c_M_joined 10 = .ok (.iconst 2, 1) := by decide +kernel
theorem d_M_joined_11 : decode c_M_joined 11 = .ok (.invokestatic 59, 3) := by decide +kernel
theorem d_M_joined_14 : decode c_M_joined 14 = .ok (.ifCond .eq 7, 3) := by decide +kernel
theorem d_M_joined_17 : decode c_M_joined 17 = .ok (.iconst 0, 1) := by decide +kernel
theorem d_M_joined_18 : decode c_M_joined 18 = .ok (.goto 4, 3) := by decide +kernel
theorem d_M_joined_21 : decode c_M_joined 21 = .ok (.iconst 1, 1) := by decide +kernel
theorem d_M_joined_22 : decode c_M_joined 22 = .ok (.putfield 55, 3) := by decide +kernel
theorem d_M_joined_25 : decode c_M_joined 25 = .ok (.aload_n 0, 1) := by decide +kernel
theorem d_M_joined_26 : decode c_M_joined 26 = .ok (.getfield 55, 3) := by decide +kernel
theorem d_M_joined_29 : decode c_M_joined 29 = .ok (.ifCond .le 5, 3) := by decide +kernel
theorem d_M_joined_32 : decode c_M_joined 32 = .ok (.lconst 0, 1) := by decide +kernel
theorem d_M_joined_33 : decode c_M_joined 33 = .ok (.lreturn, 1) := by decide +kernel
theorem d_M_joined_34 : decode c_M_joined 34 = .ok (.aload_n 0, 1) := by decide +kernel
theorem d_M_joined_35 : decode c_M_joined 35 = .ok (.iload_n 1, 1) := by decide +kernel
theorem d_M_joined_36 : decode c_M_joined 36 = .ok (.invokevirtual 80, 3) := by decide +kernel
theorem d_M_joined_39 : decode c_M_joined 39 = .ok (.istore_n 3, 1) := by decide +kernel
theorem d_M_joined_40 : decode c_M_joined 40 = .ok (.iload_n 3, 1) := by decide +kernel
theorem d_M_joined_41 : decode c_M_joined 41 = .ok (.ifCond .ne 8, 3) := by decide +kernel
theorem d_M_joined_44 : decode c_M_joined 44 = .ok (.iload_n 2, 1) := by decide +kernel
theorem d_M_joined_45 : decode c_M_joined 45 = .ok (.i2l, 1) := by decide +kernel
theorem d_M_joined_46 : decode c_M_joined 46 = .ok (.goto 15, 3) := by decide +kernel
theorem d_M_joined_49 : decode c_M_joined 49 = .ok (.aload_n 0, 1) := by decide +kernel
theorem d_M_joined_50 : decode c_M_joined 50 = .ok (.iload_n 1, 1) := by decide +kernel
theorem d_M_joined_51 : decode c_M_joined 51 = .ok (.invokevirtual 84, 3) := by decide +kernel
theorem d_M_joined_54 : decode c_M_joined 54 = .ok (.i2l, 1) := by decide +kernel
theorem d_M_joined_55 : decode c_M_joined 55 = .ok (.iload_n 3, 1) := by decide +kernel
theorem d_M_joined_56 : decode c_M_joined 56 = .ok (.i2l, 1) := by decide +kernel
theorem d_M_joined_57 : decode c_M_joined 57 = .ok (.iload_n 2, 1) := by decide +kernel
theorem d_M_joined_58 : decode c_M_joined 58 = .ok (.invokestatic 87, 3) := by decide +kernel
theorem d_M_joined_61 : decode c_M_joined 61 = .ok (.lreturn, 1) := by decide +kernel
theorem d_M_areUnlike_0 : decode c_M_areUnlike 0 = .ok (.aload_n 0, 1) := by decide +kernel
theorem d_M_areUnlike_1 : decode c_M_areUnlike 1 = .ok (.getfield 35, 3) := by decide +kernel
theorem d_M_areUnlike_4 : decode c_M_areUnlike 4 = .ok (.iconst 2, 1) := by decide +kernel
theorem d_M_areUnlike_5 : decode c_M_areUnlike 5 = .ok (.iload_n 1, 1) := by decide +kernel
theorem d_M_areUnlike_6 : decode c_M_areUnlike 6 = .ok (.imul, 1) := by decide +kernel
theorem d_M_areUnlike_7 : decode c_M_areUnlike 7 = .ok (.iaload, 1) := by decide +kernel
theorem d_M_areUnlike_8 : decode c_M_areUnlike 8 = .ok (.istore_n 2, 1) := by decide +kernel
theorem d_M_areUnlike_9 : decode c_M_areUnlike 9 = .ok (.aload_n 0, 1) := by decide +kernel
theorem d_M_areUnlike_10 : decode c_M_areUnlike 10 = .ok (.getfield 35, 3) := by decide +kernel
theorem d_M_areUnlike_13 : decode c_M_areUnlike 13 = .ok (.iconst 2, 1) := by decide +kernel
theorem d_M_areUnlike_14 : decode c_M_areUnlike 14 = .ok (.iload_n 1, 1) := by decide +kernel
theorem d_M_areUnlike_15 : decode c_M_areUnlike 15 = .ok (.imul, 1) := by decide +kernel
theorem d_M_areUnlike_16 : decode c_M_areUnlike 16 = .ok (.iconst 1, 1) := by decide +kernel
theorem d_M_areUnlike_17 : decode c_M_areUnlike 17 = .ok (.iadd, 1) := by decide +kernel
theorem d_M_areUnlike_18 : decode c_M_areUnlike 18 = .ok (.iaload, 1) := by decide +kernel
theorem d_M_areUnlike_19 : decode c_M_areUnlike 19 = .ok (.istore_n 3, 1) := by decide +kernel
theorem d_M_areUnlike_20 : decode c_M_areUnlike 20 = .ok (.iload_n 2, 1) := by decide +kernel
theorem d_M_areUnlike_21 : decode c_M_areUnlike 21 = .ok (.ifCond .lt 26, 3) := by decide +kernel
theorem d_M_areUnlike_24 : decode c_M_areUnlike 24 = .ok (.iload_n 3, 1) := by decide +kernel
theorem d_M_areUnlike_25 : decode c_M_areUnlike 25 = .ok (.ifCond .lt 22, 3) := by decide +kernel
theorem d_M_areUnlike_28 : decode c_M_areUnlike 28 = .ok (.bipush 10, 2) := by decide +kernel
theorem d_M_areUnlike_30 : decode c_M_areUnlike 30 = .ok (.iload_n 2, 1) := by decide +kernel
theorem d_M_areUnlike_31 : decode c_M_areUnlike 31 = .ok (.iload_n 3, 1) := by decide +kernel
theorem d_M_areUnlike_32 : decode c_M_areUnlike 32 = .ok (.isub, 1) := by decide +kernel
theorem d_M_areUnlike_33 : decode c_M_areUnlike 33 = .ok (.invokestatic 94, 3) := by decide +kernel
theorem d_M_areUnlike_36 : decode c_M_areUnlike 36 = .ok (.imul, 1) := by decide +kernel
theorem d_M_areUnlike_37 : decode c_M_areUnlike 37 = .ok (.iload_n 2, 1) := by decide +kernel
theorem d_M_areUnlike_38 : decode c_M_areUnlike 38 = .ok (.iload_n 3, 1) := by decide +kernel
theorem d_M_areUnlike_39 : decode c_M_areUnlike 39 = .ok (.iadd, 1) := by decide +kernel
theorem d_M_areUnlike_40 : decode c_M_areUnlike 40 = .ok (.if_icmp .le 7, 3) := by decide +kernel
theorem d_M_areUnlike_43 : decode c_M_areUnlike 43 = .ok (.iconst 1, 1) := by decide +kernel
theorem d_M_areUnlike_44 : decode c_M_areUnlike 44 = .ok (.goto 4, 3) := by decide +kernel
theorem d_M_areUnlike_47 : decode c_M_areUnlike 47 = .ok (.iconst 0, 1) := by decide +kernel
theorem d_M_areUnlike_48 : decode c_M_areUnlike 48 = .ok (.ireturn, 1) := by decide +kernel
theorem d_M_reader_0 : decode c_M_reader 0 = .ok (.aload_n 0, 1) := by decide +kernel
theorem d_M_reader_1 : decode c_M_reader 1 = .ok (.iload_n 1, 1) := by decide +kernel
theorem d_M_reader_2 : decode c_M_reader 2 = .ok (.aload_n 0, 1) := by decide +kernel
theorem d_M_reader_3 : decode c_M_reader 3 = .ok (.getfield 63, 3) := by decide +kernel
theorem d_M_reader_6 : decode c_M_reader 6 = .ok (.invokestatic 59, 3) := by decide +kernel
theorem d_M_reader_9 : decode c_M_reader 9 = .ok (.ifCond .eq 11, 3) := by decide +kernel
theorem d_M_reader_12 : decode c_M_reader 12 = .ok (.iload_n 2, 1) := by decide +kernel
theorem d_M_reader_13 : decode c_M_reader 13 = .ok (.iconst 2, 1) := by decide +kernel
theorem d_M_reader_14 : decode c_M_reader 14 = .ok (.invokestatic 59, 3) := by decide +kernel
theorem d_M_reader_17 : decode c_M_reader 17 = .ok (.ifCond .ne 7, 3) := by decide +kernel
theorem d_M_reader_20 : decode c_M_reader 20 = .ok (.iconst 1, 1) := by decide +kernel
theorem d_M_reader_21 : decode c_M_reader 21 = .ok (.goto 18, 3) := by decide +kernel
theorem d_M_reader_24 : decode c_M_reader 24 = .ok (.iload_n 3, 1) := by decide +kernel
theorem d_M_reader_25 : decode c_M_reader 25 = .ok (.ifCond .lt 9, 3) := by decide +kernel
theorem d_M_reader_28 : decode c_M_reader 28 = .ok (.iload_n 3, 1) := by decide +kernel
theorem d_M_reader_29 : decode c_M_reader 29 = .ok (.ldc 97, 2) := by decide +kernel
theorem d_M_reader_31 : decode c_M_reader 31 = .ok (.if_icmp .le 7, 3) := by decide +kernel
theorem d_M_reader_34 : decode c_M_reader 34 = .ok (.iconst 2, 1) := by decide +kernel
end
section
theorem d_M_reader_35 : decode c_M_reader 35 = .ok (.goto 4, 3) := by decide +kernel
theorem d_M_reader_38 : decode c_M_reader 38 = .ok (.iconst 0, 1) := by decide +kernel
theorem d_M_reader_39 : decode c_M_reader 39 = .ok (.putfield 55, 3) := by decide +kernel
theorem d_M_reader_42 : decode c_M_reader 42 = .ok (.aload_n 0, 1) := by decide +kernel
theorem d_M_reader_43 : decode c_M_reader 43 = .ok (.getfield 55, 3) := by decide +kernel
theorem d_M_reader_46 : decode c_M_reader 46 = .ok (.ifCond .le 5, 3) := by decide +kernel
theorem d_M_reader_49 : decode c_M_reader 49 = .ok (.iconst 0, 1) := by decide +kernel
theorem d_M_reader_50 : decode c_M_reader 50 = .ok (.ireturn, 1) := by decide +kernel
theorem d_M_reader_51 : decode c_M_reader 51 = .ok (.aload_n 0, 1) := by decide +kernel
theorem d_M_reader_52 : decode c_M_reader 52 = .ok (.getfield 35, 3) := by decide +kernel
theorem d_M_reader_55 : decode c_M_reader 55 = .ok (.iconst 2, 1) := by decide +kernel
theorem d_M_reader_56 : decode c_M_reader 56 = .ok (.iload_n 1, 1) := by decide +kernel
theorem d_M_reader_57 : decode c_M_reader 57 = .ok (.imul, 1) := by decide +kernel
theorem d_M_reader_58 : decode c_M_reader 58 = .ok (.iload_n 2, 1) := by decide +kernel
theorem d_M_reader_59 : decode c_M_reader 59 = .ok (.iadd, 1) := by decide +kernel
theorem d_M_reader_60 : decode c_M_reader 60 = .ok (.iload_n 3, 1) := by decide +kernel
theorem d_M_reader_61 : decode c_M_reader 61 = .ok (.iastore, 1) := by decide +kernel
theorem d_M_reader_62 : decode c_M_reader 62 = .ok (.aload_n 0, 1) := by decide +kernel
theorem d_M_reader_63 : decode c_M_reader 63 = .ok (.iload_n 1, 1) := by decide +kernel
theorem d_M_reader_64 : decode c_M_reader 64 = .ok (.invokevirtual 112, 3) := by decide +kernel
theorem d_M_reader_67 : decode c_M_reader 67 = .ok (.ireturn, 1) := by decide +kernel
theorem d_M_unlike_0 : decode c_M_unlike 0 = .ok (.aload_n 0, 1) := by decide +kernel
theorem d_M_unlike_1 : decode c_M_unlike 1 = .ok (.iload_n 1, 1) := by decide +kernel
theorem d_M_unlike_2 : decode c_M_unlike 2 = .ok (.ifCond .lt 11, 3) := by decide +kernel
theorem d_M_unlike_5 : decode c_M_unlike 5 = .ok (.iload_n 1, 1) := by decide +kernel
theorem d_M_unlike_6 : decode c_M_unlike 6 = .ok (.aload_n 0, 1) := by decide +kernel
theorem d_M_unlike_7 : decode c_M_unlike 7 = .ok (.getfield 63, 3) := by decide +kernel
theorem d_M_unlike_10 : decode c_M_unlike 10 = .ok (.if_icmp .le 7, 3) := by decide +kernel
theorem d_M_unlike_13 : decode c_M_unlike 13 = .ok (.iconst 1, 1) := by decide +kernel
theorem d_M_unlike_14 : decode c_M_unlike 14 = .ok (.goto 4, 3) := by decide +kernel
theorem d_M_unlike_17 : decode c_M_unlike 17 = .ok (.iconst 0, 1) := by decide +kernel
theorem d_M_unlike_18 : decode c_M_unlike 18 = .ok (.putfield 55, 3) := by decide +kernel
theorem d_M_unlike_21 : decode c_M_unlike 21 = .ok (.iload_n 1, 1) := by decide +kernel
theorem d_M_unlike_22 : decode c_M_unlike 22 = .ok (.istore_n 2, 1) := by decide +kernel
theorem d_M_unlike_23 : decode c_M_unlike 23 = .ok (.iload_n 2, 1) := by decide +kernel
theorem d_M_unlike_24 : decode c_M_unlike 24 = .ok (.aload_n 0, 1) := by decide +kernel
theorem d_M_unlike_25 : decode c_M_unlike 25 = .ok (.getfield 63, 3) := by decide +kernel
theorem d_M_unlike_28 : decode c_M_unlike 28 = .ok (.if_icmp .ge 26, 3) := by decide +kernel
theorem d_M_unlike_31 : decode c_M_unlike 31 = .ok (.aload_n 0, 1) := by decide +kernel
theorem d_M_unlike_32 : decode c_M_unlike 32 = .ok (.getfield 55, 3) := by decide +kernel
theorem d_M_unlike_35 : decode c_M_unlike 35 = .ok (.ifCond .ne 19, 3) := by decide +kernel
theorem d_M_unlike_38 : decode c_M_unlike 38 = .ok (.aload_n 0, 1) := by decide +kernel
theorem d_M_unlike_39 : decode c_M_unlike 39 = .ok (.iload_n 2, 1) := by decide +kernel
theorem d_M_unlike_40 : decode c_M_unlike 40 = .ok (.invokevirtual 112, 3) := by decide +kernel
theorem d_M_unlike_43 : decode c_M_unlike 43 = .ok (.ifCond .eq 5, 3) := by decide +kernel
theorem d_M_unlike_46 : decode c_M_unlike 46 = .ok (.iload_n 2, 1) := by decide +kernel
theorem d_M_unlike_47 : decode c_M_unlike 47 = .ok (.ireturn, 1) := by decide +kernel
theorem d_M_unlike_48 : decode c_M_unlike 48 = .ok (.iinc 2 1, 3) := by decide +kernel
theorem d_M_unlike_51 : decode c_M_unlike 51 = .ok (.goto (-28), 3) := by decide +kernel
theorem d_M_unlike_54 : decode c_M_unlike 54 = .ok (.aload_n 0, 1) := by decide +kernel
theorem d_M_unlike_55 : decode c_M_unlike 55 = .ok (.getfield 55, 3) := by decide +kernel
theorem d_M_unlike_58 : decode c_M_unlike 58 = .ok (.ifCond .le 7, 3) := by decide +kernel
theorem d_M_unlike_61 : decode c_M_unlike 61 = .ok (.iconst 0, 1) := by decide +kernel
theorem d_M_unlike_62 : decode c_M_unlike 62 = .ok (.goto 4, 3) := by decide +kernel
theorem d_M_unlike_65 : decode c_M_unlike 65 = .ok (.iconst (-1), 1) := by decide +kernel
theorem d_M_unlike_66 : decode c_M_unlike 66 = .ok (.ireturn, 1) := by decide +kernel
theorem d_M_price_0 : decode c_M_price 0 = .ok (.aload_n 0, 1) := by decide +kernel
theorem d_M_price_1 : decode c_M_price 1 = .ok (.iload_n 1, 1) := by decide +kernel
theorem d_M_price_2 : decode c_M_price 2 = .ok (.iconst 3, 1) := by decide +kernel
theorem d_M_price_3 : decode c_M_price 3 = .ok (.invokestatic 59, 3) := by decide +kernel
theorem d_M_price_6 : decode c_M_price 6 = .ok (.ifCond .ne 7, 3) := by decide +kernel
theorem d_M_price_9 : decode c_M_price 9 = .ok (.iconst 1, 1) := by decide +kernel
theorem d_M_price_10 : decode c_M_price 10 = .ok (.goto 18, 3) := by decide +kernel
theorem d_M_price_13 : decode c_M_price 13 = .ok (.iload_n 2, 1) := by decide +kernel
theorem d_M_price_14 : decode c_M_price 14 = .ok (.ifCond .lt 9, 3) := by decide +kernel
theorem d_M_price_17 : decode c_M_price 17 = .ok (.iload_n 2, 1) := by decide +kernel
theorem d_M_price_18 : decode c_M_price 18 = .ok (.ldc 97, 2) := by decide +kernel
theorem d_M_price_20 : decode c_M_price 20 = .ok (.if_icmp .le 7, 3) := by decide +kernel
theorem d_M_price_23 : decode c_M_price 23 = .ok (.iconst 2, 1) := by decide +kernel
theorem d_M_price_24 : decode c_M_price 24 = .ok (.goto 4, 3) := by decide +kernel
theorem d_M_price_27 : decode c_M_price 27 = .ok (.iconst 0, 1) := by decide +kernel
theorem d_M_price_28 : decode c_M_price 28 = .ok (.putfield 55, 3) := by decide +kernel
theorem d_M_price_31 : decode c_M_price 31 = .ok (.aload_n 0, 1) := by decide +kernel
theorem d_M_price_32 : decode c_M_price 32 = .ok (.getfield 55, 3) := by decide +kernel
theorem d_M_price_35 : decode c_M_price 35 = .ok (.ifCond .ne 10, 3) := by decide +kernel
theorem d_M_price_38 : decode c_M_price 38 = .ok (.aload_n 0, 1) := by decide +kernel
theorem d_M_price_39 : decode c_M_price 39 = .ok (.getfield 38, 3) := by decide +kernel
theorem d_M_price_42 : decode c_M_price 42 = .ok (.iload_n 1, 1) := by decide +kernel
theorem d_M_price_43 : decode c_M_price 43 = .ok (.iload_n 2, 1) := by decide +kernel
theorem d_M_price_44 : decode c_M_price 44 = .ok (.iastore, 1) := by decide +kernel
theorem d_M_price_45 : decode c_M_price 45 = .ok (.return_, 1) := by decide +kernel
theorem d_M_lost_0 : decode c_M_lost 0 = .ok (.aload_n 0, 1) := by decide +kernel
theorem d_M_lost_1 : decode c_M_lost 1 = .ok (.iconst 0, 1) := by decide +kernel
theorem d_M_lost_2 : decode c_M_lost 2 = .ok (.putfield 55, 3) := by decide +kernel
theorem d_M_lost_5 : decode c_M_lost 5 = .ok (.lconst 0, 1) := by decide +kernel
theorem d_M_lost_6 : decode c_M_lost 6 = .ok (.lstore_n 1, 1) := by decide +kernel
theorem d_M_lost_7 : decode c_M_lost 7 = .ok (.iconst 0, 1) := by decide +kernel
theorem d_M_lost_8 : decode c_M_lost 8 = .ok (.istore_n 3, 1) := by decide +kernel
theorem d_M_lost_9 : decode c_M_lost 9 = .ok (.iload_n 3, 1) := by decide +kernel
theorem d_M_lost_10 : decode c_M_lost 10 = .ok (.iconst 3, 1) := by decide +kernel
theorem d_M_lost_11 : decode c_M_lost 11 = .ok (.if_icmp .ge 26, 3) := by decide +kernel
theorem d_M_lost_14 : decode c_M_lost 14 = .ok (.lload_n 1, 1) := by decide +kernel
theorem d_M_lost_15 : decode c_M_lost 15 = .ok (.aload_n 0, 1) := by decide +kernel
theorem d_M_lost_16 : decode c_M_lost 16 = .ok (.getfield 38, 3) := by decide +kernel
theorem d_M_lost_19 : decode c_M_lost 19 = .ok (.iload_n 3, 1) := by decide +kernel
theorem d_M_lost_20 : decode c_M_lost 20 = .ok (.iaload, 1) := by decide +kernel
theorem d_M_lost_21 : decode c_M_lost 21 = .ok (.i2l, 1) := by decide +kernel
theorem d_M_lost_22 : decode c_M_lost 22 = .ok (.aload_n 0, 1) := by decide +kernel
theorem d_M_lost_23 : decode c_M_lost 23 = .ok (.iload_n 3, 1) := by decide +kernel
theorem d_M_lost_24 : decode c_M_lost 24 = .ok (.invokevirtual 84, 3) := by decide +kernel
theorem d_M_lost_27 : decode c_M_lost 27 = .ok (.i2l, 1) := by decide +kernel
theorem d_M_lost_28 : decode c_M_lost 28 = .ok (.lmul, 1) := by decide +kernel
theorem d_M_lost_29 : decode c_M_lost 29 = .ok (.lsub, 1) := by decide +kernel
theorem d_M_lost_30 : decode c_M_lost 30 = .ok (.lstore_n 1, 1) := by decide +kernel
theorem d_M_lost_31 : decode c_M_lost 31 = .ok (.iinc 3 1, 3) := by decide +kernel
theorem d_M_lost_34 : decode c_M_lost 34 = .ok (.goto (-25), 3) := by decide +kernel
theorem d_M_lost_37 : decode c_M_lost 37 = .ok (.lload_n 1, 1) := by decide +kernel
theorem d_M_lost_38 : decode c_M_lost 38 = .ok (.lreturn, 1) := by decide +kernel
theorem d_L_cell_0 : decode c_L_cell 0 = .ok (.iload_n 1, 1) := by decide +kernel
theorem d_L_cell_1 : decode c_L_cell 1 = .ok (.aload_n 0, 1) := by decide +kernel
theorem d_L_cell_2 : decode c_L_cell 2 = .ok (.arraylength, 1) := by decide +kernel
theorem d_L_cell_3 : decode c_L_cell 3 = .ok (.if_icmp .ge 9, 3) := by decide +kernel
theorem d_L_cell_6 : decode c_L_cell 6 = .ok (.aload_n 0, 1) := by decide +kernel
theorem d_L_cell_7 : decode c_L_cell 7 = .ok (.iload_n 1, 1) := by decide +kernel
theorem d_L_cell_8 : decode c_L_cell 8 = .ok (.iaload, 1) := by decide +kernel
theorem d_L_cell_9 : decode c_L_cell 9 = .ok (.goto 4, 3) := by decide +kernel
theorem d_L_cell_12 : decode c_L_cell 12 = .ok (.iconst 0, 1) := by decide +kernel
theorem d_L_cell_13 : decode c_L_cell 13 = .ok (.ireturn, 1) := by decide +kernel
theorem d_L_haul_0 : decode c_L_haul 0 = .ok (.aload_n 2, 1) := by decide +kernel
theorem d_L_haul_1 : decode c_L_haul 1 = .ok (.iconst 0, 1) := by decide +kernel
theorem d_L_haul_2 : decode c_L_haul 2 = .ok (.aload_n 0, 1) := by decide +kernel
theorem d_L_haul_3 : decode c_L_haul 3 = .ok (.iload_n 1, 1) := by decide +kernel
theorem d_L_haul_4 : decode c_L_haul 4 = .ok (.invokevirtual 7, 3) := by decide +kernel
theorem d_L_haul_7 : decode c_L_haul 7 = .ok (.i2l, 1) := by decide +kernel
theorem d_L_haul_8 : decode c_L_haul 8 = .ok (.lastore, 1) := by decide +kernel
theorem d_L_haul_9 : decode c_L_haul 9 = .ok (.goto 9, 3) := by decide +kernel
theorem d_L_haul_12 : decode c_L_haul 12 = .ok (.astore_n 3, 1) := by decide +kernel
theorem d_L_haul_13 : decode c_L_haul 13 = .ok (.iconst 1, 1) := by decide +kernel
theorem d_L_haul_14 : decode c_L_haul 14 = .ok (.ireturn, 1) := by decide +kernel
theorem d_L_haul_15 : decode c_L_haul 15 = .ok (.astore_n 3, 1) := by decide +kernel
theorem d_L_haul_16 : decode c_L_haul 16 = .ok (.iconst 2, 1) := by decide +kernel
theorem d_L_haul_17 : decode c_L_haul 17 = .ok (.ireturn, 1) := by decide +kernel
theorem d_L_haul_18 : decode c_L_haul 18 = .ok (.iconst 0, 1) := by decide +kernel
theorem d_L_haul_19 : decode c_L_haul 19 = .ok (.ireturn, 1) := by decide +kernel
theorem d_L_caught_0 : decode c_L_caught 0 = .ok (.aload 4, 2) := by decide +kernel
theorem d_L_caught_2 : decode c_L_caught 2 = .ok (.iconst 0, 1) := by decide +kernel
theorem d_L_caught_3 : decode c_L_caught 3 = .ok (.aload_n 0, 1) := by decide +kernel
theorem d_L_caught_4 : decode c_L_caught 4 = .ok (.iload_n 1, 1) := by decide +kernel
theorem d_L_caught_5 : decode c_L_caught 5 = .ok (.iload_n 2, 1) := by decide +kernel
theorem d_L_caught_6 : decode c_L_caught 6 = .ok (.iload_n 3, 1) := by decide +kernel
theorem d_L_caught_7 : decode c_L_caught 7 = .ok (.invokevirtual 17, 3) := by decide +kernel
theorem d_L_caught_10 : decode c_L_caught 10 = .ok (.ifCond .eq 7, 3) := by decide +kernel
theorem d_L_caught_13 : decode c_L_caught 13 = .ok (.lconst 1, 1) := by decide +kernel
theorem d_L_caught_14 : decode c_L_caught 14 = .ok (.goto 4, 3) := by decide +kernel
theorem d_L_caught_17 : decode c_L_caught 17 = .ok (.lconst 0, 1) := by decide +kernel
theorem d_L_caught_18 : decode c_L_caught 18 = .ok (.lastore, 1) := by decide +kernel
theorem d_L_caught_19 : decode c_L_caught 19 = .ok (.goto 11, 3) := by decide +kernel
theorem d_L_caught_22 : decode c_L_caught 22 = .ok (.astore 5, 2) := by decide +kernel
theorem d_L_caught_24 : decode c_L_caught 24 = .ok (.iconst 1, 1) := by decide +kernel
theorem d_L_caught_25 : decode c_L_caught 25 = .ok (.ireturn, 1) := by decide +kernel
theorem d_L_caught_26 : decode c_L_caught 26 = .ok (.astore 5, 2) := by decide +kernel
theorem d_L_caught_28 : decode c_L_caught 28 = .ok (.iconst 2, 1) := by decide +kernel
theorem d_L_caught_29 : decode c_L_caught 29 = .ok (.ireturn, 1) := by decide +kernel
theorem d_L_caught_30 : decode c_L_caught 30 = .ok (.iconst 0, 1) := by decide +kernel
theorem d_L_caught_31 : decode c_L_caught 31 = .ok (.ireturn, 1) := by decide +kernel
theorem d_L_out_0 : decode c_L_out 0 = .ok (.aload_n 3, 1) := by decide +kernel
theorem d_L_out_1 : decode c_L_out 1 = .ok (.iconst 0, 1) := by decide +kernel
theorem d_L_out_2 : decode c_L_out 2 = .ok (.aload_n 0, 1) := by decide +kernel
theorem d_L_out_3 : decode c_L_out 3 = .ok (.iload_n 1, 1) := by decide +kernel
theorem d_L_out_4 : decode c_L_out 4 = .ok (.iload_n 2, 1) := by decide +kernel
theorem d_L_out_5 : decode c_L_out 5 = .ok (.invokevirtual 23, 3) := by decide +kernel
theorem d_L_out_8 : decode c_L_out 8 = .ok (.ifCond .eq 7, 3) := by decide +kernel
theorem d_L_out_11 : decode c_L_out 11 = .ok (.lconst 1, 1) := by decide +kernel
theorem d_L_out_12 : decode c_L_out 12 = .ok (.goto 4, 3) := by decide +kernel
theorem d_L_out_15 : decode c_L_out 15 = .ok (.lconst 0, 1) := by decide +kernel
theorem d_L_out_16 : decode c_L_out 16 = .ok (.lastore, 1) := by decide +kernel
theorem d_L_out_17 : decode c_L_out 17 = .ok (.goto 7, 3) := by decide +kernel
theorem d_L_out_20 : decode c_L_out 20 = .ok (.astore 4, 2) := by decide +kernel
theorem d_L_out_22 : decode c_L_out 22 = .ok (.iconst 1, 1) := by decide +kernel
theorem d_L_out_23 : decode c_L_out 23 = .ok (.ireturn, 1) := by decide +kernel
theorem d_L_out_24 : decode c_L_out 24 = .ok (.iconst 0, 1) := by decide +kernel
theorem d_L_out_25 : decode c_L_out 25 = .ok (.ireturn, 1) := by decide +kernel
theorem d_L_arm_0 : decode c_L_arm 0 = .ok (.aload_n 2, 1) := by decide +kernel
theorem d_L_arm_1 : decode c_L_arm 1 = .ok (.iconst 0, 1) := by decide +kernel
theorem d_L_arm_2 : decode c_L_arm 2 = .ok (.aload_n 0, 1) := by decide +kernel
theorem d_L_arm_3 : decode c_L_arm 3 = .ok (.iload_n 1, 1) := by decide +kernel
theorem d_L_arm_4 : decode c_L_arm 4 = .ok (.invokevirtual 27, 3) := by decide +kernel
theorem d_L_arm_7 : decode c_L_arm 7 = .ok (.i2l, 1) := by decide +kernel
theorem d_L_arm_8 : decode c_L_arm 8 = .ok (.lastore, 1) := by decide +kernel
theorem d_L_arm_9 : decode c_L_arm 9 = .ok (.goto 6, 3) := by decide +kernel
theorem d_L_arm_12 : decode c_L_arm 12 = .ok (.astore_n 3, 1) := by decide +kernel
theorem d_L_arm_13 : decode c_L_arm 13 = .ok (.iconst 1, 1) := by decide +kernel
theorem d_L_arm_14 : decode c_L_arm 14 = .ok (.ireturn, 1) := by decide +kernel
theorem d_L_arm_15 : decode c_L_arm 15 = .ok (.iconst 0, 1) := by decide +kernel
theorem d_L_arm_16 : decode c_L_arm 16 = .ok (.ireturn, 1) := by decide +kernel
theorem d_L_pair_0 : decode c_L_pair 0 = .ok (.aload_n 3, 1) := by decide +kernel
theorem d_L_pair_1 : decode c_L_pair 1 = .ok (.iconst 0, 1) := by decide +kernel
theorem d_L_pair_2 : decode c_L_pair 2 = .ok (.aload_n 0, 1) := by decide +kernel
theorem d_L_pair_3 : decode c_L_pair 3 = .ok (.iload_n 1, 1) := by decide +kernel
theorem d_L_pair_4 : decode c_L_pair 4 = .ok (.iload_n 2, 1) := by decide +kernel
theorem d_L_pair_5 : decode c_L_pair 5 = .ok (.invokevirtual 30, 3) := by decide +kernel
theorem d_L_pair_8 : decode c_L_pair 8 = .ok (.i2l, 1) := by decide +kernel
theorem d_L_pair_9 : decode c_L_pair 9 = .ok (.lastore, 1) := by decide +kernel
theorem d_L_pair_10 : decode c_L_pair 10 = .ok (.goto 7, 3) := by decide +kernel
theorem d_L_pair_13 : decode c_L_pair 13 = .ok (.astore 4, 2) := by decide +kernel
theorem d_L_pair_15 : decode c_L_pair 15 = .ok (.iconst 1, 1) := by decide +kernel
theorem d_L_pair_16 : decode c_L_pair 16 = .ok (.ireturn, 1) := by decide +kernel
theorem d_L_pair_17 : decode c_L_pair 17 = .ok (.iconst 0, 1) := by decide +kernel
theorem d_L_pair_18 : decode c_L_pair 18 = .ok (.ireturn, 1) := by decide +kernel
theorem d_L_difference_0 : decode c_L_difference 0 = .ok (.aload_n 3, 1) := by decide +kernel
theorem d_L_difference_1 : decode c_L_difference 1 = .ok (.iconst 0, 1) := by decide +kernel
theorem d_L_difference_2 : decode c_L_difference 2 = .ok (.aload_n 0, 1) := by decide +kernel
theorem d_L_difference_3 : decode c_L_difference 3 = .ok (.iload_n 1, 1) := by decide +kernel
theorem d_L_difference_4 : decode c_L_difference 4 = .ok (.iload_n 2, 1) := by decide +kernel
theorem d_L_difference_5 : decode c_L_difference 5 = .ok (.invokevirtual 34, 3) := by decide +kernel
theorem d_L_difference_8 : decode c_L_difference 8 = .ok (.i2l, 1) := by decide +kernel
theorem d_L_difference_9 : decode c_L_difference 9 = .ok (.lastore, 1) := by decide +kernel
theorem d_L_difference_10 : decode c_L_difference 10 = .ok (.goto 7, 3) := by decide +kernel
theorem d_L_difference_13 : decode c_L_difference 13 = .ok (.astore 4, 2) := by decide +kernel
theorem d_L_difference_15 : decode c_L_difference 15 = .ok (.iconst 1, 1) := by decide +kernel
theorem d_L_difference_16 : decode c_L_difference 16 = .ok (.ireturn, 1) := by decide +kernel
theorem d_L_difference_17 : decode c_L_difference 17 = .ok (.iconst 0, 1) := by decide +kernel
theorem d_L_difference_18 : decode c_L_difference 18 = .ok (.ireturn, 1) := by decide +kernel
theorem d_L_kept_0 : decode c_L_kept 0 = .ok (.aload_n 2, 1) := by decide +kernel
theorem d_L_kept_1 : decode c_L_kept 1 = .ok (.iconst 0, 1) := by decide +kernel
theorem d_L_kept_2 : decode c_L_kept 2 = .ok (.aload_n 0, 1) := by decide +kernel
theorem d_L_kept_3 : decode c_L_kept 3 = .ok (.iload_n 1, 1) := by decide +kernel
theorem d_L_kept_4 : decode c_L_kept 4 = .ok (.invokevirtual 37, 3) := by decide +kernel
theorem d_L_kept_7 : decode c_L_kept 7 = .ok (.i2l, 1) := by decide +kernel
theorem d_L_kept_8 : decode c_L_kept 8 = .ok (.lastore, 1) := by decide +kernel
theorem d_L_kept_9 : decode c_L_kept 9 = .ok (.goto 6, 3) := by decide +kernel
theorem d_L_kept_12 : decode c_L_kept 12 = .ok (.astore_n 3, 1) := by decide +kernel
theorem d_L_kept_13 : decode c_L_kept 13 = .ok (.iconst 1, 1) := by decide +kernel
theorem d_L_kept_14 : decode c_L_kept 14 = .ok (.ireturn, 1) := by decide +kernel
theorem d_L_kept_15 : decode c_L_kept 15 = .ok (.iconst 0, 1) := by decide +kernel
theorem d_L_kept_16 : decode c_L_kept 16 = .ok (.ireturn, 1) := by decide +kernel
theorem d_L_sum_0 : decode c_L_sum 0 = .ok (.aload_n 2, 1) := by decide +kernel
theorem d_L_sum_1 : decode c_L_sum 1 = .ok (.iconst 0, 1) := by decide +kernel
theorem d_L_sum_2 : decode c_L_sum 2 = .ok (.aload_n 0, 1) := by decide +kernel
theorem d_L_sum_3 : decode c_L_sum 3 = .ok (.iload_n 1, 1) := by decide +kernel
theorem d_L_sum_4 : decode c_L_sum 4 = .ok (.invokevirtual 40, 3) := by decide +kernel
theorem d_L_sum_7 : decode c_L_sum 7 = .ok (.i2l, 1) := by decide +kernel
theorem d_L_sum_8 : decode c_L_sum 8 = .ok (.lastore, 1) := by decide +kernel
theorem d_L_sum_9 : decode c_L_sum 9 = .ok (.goto 6, 3) := by decide +kernel
theorem d_L_sum_12 : decode c_L_sum 12 = .ok (.astore_n 3, 1) := by decide +kernel
theorem d_L_sum_13 : decode c_L_sum 13 = .ok (.iconst 1, 1) := by decide +kernel
theorem d_L_sum_14 : decode c_L_sum 14 = .ok (.ireturn, 1) := by decide +kernel
theorem d_L_sum_15 : decode c_L_sum 15 = .ok (.iconst 0, 1) := by decide +kernel
theorem d_L_sum_16 : decode c_L_sum 16 = .ok (.ireturn, 1) := by decide +kernel
theorem d_L_odds_0 : decode c_L_odds 0 = .ok (.aload_n 3, 1) := by decide +kernel
theorem d_L_odds_1 : decode c_L_odds 1 = .ok (.iconst 0, 1) := by decide +kernel
theorem d_L_odds_2 : decode c_L_odds 2 = .ok (.aload_n 0, 1) := by decide +kernel
theorem d_L_odds_3 : decode c_L_odds 3 = .ok (.iload_n 1, 1) := by decide +kernel
theorem d_L_odds_4 : decode c_L_odds 4 = .ok (.iload_n 2, 1) := by decide +kernel
theorem d_L_odds_5 : decode c_L_odds 5 = .ok (.invokevirtual 43, 3) := by decide +kernel
theorem d_L_odds_8 : decode c_L_odds 8 = .ok (.lastore, 1) := by decide +kernel
theorem d_L_odds_9 : decode c_L_odds 9 = .ok (.goto 7, 3) := by decide +kernel
theorem d_L_odds_12 : decode c_L_odds 12 = .ok (.astore 4, 2) := by decide +kernel
theorem d_L_odds_14 : decode c_L_odds 14 = .ok (.iconst 1, 1) := by decide +kernel
theorem d_L_odds_15 : decode c_L_odds 15 = .ok (.ireturn, 1) := by decide +kernel
theorem d_L_odds_16 : decode c_L_odds 16 = .ok (.iconst 0, 1) := by decide +kernel
theorem d_L_odds_17 : decode c_L_odds 17 = .ok (.ireturn, 1) := by decide +kernel
theorem d_L_rank_0 : decode c_L_rank 0 = .ok (.aload_n 3, 1) := by decide +kernel
theorem d_L_rank_1 : decode c_L_rank 1 = .ok (.iconst 0, 1) := by decide +kernel
theorem d_L_rank_2 : decode c_L_rank 2 = .ok (.aload_n 0, 1) := by decide +kernel
theorem d_L_rank_3 : decode c_L_rank 3 = .ok (.iload_n 1, 1) := by decide +kernel
theorem d_L_rank_4 : decode c_L_rank 4 = .ok (.iload_n 2, 1) := by decide +kernel
theorem d_L_rank_5 : decode c_L_rank 5 = .ok (.invokevirtual 47, 3) := by decide +kernel
theorem d_L_rank_8 : decode c_L_rank 8 = .ok (.i2l, 1) := by decide +kernel
theorem d_L_rank_9 : decode c_L_rank 9 = .ok (.lastore, 1) := by decide +kernel
theorem d_L_rank_10 : decode c_L_rank 10 = .ok (.goto 7, 3) := by decide +kernel
theorem d_L_rank_13 : decode c_L_rank 13 = .ok (.astore 4, 2) := by decide +kernel
theorem d_L_rank_15 : decode c_L_rank 15 = .ok (.iconst 1, 1) := by decide +kernel
theorem d_L_rank_16 : decode c_L_rank 16 = .ok (.ireturn, 1) := by decide +kernel
theorem d_L_rank_17 : decode c_L_rank 17 = .ok (.iconst 0, 1) := by decide +kernel
theorem d_L_rank_18 : decode c_L_rank 18 = .ok (.ireturn, 1) := by decide +kernel
theorem d_L_rankOdds_0 : decode c_L_rankOdds 0 = .ok (.aload_n 3, 1) := by decide +kernel
theorem d_L_rankOdds_1 : decode c_L_rankOdds 1 = .ok (.iconst 0, 1) := by decide +kernel
theorem d_L_rankOdds_2 : decode c_L_rankOdds 2 = .ok (.aload_n 0, 1) := by decide +kernel
theorem d_L_rankOdds_3 : decode c_L_rankOdds 3 = .ok (.iload_n 1, 1) := by decide +kernel
theorem d_L_rankOdds_4 : decode c_L_rankOdds 4 = .ok (.iload_n 2, 1) := by decide +kernel
theorem d_L_rankOdds_5 : decode c_L_rankOdds 5 = .ok (.invokevirtual 50, 3) := by decide +kernel
theorem d_L_rankOdds_8 : decode c_L_rankOdds 8 = .ok (.lastore, 1) := by decide +kernel
theorem d_L_rankOdds_9 : decode c_L_rankOdds 9 = .ok (.goto 7, 3) := by decide +kernel
theorem d_L_rankOdds_12 : decode c_L_rankOdds 12 = .ok (.astore 4, 2) := by decide +kernel
theorem d_L_rankOdds_14 : decode c_L_rankOdds 14 = .ok (.iconst 1, 1) := by decide +kernel
theorem d_L_rankOdds_15 : decode c_L_rankOdds 15 = .ok (.ireturn, 1) := by decide +kernel
theorem d_L_rankOdds_16 : decode c_L_rankOdds 16 = .ok (.iconst 0, 1) := by decide +kernel
theorem d_L_rankOdds_17 : decode c_L_rankOdds 17 = .ok (.ireturn, 1) := by decide +kernel
theorem d_L_stopped_0 : decode c_L_stopped 0 = .ok (.aload 4, 2) := by decide +kernel
theorem d_L_stopped_2 : decode c_L_stopped 2 = .ok (.iconst 0, 1) := by decide +kernel
theorem d_L_stopped_3 : decode c_L_stopped 3 = .ok (.aload_n 0, 1) := by decide +kernel
theorem d_L_stopped_4 : decode c_L_stopped 4 = .ok (.iload_n 1, 1) := by decide +kernel
theorem d_L_stopped_5 : decode c_L_stopped 5 = .ok (.iload_n 2, 1) := by decide +kernel
theorem d_L_stopped_6 : decode c_L_stopped 6 = .ok (.iload_n 3, 1) := by decide +kernel
theorem d_L_stopped_7 : decode c_L_stopped 7 = .ok (.invokevirtual 53, 3) := by decide +kernel
theorem d_L_stopped_10 : decode c_L_stopped 10 = .ok (.i2l, 1) := by decide +kernel
theorem d_L_stopped_11 : decode c_L_stopped 11 = .ok (.lastore, 1) := by decide +kernel
theorem d_L_stopped_12 : decode c_L_stopped 12 = .ok (.goto 11, 3) := by decide +kernel
theorem d_L_stopped_15 : decode c_L_stopped 15 = .ok (.astore 5, 2) := by decide +kernel
theorem d_L_stopped_17 : decode c_L_stopped 17 = .ok (.iconst 1, 1) := by decide +kernel
theorem d_L_stopped_18 : decode c_L_stopped 18 = .ok (.ireturn, 1) := by decide +kernel
theorem d_L_stopped_19 : decode c_L_stopped 19 = .ok (.astore 5, 2) := by decide +kernel
theorem d_L_stopped_21 : decode c_L_stopped 21 = .ok (.iconst 2, 1) := by decide +kernel
theorem d_L_stopped_22 : decode c_L_stopped 22 = .ok (.ireturn, 1) := by decide +kernel
theorem d_L_stopped_23 : decode c_L_stopped 23 = .ok (.iconst 0, 1) := by decide +kernel
theorem d_L_stopped_24 : decode c_L_stopped 24 = .ok (.ireturn, 1) := by decide +kernel
theorem d_L_crossing_0 : decode c_L_crossing 0 = .ok (.aload 5, 2) := by decide +kernel
theorem d_L_crossing_2 : decode c_L_crossing 2 = .ok (.iconst 0, 1) := by decide +kernel
theorem d_L_crossing_3 : decode c_L_crossing 3 = .ok (.aload_n 0, 1) := by decide +kernel
theorem d_L_crossing_4 : decode c_L_crossing 4 = .ok (.iload_n 1, 1) := by decide +kernel
theorem d_L_crossing_5 : decode c_L_crossing 5 = .ok (.iload_n 2, 1) := by decide +kernel
theorem d_L_crossing_6 : decode c_L_crossing 6 = .ok (.iload_n 3, 1) := by decide +kernel
theorem d_L_crossing_7 : decode c_L_crossing 7 = .ok (.iload 4, 2) := by decide +kernel
theorem d_L_crossing_9 : decode c_L_crossing 9 = .ok (.invokevirtual 57, 3) := by decide +kernel
theorem d_L_crossing_12 : decode c_L_crossing 12 = .ok (.lastore, 1) := by decide +kernel
theorem d_L_crossing_13 : decode c_L_crossing 13 = .ok (.goto 11, 3) := by decide +kernel
theorem d_L_crossing_16 : decode c_L_crossing 16 = .ok (.astore 6, 2) := by decide +kernel
theorem d_L_crossing_18 : decode c_L_crossing 18 = .ok (.iconst 1, 1) := by decide +kernel
theorem d_L_crossing_19 : decode c_L_crossing 19 = .ok (.ireturn, 1) := by decide +kernel
theorem d_L_crossing_20 : decode c_L_crossing 20 = .ok (.astore 6, 2) := by decide +kernel
theorem d_L_crossing_22 : decode c_L_crossing 22 = .ok (.iconst 2, 1) := by decide +kernel
theorem d_L_crossing_23 : decode c_L_crossing 23 = .ok (.ireturn, 1) := by decide +kernel
theorem d_L_crossing_24 : decode c_L_crossing 24 = .ok (.iconst 0, 1) := by decide +kernel
theorem d_L_crossing_25 : decode c_L_crossing 25 = .ok (.ireturn, 1) := by decide +kernel
theorem d_L_least_0 : decode c_L_least 0 = .ok (.aload 5, 2) := by decide +kernel
theorem d_L_least_2 : decode c_L_least 2 = .ok (.iconst 0, 1) := by decide +kernel
theorem d_L_least_3 : decode c_L_least 3 = .ok (.aload_n 0, 1) := by decide +kernel
theorem d_L_least_4 : decode c_L_least 4 = .ok (.iload_n 1, 1) := by decide +kernel
theorem d_L_least_5 : decode c_L_least 5 = .ok (.iload_n 2, 1) := by decide +kernel
theorem d_L_least_6 : decode c_L_least 6 = .ok (.iload_n 3, 1) := by decide +kernel
theorem d_L_least_7 : decode c_L_least 7 = .ok (.iload 4, 2) := by decide +kernel
theorem d_L_least_9 : decode c_L_least 9 = .ok (.invokevirtual 61, 3) := by decide +kernel
theorem d_L_least_12 : decode c_L_least 12 = .ok (.i2l, 1) := by decide +kernel
theorem d_L_least_13 : decode c_L_least 13 = .ok (.lastore, 1) := by decide +kernel
theorem d_L_least_14 : decode c_L_least 14 = .ok (.goto 7, 3) := by decide +kernel
theorem d_L_least_17 : decode c_L_least 17 = .ok (.astore 6, 2) := by decide +kernel
theorem d_L_least_19 : decode c_L_least 19 = .ok (.iconst 1, 1) := by decide +kernel
theorem d_L_least_20 : decode c_L_least 20 = .ok (.ireturn, 1) := by decide +kernel
theorem d_L_least_21 : decode c_L_least 21 = .ok (.iconst 0, 1) := by decide +kernel
theorem d_L_least_22 : decode c_L_least 22 = .ok (.ireturn, 1) := by decide +kernel
theorem d_L_mean_0 : decode c_L_mean 0 = .ok (.aload 4, 2) := by decide +kernel
theorem d_L_mean_2 : decode c_L_mean 2 = .ok (.iconst 0, 1) := by decide +kernel
theorem d_L_mean_3 : decode c_L_mean 3 = .ok (.aload_n 0, 1) := by decide +kernel
theorem d_L_mean_4 : decode c_L_mean 4 = .ok (.iload_n 1, 1) := by decide +kernel
theorem d_L_mean_5 : decode c_L_mean 5 = .ok (.iload_n 2, 1) := by decide +kernel
theorem d_L_mean_6 : decode c_L_mean 6 = .ok (.iload_n 3, 1) := by decide +kernel
theorem d_L_mean_7 : decode c_L_mean 7 = .ok (.invokevirtual 65, 3) := by decide +kernel
theorem d_L_mean_10 : decode c_L_mean 10 = .ok (.lastore, 1) := by decide +kernel
theorem d_L_mean_11 : decode c_L_mean 11 = .ok (.goto 7, 3) := by decide +kernel
theorem d_L_mean_14 : decode c_L_mean 14 = .ok (.astore 5, 2) := by decide +kernel
theorem d_L_mean_16 : decode c_L_mean 16 = .ok (.iconst 1, 1) := by decide +kernel
theorem d_L_mean_17 : decode c_L_mean 17 = .ok (.ireturn, 1) := by decide +kernel
theorem d_L_mean_18 : decode c_L_mean 18 = .ok (.iconst 0, 1) := by decide +kernel
theorem d_L_mean_19 : decode c_L_mean 19 = .ok (.ireturn, 1) := by decide +kernel
theorem d_L_weight_0 : decode c_L_weight 0 = .ok (.aload 4, 2) := by decide +kernel
theorem d_L_weight_2 : decode c_L_weight 2 = .ok (.iconst 0, 1) := by decide +kernel
theorem d_L_weight_3 : decode c_L_weight 3 = .ok (.aload_n 0, 1) := by decide +kernel
theorem d_L_weight_4 : decode c_L_weight 4 = .ok (.iload_n 1, 1) := by decide +kernel
theorem d_L_weight_5 : decode c_L_weight 5 = .ok (.iload_n 2, 1) := by decide +kernel
theorem d_L_weight_6 : decode c_L_weight 6 = .ok (.iload_n 3, 1) := by decide +kernel
theorem d_L_weight_7 : decode c_L_weight 7 = .ok (.invokevirtual 69, 3) := by decide +kernel
theorem d_L_weight_10 : decode c_L_weight 10 = .ok (.lastore, 1) := by decide +kernel
theorem d_L_weight_11 : decode c_L_weight 11 = .ok (.goto 7, 3) := by decide +kernel
theorem d_L_weight_14 : decode c_L_weight 14 = .ok (.astore 5, 2) := by decide +kernel
theorem d_L_weight_16 : decode c_L_weight 16 = .ok (.iconst 1, 1) := by decide +kernel
theorem d_L_weight_17 : decode c_L_weight 17 = .ok (.ireturn, 1) := by decide +kernel
theorem d_L_weight_18 : decode c_L_weight 18 = .ok (.iconst 0, 1) := by decide +kernel
theorem d_L_weight_19 : decode c_L_weight 19 = .ok (.ireturn, 1) := by decide +kernel
theorem d_L_joined_0 : decode c_L_joined 0 = .ok (.aload_n 3, 1) := by decide +kernel
theorem d_L_joined_1 : decode c_L_joined 1 = .ok (.iconst 0, 1) := by decide +kernel
theorem d_L_joined_2 : decode c_L_joined 2 = .ok (.aload_n 0, 1) := by decide +kernel
theorem d_L_joined_3 : decode c_L_joined 3 = .ok (.iload_n 1, 1) := by decide +kernel
theorem d_L_joined_4 : decode c_L_joined 4 = .ok (.iload_n 2, 1) := by decide +kernel
theorem d_L_joined_5 : decode c_L_joined 5 = .ok (.invokevirtual 72, 3) := by decide +kernel
theorem d_L_joined_8 : decode c_L_joined 8 = .ok (.lastore, 1) := by decide +kernel
theorem d_L_joined_9 : decode c_L_joined 9 = .ok (.goto 7, 3) := by decide +kernel
theorem d_L_joined_12 : decode c_L_joined 12 = .ok (.astore 4, 2) := by decide +kernel
theorem d_L_joined_14 : decode c_L_joined 14 = .ok (.iconst 1, 1) := by decide +kernel
theorem d_L_joined_15 : decode c_L_joined 15 = .ok (.ireturn, 1) := by decide +kernel
theorem d_L_joined_16 : decode c_L_joined 16 = .ok (.iconst 0, 1) := by decide +kernel
theorem d_L_joined_17 : decode c_L_joined 17 = .ok (.ireturn, 1) := by decide +kernel
theorem d_L_reader_0 : decode c_L_reader 0 = .ok (.aload 4, 2) := by decide +kernel
theorem d_L_reader_2 : decode c_L_reader 2 = .ok (.iconst 0, 1) := by decide +kernel
theorem d_L_reader_3 : decode c_L_reader 3 = .ok (.aload_n 0, 1) := by decide +kernel
theorem d_L_reader_4 : decode c_L_reader 4 = .ok (.iload_n 1, 1) := by decide +kernel
theorem d_L_reader_5 : decode c_L_reader 5 = .ok (.iload_n 2, 1) := by decide +kernel
theorem d_L_reader_6 : decode c_L_reader 6 = .ok (.iload_n 3, 1) := by decide +kernel
theorem d_L_reader_7 : decode c_L_reader 7 = .ok (.invokevirtual 75, 3) := by decide +kernel
theorem d_L_reader_10 : decode c_L_reader 10 = .ok (.ifCond .eq 7, 3) := by decide +kernel
theorem d_L_reader_13 : decode c_L_reader 13 = .ok (.lconst 1, 1) := by decide +kernel
theorem d_L_reader_14 : decode c_L_reader 14 = .ok (.goto 4, 3) := by decide +kernel
theorem d_L_reader_17 : decode c_L_reader 17 = .ok (.lconst 0, 1) := by decide +kernel
theorem d_L_reader_18 : decode c_L_reader 18 = .ok (.lastore, 1) := by decide +kernel
theorem d_L_reader_19 : decode c_L_reader 19 = .ok (.goto 11, 3) := by decide +kernel
theorem d_L_reader_22 : decode c_L_reader 22 = .ok (.astore 5, 2) := by decide +kernel
theorem d_L_reader_24 : decode c_L_reader 24 = .ok (.iconst 1, 1) := by decide +kernel
theorem d_L_reader_25 : decode c_L_reader 25 = .ok (.ireturn, 1) := by decide +kernel
theorem d_L_reader_26 : decode c_L_reader 26 = .ok (.astore 5, 2) := by decide +kernel
theorem d_L_reader_28 : decode c_L_reader 28 = .ok (.iconst 2, 1) := by decide +kernel
theorem d_L_reader_29 : decode c_L_reader 29 = .ok (.ireturn, 1) := by decide +kernel
theorem d_L_reader_30 : decode c_L_reader 30 = .ok (.iconst 0, 1) := by decide +kernel
theorem d_L_reader_31 : decode c_L_reader 31 = .ok (.ireturn, 1) := by decide +kernel
theorem d_L_unlike_0 : decode c_L_unlike 0 = .ok (.aload_n 2, 1) := by decide +kernel
theorem d_L_unlike_1 : decode c_L_unlike 1 = .ok (.iconst 0, 1) := by decide +kernel
theorem d_L_unlike_2 : decode c_L_unlike 2 = .ok (.aload_n 0, 1) := by decide +kernel
theorem d_L_unlike_3 : decode c_L_unlike 3 = .ok (.iload_n 1, 1) := by decide +kernel
theorem d_L_unlike_4 : decode c_L_unlike 4 = .ok (.invokevirtual 78, 3) := by decide +kernel
theorem d_L_unlike_7 : decode c_L_unlike 7 = .ok (.i2l, 1) := by decide +kernel
theorem d_L_unlike_8 : decode c_L_unlike 8 = .ok (.lastore, 1) := by decide +kernel
theorem d_L_unlike_9 : decode c_L_unlike 9 = .ok (.goto 6, 3) := by decide +kernel
theorem d_L_unlike_12 : decode c_L_unlike 12 = .ok (.astore_n 3, 1) := by decide +kernel
theorem d_L_unlike_13 : decode c_L_unlike 13 = .ok (.iconst 1, 1) := by decide +kernel
theorem d_L_unlike_14 : decode c_L_unlike 14 = .ok (.ireturn, 1) := by decide +kernel
theorem d_L_unlike_15 : decode c_L_unlike 15 = .ok (.iconst 0, 1) := by decide +kernel
theorem d_L_unlike_16 : decode c_L_unlike 16 = .ok (.ireturn, 1) := by decide +kernel
theorem d_L_price_0 : decode c_L_price 0 = .ok (.aload_n 0, 1) := by decide +kernel
theorem d_L_price_1 : decode c_L_price 1 = .ok (.iload_n 1, 1) := by decide +kernel
theorem d_L_price_2 : decode c_L_price 2 = .ok (.iload_n 2, 1) := by decide +kernel
theorem d_L_price_3 : decode c_L_price 3 = .ok (.invokevirtual 81, 3) := by decide +kernel
theorem d_L_price_6 : decode c_L_price 6 = .ok (.goto 9, 3) := by decide +kernel
theorem d_L_price_9 : decode c_L_price 9 = .ok (.astore_n 3, 1) := by decide +kernel
theorem d_L_price_10 : decode c_L_price 10 = .ok (.iconst 1, 1) := by decide +kernel
theorem d_L_price_11 : decode c_L_price 11 = .ok (.ireturn, 1) := by decide +kernel
theorem d_L_price_12 : decode c_L_price 12 = .ok (.astore_n 3, 1) := by decide +kernel
theorem d_L_price_13 : decode c_L_price 13 = .ok (.iconst 2, 1) := by decide +kernel
theorem d_L_price_14 : decode c_L_price 14 = .ok (.ireturn, 1) := by decide +kernel
theorem d_L_price_15 : decode c_L_price 15 = .ok (.iconst 0, 1) := by decide +kernel
theorem d_L_price_16 : decode c_L_price 16 = .ok (.ireturn, 1) := by decide +kernel
end
section
theorem d_L_law_0 : decode c_L_law 0 = .ok (.new 8, 3) := by decide +kernel
theorem d_L_law_3 : decode c_L_law 3 = .ok (.dup, 1) := by decide +kernel
theorem d_L_law_4 : decode c_L_law 4 = .ok (.aload_n 0, 1) := by decide +kernel
theorem d_L_law_5 : decode c_L_law 5 = .ok (.iconst 0, 1) := by decide +kernel
theorem d_L_law_6 : decode c_L_law 6 = .ok (.invokestatic 85, 3) := by decide +kernel
theorem d_L_law_9 : decode c_L_law 9 = .ok (.invokespecial 91, 3) := by decide +kernel
theorem d_L_law_12 : decode c_L_law 12 = .ok (.astore_n 1, 1) := by decide +kernel
theorem d_L_law_13 : decode c_L_law 13 = .ok (.new 94, 3) := by decide +kernel
theorem d_L_law_16 : decode c_L_law 16 = .ok (.dup, 1) := by decide +kernel
theorem d_L_law_17 : decode c_L_law 17 = .ok (.aload_n 0, 1) := by decide +kernel
theorem d_L_law_18 : decode c_L_law 18 = .ok (.iconst 0, 1) := by decide +kernel
theorem d_L_law_19 : decode c_L_law 19 = .ok (.invokestatic 85, 3) := by decide +kernel
theorem d_L_law_22 : decode c_L_law 22 = .ok (.invokespecial 96, 3) := by decide +kernel
theorem d_L_law_25 : decode c_L_law 25 = .ok (.astore_n 2, 1) := by decide +kernel
theorem d_L_law_26 : decode c_L_law 26 = .ok (.iconst 1, 1) := by decide +kernel
theorem d_L_law_27 : decode c_L_law 27 = .ok (.newarray .long, 2) := by decide +kernel
theorem d_L_law_29 : decode c_L_law 29 = .ok (.astore_n 3, 1) := by decide +kernel
theorem d_L_law_30 : decode c_L_law 30 = .ok (.iconst 1, 1) := by decide +kernel
theorem d_L_law_31 : decode c_L_law 31 = .ok (.istore 4, 2) := by decide +kernel
theorem d_L_law_33 : decode c_L_law 33 = .ok (.iload 4, 2) := by decide +kernel
theorem d_L_law_35 : decode c_L_law 35 = .ok (.aload_n 0, 1) := by decide +kernel
theorem d_L_law_36 : decode c_L_law 36 = .ok (.arraylength, 1) := by decide +kernel
theorem d_L_law_37 : decode c_L_law 37 = .ok (.iconst 5, 1) := by decide +kernel
theorem d_L_law_38 : decode c_L_law 38 = .ok (.isub, 1) := by decide +kernel
theorem d_L_law_39 : decode c_L_law 39 = .ok (.if_icmp .gt 1565, 3) := by decide +kernel
theorem d_L_law_42 : decode c_L_law 42 = .ok (.aload_n 0, 1) := by decide +kernel
theorem d_L_law_43 : decode c_L_law 43 = .ok (.iload 4, 2) := by decide +kernel
theorem d_L_law_45 : decode c_L_law 45 = .ok (.iaload, 1) := by decide +kernel
theorem d_L_law_46 : decode c_L_law 46 = .ok (.bipush 31, 2) := by decide +kernel
theorem d_L_law_48 : decode c_L_law 48 = .ok (.iand, 1) := by decide +kernel
theorem d_L_law_49 : decode c_L_law 49 = .ok (.tableswitch 1549 0 21 #[103, 159, 246, 337, 393, 461, 474, 542, 598, 654, 721, 789, 856, 936, 1027, 1119, 1198, 1277, 1344, 1431, 1487, 1535], 103) := by decide +kernel
theorem d_L_law_152 : decode c_L_law 152 = .ok (.aload_n 1, 1) := by decide +kernel
theorem d_L_law_153 : decode c_L_law 153 = .ok (.aload_n 0, 1) := by decide +kernel
theorem d_L_law_154 : decode c_L_law 154 = .ok (.iload 4, 2) := by decide +kernel
theorem d_L_law_156 : decode c_L_law 156 = .ok (.iconst 1, 1) := by decide +kernel
theorem d_L_law_157 : decode c_L_law 157 = .ok (.iadd, 1) := by decide +kernel
theorem d_L_law_158 : decode c_L_law 158 = .ok (.iaload, 1) := by decide +kernel
theorem d_L_law_159 : decode c_L_law 159 = .ok (.aload_n 3, 1) := by decide +kernel
theorem d_L_law_160 : decode c_L_law 160 = .ok (.invokestatic 97, 3) := by decide +kernel
theorem d_L_law_163 : decode c_L_law 163 = .ok (.istore 5, 2) := by decide +kernel
theorem d_L_law_165 : decode c_L_law 165 = .ok (.aload_n 2, 1) := by decide +kernel
theorem d_L_law_166 : decode c_L_law 166 = .ok (.aload_n 0, 1) := by decide +kernel
theorem d_L_law_167 : decode c_L_law 167 = .ok (.iload 4, 2) := by decide +kernel
theorem d_L_law_169 : decode c_L_law 169 = .ok (.iconst 1, 1) := by decide +kernel
theorem d_L_law_170 : decode c_L_law 170 = .ok (.iadd, 1) := by decide +kernel
theorem d_L_law_171 : decode c_L_law 171 = .ok (.iaload, 1) := by decide +kernel
theorem d_L_law_172 : decode c_L_law 172 = .ok (.invokevirtual 100, 3) := by decide +kernel
theorem d_L_law_175 : decode c_L_law 175 = .ok (.istore 6, 2) := by decide +kernel
theorem d_L_law_177 : decode c_L_law 177 = .ok (.aload_n 2, 1) := by decide +kernel
theorem d_L_law_178 : decode c_L_law 178 = .ok (.invokevirtual 101, 3) := by decide +kernel
theorem d_L_law_181 : decode c_L_law 181 = .ok (.iload 5, 2) := by decide +kernel
theorem d_L_law_183 : decode c_L_law 183 = .ok (.if_icmp .eq 5, 3) := by decide +kernel
theorem d_L_law_186 : decode c_L_law 186 = .ok (.iconst 0, 1) := by decide +kernel
theorem d_L_law_187 : decode c_L_law 187 = .ok (.ireturn, 1) := by decide +kernel
theorem d_L_law_188 : decode c_L_law 188 = .ok (.iload 5, 2) := by decide +kernel
theorem d_L_law_190 : decode c_L_law 190 = .ok (.ifCond .ne 15, 3) := by decide +kernel
theorem d_L_law_193 : decode c_L_law 193 = .ok (.aload_n 3, 1) := by decide +kernel
theorem d_L_law_194 : decode c_L_law 194 = .ok (.iconst 0, 1) := by decide +kernel
theorem d_L_law_195 : decode c_L_law 195 = .ok (.laload, 1) := by decide +kernel
theorem d_L_law_196 : decode c_L_law 196 = .ok (.iload 6, 2) := by decide +kernel
theorem d_L_law_198 : decode c_L_law 198 = .ok (.i2l, 1) := by decide +kernel
theorem d_L_law_199 : decode c_L_law 199 = .ok (.lcmp, 1) := by decide +kernel
theorem d_L_law_200 : decode c_L_law 200 = .ok (.ifCond .eq 5, 3) := by decide +kernel
theorem d_L_law_203 : decode c_L_law 203 = .ok (.iconst 0, 1) := by decide +kernel
theorem d_L_law_204 : decode c_L_law 204 = .ok (.ireturn, 1) := by decide +kernel
theorem d_L_law_205 : decode c_L_law 205 = .ok (.goto 1393, 3) := by decide +kernel
theorem d_L_law_208 : decode c_L_law 208 = .ok (.aload_n 1, 1) := by decide +kernel
theorem d_L_law_209 : decode c_L_law 209 = .ok (.aload_n 0, 1) := by decide +kernel
theorem d_L_law_210 : decode c_L_law 210 = .ok (.iload 4, 2) := by decide +kernel
theorem d_L_law_212 : decode c_L_law 212 = .ok (.iconst 1, 1) := by decide +kernel
theorem d_L_law_213 : decode c_L_law 213 = .ok (.iadd, 1) := by decide +kernel
theorem d_L_law_214 : decode c_L_law 214 = .ok (.iaload, 1) := by decide +kernel
theorem d_L_law_215 : decode c_L_law 215 = .ok (.aload_n 0, 1) := by decide +kernel
theorem d_L_law_216 : decode c_L_law 216 = .ok (.iload 4, 2) := by decide +kernel
theorem d_L_law_218 : decode c_L_law 218 = .ok (.iconst 2, 1) := by decide +kernel
theorem d_L_law_219 : decode c_L_law 219 = .ok (.iadd, 1) := by decide +kernel
theorem d_L_law_220 : decode c_L_law 220 = .ok (.iaload, 1) := by decide +kernel
theorem d_L_law_221 : decode c_L_law 221 = .ok (.aload_n 0, 1) := by decide +kernel
theorem d_L_law_222 : decode c_L_law 222 = .ok (.iload 4, 2) := by decide +kernel
theorem d_L_law_224 : decode c_L_law 224 = .ok (.iconst 3, 1) := by decide +kernel
theorem d_L_law_225 : decode c_L_law 225 = .ok (.iadd, 1) := by decide +kernel
theorem d_L_law_226 : decode c_L_law 226 = .ok (.iaload, 1) := by decide +kernel
theorem d_L_law_227 : decode c_L_law 227 = .ok (.aload_n 3, 1) := by decide +kernel
theorem d_L_law_228 : decode c_L_law 228 = .ok (.invokestatic 105, 3) := by decide +kernel
theorem d_L_law_231 : decode c_L_law 231 = .ok (.istore 5, 2) := by decide +kernel
theorem d_L_law_233 : decode c_L_law 233 = .ok (.aload_n 2, 1) := by decide +kernel
theorem d_L_law_234 : decode c_L_law 234 = .ok (.aload_n 0, 1) := by decide +kernel
theorem d_L_law_235 : decode c_L_law 235 = .ok (.iload 4, 2) := by decide +kernel
theorem d_L_law_237 : decode c_L_law 237 = .ok (.iconst 1, 1) := by decide +kernel
theorem d_L_law_238 : decode c_L_law 238 = .ok (.iadd, 1) := by decide +kernel
theorem d_L_law_239 : decode c_L_law 239 = .ok (.iaload, 1) := by decide +kernel
theorem d_L_law_240 : decode c_L_law 240 = .ok (.aload_n 0, 1) := by decide +kernel
theorem d_L_law_241 : decode c_L_law 241 = .ok (.iload 4, 2) := by decide +kernel
theorem d_L_law_243 : decode c_L_law 243 = .ok (.iconst 2, 1) := by decide +kernel
theorem d_L_law_244 : decode c_L_law 244 = .ok (.iadd, 1) := by decide +kernel
theorem d_L_law_245 : decode c_L_law 245 = .ok (.iaload, 1) := by decide +kernel
theorem d_L_law_246 : decode c_L_law 246 = .ok (.aload_n 0, 1) := by decide +kernel
theorem d_L_law_247 : decode c_L_law 247 = .ok (.iload 4, 2) := by decide +kernel
theorem d_L_law_249 : decode c_L_law 249 = .ok (.iconst 3, 1) := by decide +kernel
theorem d_L_law_250 : decode c_L_law 250 = .ok (.iadd, 1) := by decide +kernel
theorem d_L_law_251 : decode c_L_law 251 = .ok (.iaload, 1) := by decide +kernel
theorem d_L_law_252 : decode c_L_law 252 = .ok (.invokevirtual 108, 3) := by decide +kernel
theorem d_L_law_255 : decode c_L_law 255 = .ok (.istore 6, 2) := by decide +kernel
theorem d_L_law_257 : decode c_L_law 257 = .ok (.aload_n 2, 1) := by decide +kernel
theorem d_L_law_258 : decode c_L_law 258 = .ok (.invokevirtual 101, 3) := by decide +kernel
theorem d_L_law_261 : decode c_L_law 261 = .ok (.iload 5, 2) := by decide +kernel
theorem d_L_law_263 : decode c_L_law 263 = .ok (.if_icmp .eq 5, 3) := by decide +kernel
theorem d_L_law_266 : decode c_L_law 266 = .ok (.iconst 0, 1) := by decide +kernel
theorem d_L_law_267 : decode c_L_law 267 = .ok (.ireturn, 1) := by decide +kernel
theorem d_L_law_268 : decode c_L_law 268 = .ok (.iload 5, 2) := by decide +kernel
theorem d_L_law_270 : decode c_L_law 270 = .ok (.ifCond .ne 22, 3) := by decide +kernel
theorem d_L_law_273 : decode c_L_law 273 = .ok (.aload_n 3, 1) := by decide +kernel
theorem d_L_law_274 : decode c_L_law 274 = .ok (.iconst 0, 1) := by decide +kernel
theorem d_L_law_275 : decode c_L_law 275 = .ok (.laload, 1) := by decide +kernel
theorem d_L_law_276 : decode c_L_law 276 = .ok (.iload 6, 2) := by decide +kernel
theorem d_L_law_278 : decode c_L_law 278 = .ok (.ifCond .eq 7, 3) := by decide +kernel
theorem d_L_law_281 : decode c_L_law 281 = .ok (.lconst 1, 1) := by decide +kernel
theorem d_L_law_282 : decode c_L_law 282 = .ok (.goto 4, 3) := by decide +kernel
theorem d_L_law_285 : decode c_L_law 285 = .ok (.lconst 0, 1) := by decide +kernel
theorem d_L_law_286 : decode c_L_law 286 = .ok (.lcmp, 1) := by decide +kernel
theorem d_L_law_287 : decode c_L_law 287 = .ok (.ifCond .eq 5, 3) := by decide +kernel
theorem d_L_law_290 : decode c_L_law 290 = .ok (.iconst 0, 1) := by decide +kernel
theorem d_L_law_291 : decode c_L_law 291 = .ok (.ireturn, 1) := by decide +kernel
theorem d_L_law_292 : decode c_L_law 292 = .ok (.goto 1306, 3) := by decide +kernel
theorem d_L_law_295 : decode c_L_law 295 = .ok (.aload_n 1, 1) := by decide +kernel
theorem d_L_law_296 : decode c_L_law 296 = .ok (.aload_n 0, 1) := by decide +kernel
theorem d_L_law_297 : decode c_L_law 297 = .ok (.iload 4, 2) := by decide +kernel
theorem d_L_law_299 : decode c_L_law 299 = .ok (.iconst 1, 1) := by decide +kernel
theorem d_L_law_300 : decode c_L_law 300 = .ok (.iadd, 1) := by decide +kernel
theorem d_L_law_301 : decode c_L_law 301 = .ok (.iaload, 1) := by decide +kernel
theorem d_L_law_302 : decode c_L_law 302 = .ok (.aload_n 0, 1) := by decide +kernel
theorem d_L_law_303 : decode c_L_law 303 = .ok (.iload 4, 2) := by decide +kernel
theorem d_L_law_305 : decode c_L_law 305 = .ok (.iconst 2, 1) := by decide +kernel
theorem d_L_law_306 : decode c_L_law 306 = .ok (.iadd, 1) := by decide +kernel
theorem d_L_law_307 : decode c_L_law 307 = .ok (.iaload, 1) := by decide +kernel
theorem d_L_law_308 : decode c_L_law 308 = .ok (.ifCond .eq 7, 3) := by decide +kernel
theorem d_L_law_311 : decode c_L_law 311 = .ok (.iconst 1, 1) := by decide +kernel
theorem d_L_law_312 : decode c_L_law 312 = .ok (.goto 4, 3) := by decide +kernel
theorem d_L_law_315 : decode c_L_law 315 = .ok (.iconst 0, 1) := by decide +kernel
theorem d_L_law_316 : decode c_L_law 316 = .ok (.aload_n 3, 1) := by decide +kernel
theorem d_L_law_317 : decode c_L_law 317 = .ok (.invokestatic 109, 3) := by decide +kernel
theorem d_L_law_320 : decode c_L_law 320 = .ok (.istore 5, 2) := by decide +kernel
theorem d_L_law_322 : decode c_L_law 322 = .ok (.aload_n 2, 1) := by decide +kernel
theorem d_L_law_323 : decode c_L_law 323 = .ok (.aload_n 0, 1) := by decide +kernel
theorem d_L_law_324 : decode c_L_law 324 = .ok (.iload 4, 2) := by decide +kernel
theorem d_L_law_326 : decode c_L_law 326 = .ok (.iconst 1, 1) := by decide +kernel
theorem d_L_law_327 : decode c_L_law 327 = .ok (.iadd, 1) := by decide +kernel
theorem d_L_law_328 : decode c_L_law 328 = .ok (.iaload, 1) := by decide +kernel
theorem d_L_law_329 : decode c_L_law 329 = .ok (.aload_n 0, 1) := by decide +kernel
theorem d_L_law_330 : decode c_L_law 330 = .ok (.iload 4, 2) := by decide +kernel
theorem d_L_law_332 : decode c_L_law 332 = .ok (.iconst 2, 1) := by decide +kernel
theorem d_L_law_333 : decode c_L_law 333 = .ok (.iadd, 1) := by decide +kernel
theorem d_L_law_334 : decode c_L_law 334 = .ok (.iaload, 1) := by decide +kernel
theorem d_L_law_335 : decode c_L_law 335 = .ok (.ifCond .eq 7, 3) := by decide +kernel
theorem d_L_law_338 : decode c_L_law 338 = .ok (.iconst 1, 1) := by decide +kernel
theorem d_L_law_339 : decode c_L_law 339 = .ok (.goto 4, 3) := by decide +kernel
theorem d_L_law_342 : decode c_L_law 342 = .ok (.iconst 0, 1) := by decide +kernel
theorem d_L_law_343 : decode c_L_law 343 = .ok (.invokevirtual 112, 3) := by decide +kernel
theorem d_L_law_346 : decode c_L_law 346 = .ok (.istore 6, 2) := by decide +kernel
theorem d_L_law_348 : decode c_L_law 348 = .ok (.aload_n 2, 1) := by decide +kernel
theorem d_L_law_349 : decode c_L_law 349 = .ok (.invokevirtual 101, 3) := by decide +kernel
theorem d_L_law_352 : decode c_L_law 352 = .ok (.iload 5, 2) := by decide +kernel
theorem d_L_law_354 : decode c_L_law 354 = .ok (.if_icmp .eq 5, 3) := by decide +kernel
theorem d_L_law_357 : decode c_L_law 357 = .ok (.iconst 0, 1) := by decide +kernel
theorem d_L_law_358 : decode c_L_law 358 = .ok (.ireturn, 1) := by decide +kernel
theorem d_L_law_359 : decode c_L_law 359 = .ok (.iload 5, 2) := by decide +kernel
theorem d_L_law_361 : decode c_L_law 361 = .ok (.ifCond .ne 22, 3) := by decide +kernel
theorem d_L_law_364 : decode c_L_law 364 = .ok (.aload_n 3, 1) := by decide +kernel
theorem d_L_law_365 : decode c_L_law 365 = .ok (.iconst 0, 1) := by decide +kernel
theorem d_L_law_366 : decode c_L_law 366 = .ok (.laload, 1) := by decide +kernel
theorem d_L_law_367 : decode c_L_law 367 = .ok (.iload 6, 2) := by decide +kernel
theorem d_L_law_369 : decode c_L_law 369 = .ok (.ifCond .eq 7, 3) := by decide +kernel
theorem d_L_law_372 : decode c_L_law 372 = .ok (.lconst 1, 1) := by decide +kernel
theorem d_L_law_373 : decode c_L_law 373 = .ok (.goto 4, 3) := by decide +kernel
theorem d_L_law_376 : decode c_L_law 376 = .ok (.lconst 0, 1) := by decide +kernel
theorem d_L_law_377 : decode c_L_law 377 = .ok (.lcmp, 1) := by decide +kernel
theorem d_L_law_378 : decode c_L_law 378 = .ok (.ifCond .eq 5, 3) := by decide +kernel
theorem d_L_law_381 : decode c_L_law 381 = .ok (.iconst 0, 1) := by decide +kernel
theorem d_L_law_382 : decode c_L_law 382 = .ok (.ireturn, 1) := by decide +kernel
theorem d_L_law_383 : decode c_L_law 383 = .ok (.goto 1215, 3) := by decide +kernel
theorem d_L_law_386 : decode c_L_law 386 = .ok (.aload_n 1, 1) := by decide +kernel
theorem d_L_law_387 : decode c_L_law 387 = .ok (.aload_n 0, 1) := by decide +kernel
theorem d_L_law_388 : decode c_L_law 388 = .ok (.iload 4, 2) := by decide +kernel
theorem d_L_law_390 : decode c_L_law 390 = .ok (.iconst 1, 1) := by decide +kernel
theorem d_L_law_391 : decode c_L_law 391 = .ok (.iadd, 1) := by decide +kernel
theorem d_L_law_392 : decode c_L_law 392 = .ok (.iaload, 1) := by decide +kernel
theorem d_L_law_393 : decode c_L_law 393 = .ok (.aload_n 3, 1) := by decide +kernel
theorem d_L_law_394 : decode c_L_law 394 = .ok (.invokestatic 113, 3) := by decide +kernel
theorem d_L_law_397 : decode c_L_law 397 = .ok (.istore 5, 2) := by decide +kernel
theorem d_L_law_399 : decode c_L_law 399 = .ok (.aload_n 2, 1) := by decide +kernel
theorem d_L_law_400 : decode c_L_law 400 = .ok (.aload_n 0, 1) := by decide +kernel
theorem d_L_law_401 : decode c_L_law 401 = .ok (.iload 4, 2) := by decide +kernel
theorem d_L_law_403 : decode c_L_law 403 = .ok (.iconst 1, 1) := by decide +kernel
theorem d_L_law_404 : decode c_L_law 404 = .ok (.iadd, 1) := by decide +kernel
theorem d_L_law_405 : decode c_L_law 405 = .ok (.iaload, 1) := by decide +kernel
theorem d_L_law_406 : decode c_L_law 406 = .ok (.invokevirtual 115, 3) := by decide +kernel
theorem d_L_law_409 : decode c_L_law 409 = .ok (.istore 6, 2) := by decide +kernel
theorem d_L_law_411 : decode c_L_law 411 = .ok (.aload_n 2, 1) := by decide +kernel
theorem d_L_law_412 : decode c_L_law 412 = .ok (.invokevirtual 101, 3) := by decide +kernel
theorem d_L_law_415 : decode c_L_law 415 = .ok (.iload 5, 2) := by decide +kernel
theorem d_L_law_417 : decode c_L_law 417 = .ok (.if_icmp .eq 5, 3) := by decide +kernel
theorem d_L_law_420 : decode c_L_law 420 = .ok (.iconst 0, 1) := by decide +kernel
theorem d_L_law_421 : decode c_L_law 421 = .ok (.ireturn, 1) := by decide +kernel
theorem d_L_law_422 : decode c_L_law 422 = .ok (.iload 5, 2) := by decide +kernel
theorem d_L_law_424 : decode c_L_law 424 = .ok (.ifCond .ne 15, 3) := by decide +kernel
theorem d_L_law_427 : decode c_L_law 427 = .ok (.aload_n 3, 1) := by decide +kernel
theorem d_L_law_428 : decode c_L_law 428 = .ok (.iconst 0, 1) := by decide +kernel
theorem d_L_law_429 : decode c_L_law 429 = .ok (.laload, 1) := by decide +kernel
theorem d_L_law_430 : decode c_L_law 430 = .ok (.iload 6, 2) := by decide +kernel
theorem d_L_law_432 : decode c_L_law 432 = .ok (.i2l, 1) := by decide +kernel
theorem d_L_law_433 : decode c_L_law 433 = .ok (.lcmp, 1) := by decide +kernel
theorem d_L_law_434 : decode c_L_law 434 = .ok (.ifCond .eq 5, 3) := by decide +kernel
theorem d_L_law_437 : decode c_L_law 437 = .ok (.iconst 0, 1) := by decide +kernel
theorem d_L_law_438 : decode c_L_law 438 = .ok (.ireturn, 1) := by decide +kernel
theorem d_L_law_439 : decode c_L_law 439 = .ok (.goto 1159, 3) := by decide +kernel
theorem d_L_law_442 : decode c_L_law 442 = .ok (.aload_n 1, 1) := by decide +kernel
theorem d_L_law_443 : decode c_L_law 443 = .ok (.aload_n 0, 1) := by decide +kernel
theorem d_L_law_444 : decode c_L_law 444 = .ok (.iload 4, 2) := by decide +kernel
theorem d_L_law_446 : decode c_L_law 446 = .ok (.iconst 1, 1) := by decide +kernel
theorem d_L_law_447 : decode c_L_law 447 = .ok (.iadd, 1) := by decide +kernel
theorem d_L_law_448 : decode c_L_law 448 = .ok (.iaload, 1) := by decide +kernel
theorem d_L_law_449 : decode c_L_law 449 = .ok (.aload_n 0, 1) := by decide +kernel
theorem d_L_law_450 : decode c_L_law 450 = .ok (.iload 4, 2) := by decide +kernel
theorem d_L_law_452 : decode c_L_law 452 = .ok (.iconst 2, 1) := by decide +kernel
theorem d_L_law_453 : decode c_L_law 453 = .ok (.iadd, 1) := by decide +kernel
theorem d_L_law_454 : decode c_L_law 454 = .ok (.iaload, 1) := by decide +kernel
theorem d_L_law_455 : decode c_L_law 455 = .ok (.aload_n 3, 1) := by decide +kernel
theorem d_L_law_456 : decode c_L_law 456 = .ok (.invokestatic 116, 3) := by decide +kernel
theorem d_L_law_459 : decode c_L_law 459 = .ok (.istore 5, 2) := by decide +kernel
theorem d_L_law_461 : decode c_L_law 461 = .ok (.aload_n 2, 1) := by decide +kernel
theorem d_L_law_462 : decode c_L_law 462 = .ok (.aload_n 0, 1) := by decide +kernel
theorem d_L_law_463 : decode c_L_law 463 = .ok (.iload 4, 2) := by decide +kernel
theorem d_L_law_465 : decode c_L_law 465 = .ok (.iconst 1, 1) := by decide +kernel
theorem d_L_law_466 : decode c_L_law 466 = .ok (.iadd, 1) := by decide +kernel
theorem d_L_law_467 : decode c_L_law 467 = .ok (.iaload, 1) := by decide +kernel
theorem d_L_law_468 : decode c_L_law 468 = .ok (.aload_n 0, 1) := by decide +kernel
theorem d_L_law_469 : decode c_L_law 469 = .ok (.iload 4, 2) := by decide +kernel
theorem d_L_law_471 : decode c_L_law 471 = .ok (.iconst 2, 1) := by decide +kernel
theorem d_L_law_472 : decode c_L_law 472 = .ok (.iadd, 1) := by decide +kernel
theorem d_L_law_473 : decode c_L_law 473 = .ok (.iaload, 1) := by decide +kernel
theorem d_L_law_474 : decode c_L_law 474 = .ok (.invokevirtual 119, 3) := by decide +kernel
theorem d_L_law_477 : decode c_L_law 477 = .ok (.istore 6, 2) := by decide +kernel
theorem d_L_law_479 : decode c_L_law 479 = .ok (.aload_n 2, 1) := by decide +kernel
theorem d_L_law_480 : decode c_L_law 480 = .ok (.invokevirtual 101, 3) := by decide +kernel
theorem d_L_law_483 : decode c_L_law 483 = .ok (.iload 5, 2) := by decide +kernel
theorem d_L_law_485 : decode c_L_law 485 = .ok (.if_icmp .eq 5, 3) := by decide +kernel
theorem d_L_law_488 : decode c_L_law 488 = .ok (.iconst 0, 1) := by decide +kernel
theorem d_L_law_489 : decode c_L_law 489 = .ok (.ireturn, 1) := by decide +kernel
theorem d_L_law_490 : decode c_L_law 490 = .ok (.iload 5, 2) := by decide +kernel
theorem d_L_law_492 : decode c_L_law 492 = .ok (.ifCond .ne 15, 3) := by decide +kernel
end
section
theorem d_L_law_495 : decode c_L_law 495 = .ok (.aload_n 3, 1) := by decide +kernel
theorem d_L_law_496 : decode c_L_law 496 = .ok (.iconst 0, 1) := by decide +kernel
theorem d_L_law_497 : decode c_L_law 497 = .ok (.laload, 1) := by decide +kernel
theorem d_L_law_498 : decode c_L_law 498 = .ok (.iload 6, 2) := by decide +kernel
theorem d_L_law_500 : decode c_L_law 500 = .ok (.i2l, 1) := by decide +kernel
theorem d_L_law_501 : decode c_L_law 501 = .ok (.lcmp, 1) := by decide +kernel
theorem d_L_law_502 : decode c_L_law 502 = .ok (.ifCond .eq 5, 3) := by decide +kernel
theorem d_L_law_505 : decode c_L_law 505 = .ok (.iconst 0, 1) := by decide +kernel
theorem d_L_law_506 : decode c_L_law 506 = .ok (.ireturn, 1) := by decide +kernel
theorem d_L_law_507 : decode c_L_law 507 = .ok (.goto 1091, 3) := by decide +kernel
theorem d_L_law_510 : decode c_L_law 510 = .ok (.aload_n 1, 1) := by decide +kernel
theorem d_L_law_511 : decode c_L_law 511 = .ok (.invokevirtual 120, 3) := by decide +kernel
theorem d_L_law_514 : decode c_L_law 514 = .ok (.aload_n 2, 1) := by decide +kernel
theorem d_L_law_515 : decode c_L_law 515 = .ok (.invokevirtual 123, 3) := by decide +kernel
theorem d_L_law_518 : decode c_L_law 518 = .ok (.if_icmp .eq 1080, 3) := by decide +kernel
theorem d_L_law_521 : decode c_L_law 521 = .ok (.iconst 0, 1) := by decide +kernel
theorem d_L_law_522 : decode c_L_law 522 = .ok (.ireturn, 1) := by decide +kernel
theorem d_L_law_523 : decode c_L_law 523 = .ok (.aload_n 1, 1) := by decide +kernel
theorem d_L_law_524 : decode c_L_law 524 = .ok (.aload_n 0, 1) := by decide +kernel
theorem d_L_law_525 : decode c_L_law 525 = .ok (.iload 4, 2) := by decide +kernel
theorem d_L_law_527 : decode c_L_law 527 = .ok (.iconst 1, 1) := by decide +kernel
theorem d_L_law_528 : decode c_L_law 528 = .ok (.iadd, 1) := by decide +kernel
theorem d_L_law_529 : decode c_L_law 529 = .ok (.iaload, 1) := by decide +kernel
theorem d_L_law_530 : decode c_L_law 530 = .ok (.aload_n 0, 1) := by decide +kernel
theorem d_L_law_531 : decode c_L_law 531 = .ok (.iload 4, 2) := by decide +kernel
theorem d_L_law_533 : decode c_L_law 533 = .ok (.iconst 2, 1) := by decide +kernel
theorem d_L_law_534 : decode c_L_law 534 = .ok (.iadd, 1) := by decide +kernel
theorem d_L_law_535 : decode c_L_law 535 = .ok (.iaload, 1) := by decide +kernel
theorem d_L_law_536 : decode c_L_law 536 = .ok (.aload_n 3, 1) := by decide +kernel
theorem d_L_law_537 : decode c_L_law 537 = .ok (.invokestatic 124, 3) := by decide +kernel
theorem d_L_law_540 : decode c_L_law 540 = .ok (.istore 5, 2) := by decide +kernel
theorem d_L_law_542 : decode c_L_law 542 = .ok (.aload_n 2, 1) := by decide +kernel
theorem d_L_law_543 : decode c_L_law 543 = .ok (.aload_n 0, 1) := by decide +kernel
theorem d_L_law_544 : decode c_L_law 544 = .ok (.iload 4, 2) := by decide +kernel
theorem d_L_law_546 : decode c_L_law 546 = .ok (.iconst 1, 1) := by decide +kernel
theorem d_L_law_547 : decode c_L_law 547 = .ok (.iadd, 1) := by decide +kernel
theorem d_L_law_548 : decode c_L_law 548 = .ok (.iaload, 1) := by decide +kernel
theorem d_L_law_549 : decode c_L_law 549 = .ok (.aload_n 0, 1) := by decide +kernel
theorem d_L_law_550 : decode c_L_law 550 = .ok (.iload 4, 2) := by decide +kernel
theorem d_L_law_552 : decode c_L_law 552 = .ok (.iconst 2, 1) := by decide +kernel
theorem d_L_law_553 : decode c_L_law 553 = .ok (.iadd, 1) := by decide +kernel
theorem d_L_law_554 : decode c_L_law 554 = .ok (.iaload, 1) := by decide +kernel
theorem d_L_law_555 : decode c_L_law 555 = .ok (.invokevirtual 126, 3) := by decide +kernel
theorem d_L_law_558 : decode c_L_law 558 = .ok (.istore 6, 2) := by decide +kernel
theorem d_L_law_560 : decode c_L_law 560 = .ok (.aload_n 2, 1) := by decide +kernel
theorem d_L_law_561 : decode c_L_law 561 = .ok (.invokevirtual 101, 3) := by decide +kernel
theorem d_L_law_564 : decode c_L_law 564 = .ok (.iload 5, 2) := by decide +kernel
theorem d_L_law_566 : decode c_L_law 566 = .ok (.if_icmp .eq 5, 3) := by decide +kernel
theorem d_L_law_569 : decode c_L_law 569 = .ok (.iconst 0, 1) := by decide +kernel
theorem d_L_law_570 : decode c_L_law 570 = .ok (.ireturn, 1) := by decide +kernel
theorem d_L_law_571 : decode c_L_law 571 = .ok (.iload 5, 2) := by decide +kernel
theorem d_L_law_573 : decode c_L_law 573 = .ok (.ifCond .ne 15, 3) := by decide +kernel
theorem d_L_law_576 : decode c_L_law 576 = .ok (.aload_n 3, 1) := by decide +kernel
theorem d_L_law_577 : decode c_L_law 577 = .ok (.iconst 0, 1) := by decide +kernel
theorem d_L_law_578 : decode c_L_law 578 = .ok (.laload, 1) := by decide +kernel
theorem d_L_law_579 : decode c_L_law 579 = .ok (.iload 6, 2) := by decide +kernel
theorem d_L_law_581 : decode c_L_law 581 = .ok (.i2l, 1) := by decide +kernel
theorem d_L_law_582 : decode c_L_law 582 = .ok (.lcmp, 1) := by decide +kernel
theorem d_L_law_583 : decode c_L_law 583 = .ok (.ifCond .eq 5, 3) := by decide +kernel
theorem d_L_law_586 : decode c_L_law 586 = .ok (.iconst 0, 1) := by decide +kernel
theorem d_L_law_587 : decode c_L_law 587 = .ok (.ireturn, 1) := by decide +kernel
theorem d_L_law_588 : decode c_L_law 588 = .ok (.goto 1010, 3) := by decide +kernel
theorem d_L_law_591 : decode c_L_law 591 = .ok (.aload_n 1, 1) := by decide +kernel
theorem d_L_law_592 : decode c_L_law 592 = .ok (.aload_n 0, 1) := by decide +kernel
theorem d_L_law_593 : decode c_L_law 593 = .ok (.iload 4, 2) := by decide +kernel
theorem d_L_law_595 : decode c_L_law 595 = .ok (.iconst 1, 1) := by decide +kernel
theorem d_L_law_596 : decode c_L_law 596 = .ok (.iadd, 1) := by decide +kernel
theorem d_L_law_597 : decode c_L_law 597 = .ok (.iaload, 1) := by decide +kernel
theorem d_L_law_598 : decode c_L_law 598 = .ok (.aload_n 3, 1) := by decide +kernel
theorem d_L_law_599 : decode c_L_law 599 = .ok (.invokestatic 127, 3) := by decide +kernel
theorem d_L_law_602 : decode c_L_law 602 = .ok (.istore 5, 2) := by decide +kernel
theorem d_L_law_604 : decode c_L_law 604 = .ok (.aload_n 2, 1) := by decide +kernel
theorem d_L_law_605 : decode c_L_law 605 = .ok (.aload_n 0, 1) := by decide +kernel
theorem d_L_law_606 : decode c_L_law 606 = .ok (.iload 4, 2) := by decide +kernel
theorem d_L_law_608 : decode c_L_law 608 = .ok (.iconst 1, 1) := by decide +kernel
theorem d_L_law_609 : decode c_L_law 609 = .ok (.iadd, 1) := by decide +kernel
theorem d_L_law_610 : decode c_L_law 610 = .ok (.iaload, 1) := by decide +kernel
theorem d_L_law_611 : decode c_L_law 611 = .ok (.invokevirtual 129, 3) := by decide +kernel
theorem d_L_law_614 : decode c_L_law 614 = .ok (.istore 6, 2) := by decide +kernel
theorem d_L_law_616 : decode c_L_law 616 = .ok (.aload_n 2, 1) := by decide +kernel
theorem d_L_law_617 : decode c_L_law 617 = .ok (.invokevirtual 101, 3) := by decide +kernel
theorem d_L_law_620 : decode c_L_law 620 = .ok (.iload 5, 2) := by decide +kernel
theorem d_L_law_622 : decode c_L_law 622 = .ok (.if_icmp .eq 5, 3) := by decide +kernel
theorem d_L_law_625 : decode c_L_law 625 = .ok (.iconst 0, 1) := by decide +kernel
theorem d_L_law_626 : decode c_L_law 626 = .ok (.ireturn, 1) := by decide +kernel
theorem d_L_law_627 : decode c_L_law 627 = .ok (.iload 5, 2) := by decide +kernel
theorem d_L_law_629 : decode c_L_law 629 = .ok (.ifCond .ne 15, 3) := by decide +kernel
theorem d_L_law_632 : decode c_L_law 632 = .ok (.aload_n 3, 1) := by decide +kernel
theorem d_L_law_633 : decode c_L_law 633 = .ok (.iconst 0, 1) := by decide +kernel
theorem d_L_law_634 : decode c_L_law 634 = .ok (.laload, 1) := by decide +kernel
theorem d_L_law_635 : decode c_L_law 635 = .ok (.iload 6, 2) := by decide +kernel
theorem d_L_law_637 : decode c_L_law 637 = .ok (.i2l, 1) := by decide +kernel
theorem d_L_law_638 : decode c_L_law 638 = .ok (.lcmp, 1) := by decide +kernel
theorem d_L_law_639 : decode c_L_law 639 = .ok (.ifCond .eq 5, 3) := by decide +kernel
theorem d_L_law_642 : decode c_L_law 642 = .ok (.iconst 0, 1) := by decide +kernel
theorem d_L_law_643 : decode c_L_law 643 = .ok (.ireturn, 1) := by decide +kernel
theorem d_L_law_644 : decode c_L_law 644 = .ok (.goto 954, 3) := by decide +kernel
theorem d_L_law_647 : decode c_L_law 647 = .ok (.aload_n 1, 1) := by decide +kernel
theorem d_L_law_648 : decode c_L_law 648 = .ok (.aload_n 0, 1) := by decide +kernel
theorem d_L_law_649 : decode c_L_law 649 = .ok (.iload 4, 2) := by decide +kernel
theorem d_L_law_651 : decode c_L_law 651 = .ok (.iconst 1, 1) := by decide +kernel
theorem d_L_law_652 : decode c_L_law 652 = .ok (.iadd, 1) := by decide +kernel
theorem d_L_law_653 : decode c_L_law 653 = .ok (.iaload, 1) := by decide +kernel
theorem d_L_law_654 : decode c_L_law 654 = .ok (.aload_n 3, 1) := by decide +kernel
theorem d_L_law_655 : decode c_L_law 655 = .ok (.invokestatic 130, 3) := by decide +kernel
theorem d_L_law_658 : decode c_L_law 658 = .ok (.istore 5, 2) := by decide +kernel
theorem d_L_law_660 : decode c_L_law 660 = .ok (.aload_n 2, 1) := by decide +kernel
theorem d_L_law_661 : decode c_L_law 661 = .ok (.aload_n 0, 1) := by decide +kernel
theorem d_L_law_662 : decode c_L_law 662 = .ok (.iload 4, 2) := by decide +kernel
theorem d_L_law_664 : decode c_L_law 664 = .ok (.iconst 1, 1) := by decide +kernel
theorem d_L_law_665 : decode c_L_law 665 = .ok (.iadd, 1) := by decide +kernel
theorem d_L_law_666 : decode c_L_law 666 = .ok (.iaload, 1) := by decide +kernel
theorem d_L_law_667 : decode c_L_law 667 = .ok (.invokevirtual 132, 3) := by decide +kernel
theorem d_L_law_670 : decode c_L_law 670 = .ok (.istore 6, 2) := by decide +kernel
theorem d_L_law_672 : decode c_L_law 672 = .ok (.aload_n 2, 1) := by decide +kernel
theorem d_L_law_673 : decode c_L_law 673 = .ok (.invokevirtual 101, 3) := by decide +kernel
theorem d_L_law_676 : decode c_L_law 676 = .ok (.iload 5, 2) := by decide +kernel
theorem d_L_law_678 : decode c_L_law 678 = .ok (.if_icmp .eq 5, 3) := by decide +kernel
theorem d_L_law_681 : decode c_L_law 681 = .ok (.iconst 0, 1) := by decide +kernel
theorem d_L_law_682 : decode c_L_law 682 = .ok (.ireturn, 1) := by decide +kernel
theorem d_L_law_683 : decode c_L_law 683 = .ok (.iload 5, 2) := by decide +kernel
theorem d_L_law_685 : decode c_L_law 685 = .ok (.ifCond .ne 15, 3) := by decide +kernel
theorem d_L_law_688 : decode c_L_law 688 = .ok (.aload_n 3, 1) := by decide +kernel
theorem d_L_law_689 : decode c_L_law 689 = .ok (.iconst 0, 1) := by decide +kernel
theorem d_L_law_690 : decode c_L_law 690 = .ok (.laload, 1) := by decide +kernel
theorem d_L_law_691 : decode c_L_law 691 = .ok (.iload 6, 2) := by decide +kernel
theorem d_L_law_693 : decode c_L_law 693 = .ok (.i2l, 1) := by decide +kernel
theorem d_L_law_694 : decode c_L_law 694 = .ok (.lcmp, 1) := by decide +kernel
theorem d_L_law_695 : decode c_L_law 695 = .ok (.ifCond .eq 5, 3) := by decide +kernel
theorem d_L_law_698 : decode c_L_law 698 = .ok (.iconst 0, 1) := by decide +kernel
theorem d_L_law_699 : decode c_L_law 699 = .ok (.ireturn, 1) := by decide +kernel
theorem d_L_law_700 : decode c_L_law 700 = .ok (.goto 898, 3) := by decide +kernel
theorem d_L_law_703 : decode c_L_law 703 = .ok (.aload_n 1, 1) := by decide +kernel
theorem d_L_law_704 : decode c_L_law 704 = .ok (.aload_n 0, 1) := by decide +kernel
theorem d_L_law_705 : decode c_L_law 705 = .ok (.iload 4, 2) := by decide +kernel
theorem d_L_law_707 : decode c_L_law 707 = .ok (.iconst 1, 1) := by decide +kernel
theorem d_L_law_708 : decode c_L_law 708 = .ok (.iadd, 1) := by decide +kernel
theorem d_L_law_709 : decode c_L_law 709 = .ok (.iaload, 1) := by decide +kernel
theorem d_L_law_710 : decode c_L_law 710 = .ok (.aload_n 0, 1) := by decide +kernel
theorem d_L_law_711 : decode c_L_law 711 = .ok (.iload 4, 2) := by decide +kernel
theorem d_L_law_713 : decode c_L_law 713 = .ok (.iconst 2, 1) := by decide +kernel
theorem d_L_law_714 : decode c_L_law 714 = .ok (.iadd, 1) := by decide +kernel
theorem d_L_law_715 : decode c_L_law 715 = .ok (.iaload, 1) := by decide +kernel
theorem d_L_law_716 : decode c_L_law 716 = .ok (.aload_n 3, 1) := by decide +kernel
theorem d_L_law_717 : decode c_L_law 717 = .ok (.invokestatic 133, 3) := by decide +kernel
theorem d_L_law_720 : decode c_L_law 720 = .ok (.istore 5, 2) := by decide +kernel
theorem d_L_law_722 : decode c_L_law 722 = .ok (.aload_n 2, 1) := by decide +kernel
theorem d_L_law_723 : decode c_L_law 723 = .ok (.aload_n 0, 1) := by decide +kernel
theorem d_L_law_724 : decode c_L_law 724 = .ok (.iload 4, 2) := by decide +kernel
theorem d_L_law_726 : decode c_L_law 726 = .ok (.iconst 1, 1) := by decide +kernel
theorem d_L_law_727 : decode c_L_law 727 = .ok (.iadd, 1) := by decide +kernel
theorem d_L_law_728 : decode c_L_law 728 = .ok (.iaload, 1) := by decide +kernel
theorem d_L_law_729 : decode c_L_law 729 = .ok (.aload_n 0, 1) := by decide +kernel
theorem d_L_law_730 : decode c_L_law 730 = .ok (.iload 4, 2) := by decide +kernel
theorem d_L_law_732 : decode c_L_law 732 = .ok (.iconst 2, 1) := by decide +kernel
theorem d_L_law_733 : decode c_L_law 733 = .ok (.iadd, 1) := by decide +kernel
theorem d_L_law_734 : decode c_L_law 734 = .ok (.iaload, 1) := by decide +kernel
theorem d_L_law_735 : decode c_L_law 735 = .ok (.invokevirtual 135, 3) := by decide +kernel
theorem d_L_law_738 : decode c_L_law 738 = .ok (.lstore 6, 2) := by decide +kernel
theorem d_L_law_740 : decode c_L_law 740 = .ok (.aload_n 2, 1) := by decide +kernel
theorem d_L_law_741 : decode c_L_law 741 = .ok (.invokevirtual 101, 3) := by decide +kernel
theorem d_L_law_744 : decode c_L_law 744 = .ok (.iload 5, 2) := by decide +kernel
theorem d_L_law_746 : decode c_L_law 746 = .ok (.if_icmp .eq 5, 3) := by decide +kernel
theorem d_L_law_749 : decode c_L_law 749 = .ok (.iconst 0, 1) := by decide +kernel
theorem d_L_law_750 : decode c_L_law 750 = .ok (.ireturn, 1) := by decide +kernel
theorem d_L_law_751 : decode c_L_law 751 = .ok (.iload 5, 2) := by decide +kernel
theorem d_L_law_753 : decode c_L_law 753 = .ok (.ifCond .ne 14, 3) := by decide +kernel
theorem d_L_law_756 : decode c_L_law 756 = .ok (.aload_n 3, 1) := by decide +kernel
theorem d_L_law_757 : decode c_L_law 757 = .ok (.iconst 0, 1) := by decide +kernel
theorem d_L_law_758 : decode c_L_law 758 = .ok (.laload, 1) := by decide +kernel
theorem d_L_law_759 : decode c_L_law 759 = .ok (.lload 6, 2) := by decide +kernel
theorem d_L_law_761 : decode c_L_law 761 = .ok (.lcmp, 1) := by decide +kernel
theorem d_L_law_762 : decode c_L_law 762 = .ok (.ifCond .eq 5, 3) := by decide +kernel
theorem d_L_law_765 : decode c_L_law 765 = .ok (.iconst 0, 1) := by decide +kernel
theorem d_L_law_766 : decode c_L_law 766 = .ok (.ireturn, 1) := by decide +kernel
theorem d_L_law_767 : decode c_L_law 767 = .ok (.goto 831, 3) := by decide +kernel
theorem d_L_law_770 : decode c_L_law 770 = .ok (.aload_n 1, 1) := by decide +kernel
theorem d_L_law_771 : decode c_L_law 771 = .ok (.aload_n 0, 1) := by decide +kernel
theorem d_L_law_772 : decode c_L_law 772 = .ok (.iload 4, 2) := by decide +kernel
theorem d_L_law_774 : decode c_L_law 774 = .ok (.iconst 1, 1) := by decide +kernel
theorem d_L_law_775 : decode c_L_law 775 = .ok (.iadd, 1) := by decide +kernel
theorem d_L_law_776 : decode c_L_law 776 = .ok (.iaload, 1) := by decide +kernel
theorem d_L_law_777 : decode c_L_law 777 = .ok (.aload_n 0, 1) := by decide +kernel
theorem d_L_law_778 : decode c_L_law 778 = .ok (.iload 4, 2) := by decide +kernel
theorem d_L_law_780 : decode c_L_law 780 = .ok (.iconst 2, 1) := by decide +kernel
theorem d_L_law_781 : decode c_L_law 781 = .ok (.iadd, 1) := by decide +kernel
theorem d_L_law_782 : decode c_L_law 782 = .ok (.iaload, 1) := by decide +kernel
theorem d_L_law_783 : decode c_L_law 783 = .ok (.aload_n 3, 1) := by decide +kernel
theorem d_L_law_784 : decode c_L_law 784 = .ok (.invokestatic 136, 3) := by decide +kernel
theorem d_L_law_787 : decode c_L_law 787 = .ok (.istore 5, 2) := by decide +kernel
theorem d_L_law_789 : decode c_L_law 789 = .ok (.aload_n 2, 1) := by decide +kernel
theorem d_L_law_790 : decode c_L_law 790 = .ok (.aload_n 0, 1) := by decide +kernel
theorem d_L_law_791 : decode c_L_law 791 = .ok (.iload 4, 2) := by decide +kernel
theorem d_L_law_793 : decode c_L_law 793 = .ok (.iconst 1, 1) := by decide +kernel
theorem d_L_law_794 : decode c_L_law 794 = .ok (.iadd, 1) := by decide +kernel
theorem d_L_law_795 : decode c_L_law 795 = .ok (.iaload, 1) := by decide +kernel
theorem d_L_law_796 : decode c_L_law 796 = .ok (.aload_n 0, 1) := by decide +kernel
theorem d_L_law_797 : decode c_L_law 797 = .ok (.iload 4, 2) := by decide +kernel
theorem d_L_law_799 : decode c_L_law 799 = .ok (.iconst 2, 1) := by decide +kernel
theorem d_L_law_800 : decode c_L_law 800 = .ok (.iadd, 1) := by decide +kernel
theorem d_L_law_801 : decode c_L_law 801 = .ok (.iaload, 1) := by decide +kernel
theorem d_L_law_802 : decode c_L_law 802 = .ok (.invokevirtual 138, 3) := by decide +kernel
theorem d_L_law_805 : decode c_L_law 805 = .ok (.istore 6, 2) := by decide +kernel
theorem d_L_law_807 : decode c_L_law 807 = .ok (.aload_n 2, 1) := by decide +kernel
theorem d_L_law_808 : decode c_L_law 808 = .ok (.invokevirtual 101, 3) := by decide +kernel
theorem d_L_law_811 : decode c_L_law 811 = .ok (.iload 5, 2) := by decide +kernel
theorem d_L_law_813 : decode c_L_law 813 = .ok (.if_icmp .eq 5, 3) := by decide +kernel
theorem d_L_law_816 : decode c_L_law 816 = .ok (.iconst 0, 1) := by decide +kernel
theorem d_L_law_817 : decode c_L_law 817 = .ok (.ireturn, 1) := by decide +kernel
theorem d_L_law_818 : decode c_L_law 818 = .ok (.iload 5, 2) := by decide +kernel
theorem d_L_law_820 : decode c_L_law 820 = .ok (.ifCond .ne 15, 3) := by decide +kernel
theorem d_L_law_823 : decode c_L_law 823 = .ok (.aload_n 3, 1) := by decide +kernel
theorem d_L_law_824 : decode c_L_law 824 = .ok (.iconst 0, 1) := by decide +kernel
theorem d_L_law_825 : decode c_L_law 825 = .ok (.laload, 1) := by decide +kernel
theorem d_L_law_826 : decode c_L_law 826 = .ok (.iload 6, 2) := by decide +kernel
theorem d_L_law_828 : decode c_L_law 828 = .ok (.i2l, 1) := by decide +kernel
theorem d_L_law_829 : decode c_L_law 829 = .ok (.lcmp, 1) := by decide +kernel
theorem d_L_law_830 : decode c_L_law 830 = .ok (.ifCond .eq 5, 3) := by decide +kernel
theorem d_L_law_833 : decode c_L_law 833 = .ok (.iconst 0, 1) := by decide +kernel
theorem d_L_law_834 : decode c_L_law 834 = .ok (.ireturn, 1) := by decide +kernel
theorem d_L_law_835 : decode c_L_law 835 = .ok (.goto 763, 3) := by decide +kernel
theorem d_L_law_838 : decode c_L_law 838 = .ok (.aload_n 1, 1) := by decide +kernel
theorem d_L_law_839 : decode c_L_law 839 = .ok (.aload_n 0, 1) := by decide +kernel
theorem d_L_law_840 : decode c_L_law 840 = .ok (.iload 4, 2) := by decide +kernel
theorem d_L_law_842 : decode c_L_law 842 = .ok (.iconst 1, 1) := by decide +kernel
theorem d_L_law_843 : decode c_L_law 843 = .ok (.iadd, 1) := by decide +kernel
theorem d_L_law_844 : decode c_L_law 844 = .ok (.iaload, 1) := by decide +kernel
theorem d_L_law_845 : decode c_L_law 845 = .ok (.aload_n 0, 1) := by decide +kernel
theorem d_L_law_846 : decode c_L_law 846 = .ok (.iload 4, 2) := by decide +kernel
theorem d_L_law_848 : decode c_L_law 848 = .ok (.iconst 2, 1) := by decide +kernel
theorem d_L_law_849 : decode c_L_law 849 = .ok (.iadd, 1) := by decide +kernel
theorem d_L_law_850 : decode c_L_law 850 = .ok (.iaload, 1) := by decide +kernel
theorem d_L_law_851 : decode c_L_law 851 = .ok (.aload_n 3, 1) := by decide +kernel
theorem d_L_law_852 : decode c_L_law 852 = .ok (.invokestatic 139, 3) := by decide +kernel
theorem d_L_law_855 : decode c_L_law 855 = .ok (.istore 5, 2) := by decide +kernel
theorem d_L_law_857 : decode c_L_law 857 = .ok (.aload_n 2, 1) := by decide +kernel
theorem d_L_law_858 : decode c_L_law 858 = .ok (.aload_n 0, 1) := by decide +kernel
theorem d_L_law_859 : decode c_L_law 859 = .ok (.iload 4, 2) := by decide +kernel
theorem d_L_law_861 : decode c_L_law 861 = .ok (.iconst 1, 1) := by decide +kernel
theorem d_L_law_862 : decode c_L_law 862 = .ok (.iadd, 1) := by decide +kernel
theorem d_L_law_863 : decode c_L_law 863 = .ok (.iaload, 1) := by decide +kernel
theorem d_L_law_864 : decode c_L_law 864 = .ok (.aload_n 0, 1) := by decide +kernel
theorem d_L_law_865 : decode c_L_law 865 = .ok (.iload 4, 2) := by decide +kernel
theorem d_L_law_867 : decode c_L_law 867 = .ok (.iconst 2, 1) := by decide +kernel
theorem d_L_law_868 : decode c_L_law 868 = .ok (.iadd, 1) := by decide +kernel
theorem d_L_law_869 : decode c_L_law 869 = .ok (.iaload, 1) := by decide +kernel
theorem d_L_law_870 : decode c_L_law 870 = .ok (.invokevirtual 141, 3) := by decide +kernel
theorem d_L_law_873 : decode c_L_law 873 = .ok (.lstore 6, 2) := by decide +kernel
theorem d_L_law_875 : decode c_L_law 875 = .ok (.aload_n 2, 1) := by decide +kernel
theorem d_L_law_876 : decode c_L_law 876 = .ok (.invokevirtual 101, 3) := by decide +kernel
end
section
theorem d_L_law_879 : decode c_L_law 879 = .ok (.iload 5, 2) := by decide +kernel
theorem d_L_law_881 : decode c_L_law 881 = .ok (.if_icmp .eq 5, 3) := by decide +kernel
theorem d_L_law_884 : decode c_L_law 884 = .ok (.iconst 0, 1) := by decide +kernel
theorem d_L_law_885 : decode c_L_law 885 = .ok (.ireturn, 1) := by decide +kernel
theorem d_L_law_886 : decode c_L_law 886 = .ok (.iload 5, 2) := by decide +kernel
theorem d_L_law_888 : decode c_L_law 888 = .ok (.ifCond .ne 14, 3) := by decide +kernel
theorem d_L_law_891 : decode c_L_law 891 = .ok (.aload_n 3, 1) := by decide +kernel
theorem d_L_law_892 : decode c_L_law 892 = .ok (.iconst 0, 1) := by decide +kernel
theorem d_L_law_893 : decode c_L_law 893 = .ok (.laload, 1) := by decide +kernel
theorem d_L_law_894 : decode c_L_law 894 = .ok (.lload 6, 2) := by decide +kernel
theorem d_L_law_896 : decode c_L_law 896 = .ok (.lcmp, 1) := by decide +kernel
theorem d_L_law_897 : decode c_L_law 897 = .ok (.ifCond .eq 5, 3) := by decide +kernel
theorem d_L_law_900 : decode c_L_law 900 = .ok (.iconst 0, 1) := by decide +kernel
theorem d_L_law_901 : decode c_L_law 901 = .ok (.ireturn, 1) := by decide +kernel
theorem d_L_law_902 : decode c_L_law 902 = .ok (.goto 696, 3) := by decide +kernel
theorem d_L_law_905 : decode c_L_law 905 = .ok (.aload_n 1, 1) := by decide +kernel
theorem d_L_law_906 : decode c_L_law 906 = .ok (.aload_n 0, 1) := by decide +kernel
theorem d_L_law_907 : decode c_L_law 907 = .ok (.iload 4, 2) := by decide +kernel
theorem d_L_law_909 : decode c_L_law 909 = .ok (.iconst 1, 1) := by decide +kernel
theorem d_L_law_910 : decode c_L_law 910 = .ok (.iadd, 1) := by decide +kernel
theorem d_L_law_911 : decode c_L_law 911 = .ok (.iaload, 1) := by decide +kernel
theorem d_L_law_912 : decode c_L_law 912 = .ok (.aload_n 0, 1) := by decide +kernel
theorem d_L_law_913 : decode c_L_law 913 = .ok (.iload 4, 2) := by decide +kernel
theorem d_L_law_915 : decode c_L_law 915 = .ok (.iconst 2, 1) := by decide +kernel
theorem d_L_law_916 : decode c_L_law 916 = .ok (.iadd, 1) := by decide +kernel
theorem d_L_law_917 : decode c_L_law 917 = .ok (.iaload, 1) := by decide +kernel
theorem d_L_law_918 : decode c_L_law 918 = .ok (.aload_n 0, 1) := by decide +kernel
theorem d_L_law_919 : decode c_L_law 919 = .ok (.iload 4, 2) := by decide +kernel
theorem d_L_law_921 : decode c_L_law 921 = .ok (.iconst 3, 1) := by decide +kernel
theorem d_L_law_922 : decode c_L_law 922 = .ok (.iadd, 1) := by decide +kernel
theorem d_L_law_923 : decode c_L_law 923 = .ok (.iaload, 1) := by decide +kernel
theorem d_L_law_924 : decode c_L_law 924 = .ok (.aload_n 3, 1) := by decide +kernel
theorem d_L_law_925 : decode c_L_law 925 = .ok (.invokestatic 142, 3) := by decide +kernel
theorem d_L_law_928 : decode c_L_law 928 = .ok (.istore 5, 2) := by decide +kernel
theorem d_L_law_930 : decode c_L_law 930 = .ok (.aload_n 2, 1) := by decide +kernel
theorem d_L_law_931 : decode c_L_law 931 = .ok (.aload_n 0, 1) := by decide +kernel
theorem d_L_law_932 : decode c_L_law 932 = .ok (.iload 4, 2) := by decide +kernel
theorem d_L_law_934 : decode c_L_law 934 = .ok (.iconst 1, 1) := by decide +kernel
theorem d_L_law_935 : decode c_L_law 935 = .ok (.iadd, 1) := by decide +kernel
theorem d_L_law_936 : decode c_L_law 936 = .ok (.iaload, 1) := by decide +kernel
theorem d_L_law_937 : decode c_L_law 937 = .ok (.aload_n 0, 1) := by decide +kernel
theorem d_L_law_938 : decode c_L_law 938 = .ok (.iload 4, 2) := by decide +kernel
theorem d_L_law_940 : decode c_L_law 940 = .ok (.iconst 2, 1) := by decide +kernel
theorem d_L_law_941 : decode c_L_law 941 = .ok (.iadd, 1) := by decide +kernel
theorem d_L_law_942 : decode c_L_law 942 = .ok (.iaload, 1) := by decide +kernel
theorem d_L_law_943 : decode c_L_law 943 = .ok (.aload_n 0, 1) := by decide +kernel
theorem d_L_law_944 : decode c_L_law 944 = .ok (.iload 4, 2) := by decide +kernel
theorem d_L_law_946 : decode c_L_law 946 = .ok (.iconst 3, 1) := by decide +kernel
theorem d_L_law_947 : decode c_L_law 947 = .ok (.iadd, 1) := by decide +kernel
theorem d_L_law_948 : decode c_L_law 948 = .ok (.iaload, 1) := by decide +kernel
theorem d_L_law_949 : decode c_L_law 949 = .ok (.invokevirtual 144, 3) := by decide +kernel
theorem d_L_law_952 : decode c_L_law 952 = .ok (.istore 6, 2) := by decide +kernel
theorem d_L_law_954 : decode c_L_law 954 = .ok (.aload_n 2, 1) := by decide +kernel
theorem d_L_law_955 : decode c_L_law 955 = .ok (.invokevirtual 101, 3) := by decide +kernel
theorem d_L_law_958 : decode c_L_law 958 = .ok (.iload 5, 2) := by decide +kernel
theorem d_L_law_960 : decode c_L_law 960 = .ok (.if_icmp .eq 5, 3) := by decide +kernel
theorem d_L_law_963 : decode c_L_law 963 = .ok (.iconst 0, 1) := by decide +kernel
theorem d_L_law_964 : decode c_L_law 964 = .ok (.ireturn, 1) := by decide +kernel
theorem d_L_law_965 : decode c_L_law 965 = .ok (.iload 5, 2) := by decide +kernel
theorem d_L_law_967 : decode c_L_law 967 = .ok (.ifCond .ne 15, 3) := by decide +kernel
theorem d_L_law_970 : decode c_L_law 970 = .ok (.aload_n 3, 1) := by decide +kernel
theorem d_L_law_971 : decode c_L_law 971 = .ok (.iconst 0, 1) := by decide +kernel
theorem d_L_law_972 : decode c_L_law 972 = .ok (.laload, 1) := by decide +kernel
theorem d_L_law_973 : decode c_L_law 973 = .ok (.iload 6, 2) := by decide +kernel
theorem d_L_law_975 : decode c_L_law 975 = .ok (.i2l, 1) := by decide +kernel
theorem d_L_law_976 : decode c_L_law 976 = .ok (.lcmp, 1) := by decide +kernel
theorem d_L_law_977 : decode c_L_law 977 = .ok (.ifCond .eq 5, 3) := by decide +kernel
theorem d_L_law_980 : decode c_L_law 980 = .ok (.iconst 0, 1) := by decide +kernel
theorem d_L_law_981 : decode c_L_law 981 = .ok (.ireturn, 1) := by decide +kernel
theorem d_L_law_982 : decode c_L_law 982 = .ok (.goto 616, 3) := by decide +kernel
theorem d_L_law_985 : decode c_L_law 985 = .ok (.aload_n 1, 1) := by decide +kernel
theorem d_L_law_986 : decode c_L_law 986 = .ok (.aload_n 0, 1) := by decide +kernel
theorem d_L_law_987 : decode c_L_law 987 = .ok (.iload 4, 2) := by decide +kernel
theorem d_L_law_989 : decode c_L_law 989 = .ok (.iconst 1, 1) := by decide +kernel
theorem d_L_law_990 : decode c_L_law 990 = .ok (.iadd, 1) := by decide +kernel
theorem d_L_law_991 : decode c_L_law 991 = .ok (.iaload, 1) := by decide +kernel
theorem d_L_law_992 : decode c_L_law 992 = .ok (.aload_n 0, 1) := by decide +kernel
theorem d_L_law_993 : decode c_L_law 993 = .ok (.iload 4, 2) := by decide +kernel
theorem d_L_law_995 : decode c_L_law 995 = .ok (.iconst 2, 1) := by decide +kernel
theorem d_L_law_996 : decode c_L_law 996 = .ok (.iadd, 1) := by decide +kernel
theorem d_L_law_997 : decode c_L_law 997 = .ok (.iaload, 1) := by decide +kernel
theorem d_L_law_998 : decode c_L_law 998 = .ok (.aload_n 0, 1) := by decide +kernel
theorem d_L_law_999 : decode c_L_law 999 = .ok (.iload 4, 2) := by decide +kernel
theorem d_L_law_1001 : decode c_L_law 1001 = .ok (.iconst 3, 1) := by decide +kernel
theorem d_L_law_1002 : decode c_L_law 1002 = .ok (.iadd, 1) := by decide +kernel
theorem d_L_law_1003 : decode c_L_law 1003 = .ok (.iaload, 1) := by decide +kernel
theorem d_L_law_1004 : decode c_L_law 1004 = .ok (.aload_n 0, 1) := by decide +kernel
theorem d_L_law_1005 : decode c_L_law 1005 = .ok (.iload 4, 2) := by decide +kernel
theorem d_L_law_1007 : decode c_L_law 1007 = .ok (.iconst 4, 1) := by decide +kernel
theorem d_L_law_1008 : decode c_L_law 1008 = .ok (.iadd, 1) := by decide +kernel
theorem d_L_law_1009 : decode c_L_law 1009 = .ok (.iaload, 1) := by decide +kernel
theorem d_L_law_1010 : decode c_L_law 1010 = .ok (.aload_n 3, 1) := by decide +kernel
theorem d_L_law_1011 : decode c_L_law 1011 = .ok (.invokestatic 145, 3) := by decide +kernel
theorem d_L_law_1014 : decode c_L_law 1014 = .ok (.istore 5, 2) := by decide +kernel
theorem d_L_law_1016 : decode c_L_law 1016 = .ok (.aload_n 2, 1) := by decide +kernel
theorem d_L_law_1017 : decode c_L_law 1017 = .ok (.aload_n 0, 1) := by decide +kernel
theorem d_L_law_1018 : decode c_L_law 1018 = .ok (.iload 4, 2) := by decide +kernel
theorem d_L_law_1020 : decode c_L_law 1020 = .ok (.iconst 1, 1) := by decide +kernel
theorem d_L_law_1021 : decode c_L_law 1021 = .ok (.iadd, 1) := by decide +kernel
theorem d_L_law_1022 : decode c_L_law 1022 = .ok (.iaload, 1) := by decide +kernel
theorem d_L_law_1023 : decode c_L_law 1023 = .ok (.aload_n 0, 1) := by decide +kernel
theorem d_L_law_1024 : decode c_L_law 1024 = .ok (.iload 4, 2) := by decide +kernel
theorem d_L_law_1026 : decode c_L_law 1026 = .ok (.iconst 2, 1) := by decide +kernel
theorem d_L_law_1027 : decode c_L_law 1027 = .ok (.iadd, 1) := by decide +kernel
theorem d_L_law_1028 : decode c_L_law 1028 = .ok (.iaload, 1) := by decide +kernel
theorem d_L_law_1029 : decode c_L_law 1029 = .ok (.aload_n 0, 1) := by decide +kernel
theorem d_L_law_1030 : decode c_L_law 1030 = .ok (.iload 4, 2) := by decide +kernel
theorem d_L_law_1032 : decode c_L_law 1032 = .ok (.iconst 3, 1) := by decide +kernel
theorem d_L_law_1033 : decode c_L_law 1033 = .ok (.iadd, 1) := by decide +kernel
theorem d_L_law_1034 : decode c_L_law 1034 = .ok (.iaload, 1) := by decide +kernel
theorem d_L_law_1035 : decode c_L_law 1035 = .ok (.aload_n 0, 1) := by decide +kernel
theorem d_L_law_1036 : decode c_L_law 1036 = .ok (.iload 4, 2) := by decide +kernel
theorem d_L_law_1038 : decode c_L_law 1038 = .ok (.iconst 4, 1) := by decide +kernel
theorem d_L_law_1039 : decode c_L_law 1039 = .ok (.iadd, 1) := by decide +kernel
theorem d_L_law_1040 : decode c_L_law 1040 = .ok (.iaload, 1) := by decide +kernel
theorem d_L_law_1041 : decode c_L_law 1041 = .ok (.invokevirtual 148, 3) := by decide +kernel
theorem d_L_law_1044 : decode c_L_law 1044 = .ok (.lstore 6, 2) := by decide +kernel
theorem d_L_law_1046 : decode c_L_law 1046 = .ok (.aload_n 2, 1) := by decide +kernel
theorem d_L_law_1047 : decode c_L_law 1047 = .ok (.invokevirtual 101, 3) := by decide +kernel
theorem d_L_law_1050 : decode c_L_law 1050 = .ok (.iload 5, 2) := by decide +kernel
theorem d_L_law_1052 : decode c_L_law 1052 = .ok (.if_icmp .eq 5, 3) := by decide +kernel
theorem d_L_law_1055 : decode c_L_law 1055 = .ok (.iconst 0, 1) := by decide +kernel
theorem d_L_law_1056 : decode c_L_law 1056 = .ok (.ireturn, 1) := by decide +kernel
theorem d_L_law_1057 : decode c_L_law 1057 = .ok (.iload 5, 2) := by decide +kernel
theorem d_L_law_1059 : decode c_L_law 1059 = .ok (.ifCond .ne 14, 3) := by decide +kernel
theorem d_L_law_1062 : decode c_L_law 1062 = .ok (.aload_n 3, 1) := by decide +kernel
theorem d_L_law_1063 : decode c_L_law 1063 = .ok (.iconst 0, 1) := by decide +kernel
theorem d_L_law_1064 : decode c_L_law 1064 = .ok (.laload, 1) := by decide +kernel
theorem d_L_law_1065 : decode c_L_law 1065 = .ok (.lload 6, 2) := by decide +kernel
theorem d_L_law_1067 : decode c_L_law 1067 = .ok (.lcmp, 1) := by decide +kernel
theorem d_L_law_1068 : decode c_L_law 1068 = .ok (.ifCond .eq 5, 3) := by decide +kernel
theorem d_L_law_1071 : decode c_L_law 1071 = .ok (.iconst 0, 1) := by decide +kernel
theorem d_L_law_1072 : decode c_L_law 1072 = .ok (.ireturn, 1) := by decide +kernel
theorem d_L_law_1073 : decode c_L_law 1073 = .ok (.goto 525, 3) := by decide +kernel
theorem d_L_law_1076 : decode c_L_law 1076 = .ok (.aload_n 1, 1) := by decide +kernel
theorem d_L_law_1077 : decode c_L_law 1077 = .ok (.aload_n 0, 1) := by decide +kernel
theorem d_L_law_1078 : decode c_L_law 1078 = .ok (.iload 4, 2) := by decide +kernel
theorem d_L_law_1080 : decode c_L_law 1080 = .ok (.iconst 1, 1) := by decide +kernel
theorem d_L_law_1081 : decode c_L_law 1081 = .ok (.iadd, 1) := by decide +kernel
theorem d_L_law_1082 : decode c_L_law 1082 = .ok (.iaload, 1) := by decide +kernel
theorem d_L_law_1083 : decode c_L_law 1083 = .ok (.aload_n 0, 1) := by decide +kernel
theorem d_L_law_1084 : decode c_L_law 1084 = .ok (.iload 4, 2) := by decide +kernel
theorem d_L_law_1086 : decode c_L_law 1086 = .ok (.iconst 2, 1) := by decide +kernel
theorem d_L_law_1087 : decode c_L_law 1087 = .ok (.iadd, 1) := by decide +kernel
theorem d_L_law_1088 : decode c_L_law 1088 = .ok (.iaload, 1) := by decide +kernel
theorem d_L_law_1089 : decode c_L_law 1089 = .ok (.aload_n 0, 1) := by decide +kernel
theorem d_L_law_1090 : decode c_L_law 1090 = .ok (.iload 4, 2) := by decide +kernel
theorem d_L_law_1092 : decode c_L_law 1092 = .ok (.iconst 3, 1) := by decide +kernel
theorem d_L_law_1093 : decode c_L_law 1093 = .ok (.iadd, 1) := by decide +kernel
theorem d_L_law_1094 : decode c_L_law 1094 = .ok (.iaload, 1) := by decide +kernel
theorem d_L_law_1095 : decode c_L_law 1095 = .ok (.aload_n 0, 1) := by decide +kernel
theorem d_L_law_1096 : decode c_L_law 1096 = .ok (.iload 4, 2) := by decide +kernel
theorem d_L_law_1098 : decode c_L_law 1098 = .ok (.iconst 4, 1) := by decide +kernel
theorem d_L_law_1099 : decode c_L_law 1099 = .ok (.iadd, 1) := by decide +kernel
theorem d_L_law_1100 : decode c_L_law 1100 = .ok (.iaload, 1) := by decide +kernel
theorem d_L_law_1101 : decode c_L_law 1101 = .ok (.aload_n 3, 1) := by decide +kernel
theorem d_L_law_1102 : decode c_L_law 1102 = .ok (.invokestatic 149, 3) := by decide +kernel
theorem d_L_law_1105 : decode c_L_law 1105 = .ok (.istore 5, 2) := by decide +kernel
theorem d_L_law_1107 : decode c_L_law 1107 = .ok (.aload_n 2, 1) := by decide +kernel
theorem d_L_law_1108 : decode c_L_law 1108 = .ok (.aload_n 0, 1) := by decide +kernel
theorem d_L_law_1109 : decode c_L_law 1109 = .ok (.iload 4, 2) := by decide +kernel
theorem d_L_law_1111 : decode c_L_law 1111 = .ok (.iconst 1, 1) := by decide +kernel
theorem d_L_law_1112 : decode c_L_law 1112 = .ok (.iadd, 1) := by decide +kernel
theorem d_L_law_1113 : decode c_L_law 1113 = .ok (.iaload, 1) := by decide +kernel
theorem d_L_law_1114 : decode c_L_law 1114 = .ok (.aload_n 0, 1) := by decide +kernel
theorem d_L_law_1115 : decode c_L_law 1115 = .ok (.iload 4, 2) := by decide +kernel
theorem d_L_law_1117 : decode c_L_law 1117 = .ok (.iconst 2, 1) := by decide +kernel
theorem d_L_law_1118 : decode c_L_law 1118 = .ok (.iadd, 1) := by decide +kernel
theorem d_L_law_1119 : decode c_L_law 1119 = .ok (.iaload, 1) := by decide +kernel
theorem d_L_law_1120 : decode c_L_law 1120 = .ok (.aload_n 0, 1) := by decide +kernel
theorem d_L_law_1121 : decode c_L_law 1121 = .ok (.iload 4, 2) := by decide +kernel
theorem d_L_law_1123 : decode c_L_law 1123 = .ok (.iconst 3, 1) := by decide +kernel
theorem d_L_law_1124 : decode c_L_law 1124 = .ok (.iadd, 1) := by decide +kernel
theorem d_L_law_1125 : decode c_L_law 1125 = .ok (.iaload, 1) := by decide +kernel
theorem d_L_law_1126 : decode c_L_law 1126 = .ok (.aload_n 0, 1) := by decide +kernel
theorem d_L_law_1127 : decode c_L_law 1127 = .ok (.iload 4, 2) := by decide +kernel
theorem d_L_law_1129 : decode c_L_law 1129 = .ok (.iconst 4, 1) := by decide +kernel
theorem d_L_law_1130 : decode c_L_law 1130 = .ok (.iadd, 1) := by decide +kernel
theorem d_L_law_1131 : decode c_L_law 1131 = .ok (.iaload, 1) := by decide +kernel
theorem d_L_law_1132 : decode c_L_law 1132 = .ok (.invokevirtual 151, 3) := by decide +kernel
theorem d_L_law_1135 : decode c_L_law 1135 = .ok (.istore 6, 2) := by decide +kernel
theorem d_L_law_1137 : decode c_L_law 1137 = .ok (.aload_n 2, 1) := by decide +kernel
theorem d_L_law_1138 : decode c_L_law 1138 = .ok (.invokevirtual 101, 3) := by decide +kernel
theorem d_L_law_1141 : decode c_L_law 1141 = .ok (.iload 5, 2) := by decide +kernel
theorem d_L_law_1143 : decode c_L_law 1143 = .ok (.if_icmp .eq 5, 3) := by decide +kernel
theorem d_L_law_1146 : decode c_L_law 1146 = .ok (.iconst 0, 1) := by decide +kernel
theorem d_L_law_1147 : decode c_L_law 1147 = .ok (.ireturn, 1) := by decide +kernel
theorem d_L_law_1148 : decode c_L_law 1148 = .ok (.iload 5, 2) := by decide +kernel
theorem d_L_law_1150 : decode c_L_law 1150 = .ok (.ifCond .ne 15, 3) := by decide +kernel
theorem d_L_law_1153 : decode c_L_law 1153 = .ok (.aload_n 3, 1) := by decide +kernel
theorem d_L_law_1154 : decode c_L_law 1154 = .ok (.iconst 0, 1) := by decide +kernel
theorem d_L_law_1155 : decode c_L_law 1155 = .ok (.laload, 1) := by decide +kernel
theorem d_L_law_1156 : decode c_L_law 1156 = .ok (.iload 6, 2) := by decide +kernel
theorem d_L_law_1158 : decode c_L_law 1158 = .ok (.i2l, 1) := by decide +kernel
theorem d_L_law_1159 : decode c_L_law 1159 = .ok (.lcmp, 1) := by decide +kernel
theorem d_L_law_1160 : decode c_L_law 1160 = .ok (.ifCond .eq 5, 3) := by decide +kernel
theorem d_L_law_1163 : decode c_L_law 1163 = .ok (.iconst 0, 1) := by decide +kernel
theorem d_L_law_1164 : decode c_L_law 1164 = .ok (.ireturn, 1) := by decide +kernel
theorem d_L_law_1165 : decode c_L_law 1165 = .ok (.goto 433, 3) := by decide +kernel
theorem d_L_law_1168 : decode c_L_law 1168 = .ok (.aload_n 1, 1) := by decide +kernel
theorem d_L_law_1169 : decode c_L_law 1169 = .ok (.aload_n 0, 1) := by decide +kernel
theorem d_L_law_1170 : decode c_L_law 1170 = .ok (.iload 4, 2) := by decide +kernel
theorem d_L_law_1172 : decode c_L_law 1172 = .ok (.iconst 1, 1) := by decide +kernel
theorem d_L_law_1173 : decode c_L_law 1173 = .ok (.iadd, 1) := by decide +kernel
theorem d_L_law_1174 : decode c_L_law 1174 = .ok (.iaload, 1) := by decide +kernel
theorem d_L_law_1175 : decode c_L_law 1175 = .ok (.aload_n 0, 1) := by decide +kernel
theorem d_L_law_1176 : decode c_L_law 1176 = .ok (.iload 4, 2) := by decide +kernel
theorem d_L_law_1178 : decode c_L_law 1178 = .ok (.iconst 2, 1) := by decide +kernel
theorem d_L_law_1179 : decode c_L_law 1179 = .ok (.iadd, 1) := by decide +kernel
theorem d_L_law_1180 : decode c_L_law 1180 = .ok (.iaload, 1) := by decide +kernel
theorem d_L_law_1181 : decode c_L_law 1181 = .ok (.aload_n 0, 1) := by decide +kernel
theorem d_L_law_1182 : decode c_L_law 1182 = .ok (.iload 4, 2) := by decide +kernel
theorem d_L_law_1184 : decode c_L_law 1184 = .ok (.iconst 3, 1) := by decide +kernel
theorem d_L_law_1185 : decode c_L_law 1185 = .ok (.iadd, 1) := by decide +kernel
theorem d_L_law_1186 : decode c_L_law 1186 = .ok (.iaload, 1) := by decide +kernel
theorem d_L_law_1187 : decode c_L_law 1187 = .ok (.aload_n 3, 1) := by decide +kernel
theorem d_L_law_1188 : decode c_L_law 1188 = .ok (.invokestatic 152, 3) := by decide +kernel
theorem d_L_law_1191 : decode c_L_law 1191 = .ok (.istore 5, 2) := by decide +kernel
theorem d_L_law_1193 : decode c_L_law 1193 = .ok (.aload_n 2, 1) := by decide +kernel
theorem d_L_law_1194 : decode c_L_law 1194 = .ok (.aload_n 0, 1) := by decide +kernel
theorem d_L_law_1195 : decode c_L_law 1195 = .ok (.iload 4, 2) := by decide +kernel
theorem d_L_law_1197 : decode c_L_law 1197 = .ok (.iconst 1, 1) := by decide +kernel
theorem d_L_law_1198 : decode c_L_law 1198 = .ok (.iadd, 1) := by decide +kernel
theorem d_L_law_1199 : decode c_L_law 1199 = .ok (.iaload, 1) := by decide +kernel
theorem d_L_law_1200 : decode c_L_law 1200 = .ok (.aload_n 0, 1) := by decide +kernel
theorem d_L_law_1201 : decode c_L_law 1201 = .ok (.iload 4, 2) := by decide +kernel
theorem d_L_law_1203 : decode c_L_law 1203 = .ok (.iconst 2, 1) := by decide +kernel
theorem d_L_law_1204 : decode c_L_law 1204 = .ok (.iadd, 1) := by decide +kernel
theorem d_L_law_1205 : decode c_L_law 1205 = .ok (.iaload, 1) := by decide +kernel
theorem d_L_law_1206 : decode c_L_law 1206 = .ok (.aload_n 0, 1) := by decide +kernel
theorem d_L_law_1207 : decode c_L_law 1207 = .ok (.iload 4, 2) := by decide +kernel
theorem d_L_law_1209 : decode c_L_law 1209 = .ok (.iconst 3, 1) := by decide +kernel
theorem d_L_law_1210 : decode c_L_law 1210 = .ok (.iadd, 1) := by decide +kernel
theorem d_L_law_1211 : decode c_L_law 1211 = .ok (.iaload, 1) := by decide +kernel
theorem d_L_law_1212 : decode c_L_law 1212 = .ok (.invokevirtual 154, 3) := by decide +kernel
theorem d_L_law_1215 : decode c_L_law 1215 = .ok (.lstore 6, 2) := by decide +kernel
theorem d_L_law_1217 : decode c_L_law 1217 = .ok (.aload_n 2, 1) := by decide +kernel
theorem d_L_law_1218 : decode c_L_law 1218 = .ok (.invokevirtual 101, 3) := by decide +kernel
theorem d_L_law_1221 : decode c_L_law 1221 = .ok (.iload 5, 2) := by decide +kernel
theorem d_L_law_1223 : decode c_L_law 1223 = .ok (.if_icmp .eq 5, 3) := by decide +kernel
theorem d_L_law_1226 : decode c_L_law 1226 = .ok (.iconst 0, 1) := by decide +kernel
theorem d_L_law_1227 : decode c_L_law 1227 = .ok (.ireturn, 1) := by decide +kernel
theorem d_L_law_1228 : decode c_L_law 1228 = .ok (.iload 5, 2) := by decide +kernel
theorem d_L_law_1230 : decode c_L_law 1230 = .ok (.ifCond .ne 14, 3) := by decide +kernel
theorem d_L_law_1233 : decode c_L_law 1233 = .ok (.aload_n 3, 1) := by decide +kernel
theorem d_L_law_1234 : decode c_L_law 1234 = .ok (.iconst 0, 1) := by decide +kernel
theorem d_L_law_1235 : decode c_L_law 1235 = .ok (.laload, 1) := by decide +kernel
theorem d_L_law_1236 : decode c_L_law 1236 = .ok (.lload 6, 2) := by decide +kernel
theorem d_L_law_1238 : decode c_L_law 1238 = .ok (.lcmp, 1) := by decide +kernel
theorem d_L_law_1239 : decode c_L_law 1239 = .ok (.ifCond .eq 5, 3) := by decide +kernel
end
section
theorem d_L_law_1242 : decode c_L_law 1242 = .ok (.iconst 0, 1) := by decide +kernel
theorem d_L_law_1243 : decode c_L_law 1243 = .ok (.ireturn, 1) := by decide +kernel
theorem d_L_law_1244 : decode c_L_law 1244 = .ok (.goto 354, 3) := by decide +kernel
theorem d_L_law_1247 : decode c_L_law 1247 = .ok (.aload_n 1, 1) := by decide +kernel
theorem d_L_law_1248 : decode c_L_law 1248 = .ok (.aload_n 0, 1) := by decide +kernel
theorem d_L_law_1249 : decode c_L_law 1249 = .ok (.iload 4, 2) := by decide +kernel
theorem d_L_law_1251 : decode c_L_law 1251 = .ok (.iconst 1, 1) := by decide +kernel
theorem d_L_law_1252 : decode c_L_law 1252 = .ok (.iadd, 1) := by decide +kernel
theorem d_L_law_1253 : decode c_L_law 1253 = .ok (.iaload, 1) := by decide +kernel
theorem d_L_law_1254 : decode c_L_law 1254 = .ok (.aload_n 0, 1) := by decide +kernel
theorem d_L_law_1255 : decode c_L_law 1255 = .ok (.iload 4, 2) := by decide +kernel
theorem d_L_law_1257 : decode c_L_law 1257 = .ok (.iconst 2, 1) := by decide +kernel
theorem d_L_law_1258 : decode c_L_law 1258 = .ok (.iadd, 1) := by decide +kernel
theorem d_L_law_1259 : decode c_L_law 1259 = .ok (.iaload, 1) := by decide +kernel
theorem d_L_law_1260 : decode c_L_law 1260 = .ok (.aload_n 0, 1) := by decide +kernel
theorem d_L_law_1261 : decode c_L_law 1261 = .ok (.iload 4, 2) := by decide +kernel
theorem d_L_law_1263 : decode c_L_law 1263 = .ok (.iconst 3, 1) := by decide +kernel
theorem d_L_law_1264 : decode c_L_law 1264 = .ok (.iadd, 1) := by decide +kernel
theorem d_L_law_1265 : decode c_L_law 1265 = .ok (.iaload, 1) := by decide +kernel
theorem d_L_law_1266 : decode c_L_law 1266 = .ok (.aload_n 3, 1) := by decide +kernel
theorem d_L_law_1267 : decode c_L_law 1267 = .ok (.invokestatic 155, 3) := by decide +kernel
theorem d_L_law_1270 : decode c_L_law 1270 = .ok (.istore 5, 2) := by decide +kernel
theorem d_L_law_1272 : decode c_L_law 1272 = .ok (.aload_n 2, 1) := by decide +kernel
theorem d_L_law_1273 : decode c_L_law 1273 = .ok (.aload_n 0, 1) := by decide +kernel
theorem d_L_law_1274 : decode c_L_law 1274 = .ok (.iload 4, 2) := by decide +kernel
theorem d_L_law_1276 : decode c_L_law 1276 = .ok (.iconst 1, 1) := by decide +kernel
theorem d_L_law_1277 : decode c_L_law 1277 = .ok (.iadd, 1) := by decide +kernel
theorem d_L_law_1278 : decode c_L_law 1278 = .ok (.iaload, 1) := by decide +kernel
theorem d_L_law_1279 : decode c_L_law 1279 = .ok (.aload_n 0, 1) := by decide +kernel
theorem d_L_law_1280 : decode c_L_law 1280 = .ok (.iload 4, 2) := by decide +kernel
theorem d_L_law_1282 : decode c_L_law 1282 = .ok (.iconst 2, 1) := by decide +kernel
theorem d_L_law_1283 : decode c_L_law 1283 = .ok (.iadd, 1) := by decide +kernel
theorem d_L_law_1284 : decode c_L_law 1284 = .ok (.iaload, 1) := by decide +kernel
theorem d_L_law_1285 : decode c_L_law 1285 = .ok (.aload_n 0, 1) := by decide +kernel
theorem d_L_law_1286 : decode c_L_law 1286 = .ok (.iload 4, 2) := by decide +kernel
theorem d_L_law_1288 : decode c_L_law 1288 = .ok (.iconst 3, 1) := by decide +kernel
theorem d_L_law_1289 : decode c_L_law 1289 = .ok (.iadd, 1) := by decide +kernel
theorem d_L_law_1290 : decode c_L_law 1290 = .ok (.iaload, 1) := by decide +kernel
theorem d_L_law_1291 : decode c_L_law 1291 = .ok (.invokevirtual 157, 3) := by decide +kernel
theorem d_L_law_1294 : decode c_L_law 1294 = .ok (.lstore 6, 2) := by decide +kernel
theorem d_L_law_1296 : decode c_L_law 1296 = .ok (.aload_n 2, 1) := by decide +kernel
theorem d_L_law_1297 : decode c_L_law 1297 = .ok (.invokevirtual 101, 3) := by decide +kernel
theorem d_L_law_1300 : decode c_L_law 1300 = .ok (.iload 5, 2) := by decide +kernel
theorem d_L_law_1302 : decode c_L_law 1302 = .ok (.if_icmp .eq 5, 3) := by decide +kernel
theorem d_L_law_1305 : decode c_L_law 1305 = .ok (.iconst 0, 1) := by decide +kernel
theorem d_L_law_1306 : decode c_L_law 1306 = .ok (.ireturn, 1) := by decide +kernel
theorem d_L_law_1307 : decode c_L_law 1307 = .ok (.iload 5, 2) := by decide +kernel
theorem d_L_law_1309 : decode c_L_law 1309 = .ok (.ifCond .ne 14, 3) := by decide +kernel
theorem d_L_law_1312 : decode c_L_law 1312 = .ok (.aload_n 3, 1) := by decide +kernel
theorem d_L_law_1313 : decode c_L_law 1313 = .ok (.iconst 0, 1) := by decide +kernel
theorem d_L_law_1314 : decode c_L_law 1314 = .ok (.laload, 1) := by decide +kernel
theorem d_L_law_1315 : decode c_L_law 1315 = .ok (.lload 6, 2) := by decide +kernel
theorem d_L_law_1317 : decode c_L_law 1317 = .ok (.lcmp, 1) := by decide +kernel
theorem d_L_law_1318 : decode c_L_law 1318 = .ok (.ifCond .eq 5, 3) := by decide +kernel
theorem d_L_law_1321 : decode c_L_law 1321 = .ok (.iconst 0, 1) := by decide +kernel
theorem d_L_law_1322 : decode c_L_law 1322 = .ok (.ireturn, 1) := by decide +kernel
theorem d_L_law_1323 : decode c_L_law 1323 = .ok (.goto 275, 3) := by decide +kernel
theorem d_L_law_1326 : decode c_L_law 1326 = .ok (.aload_n 1, 1) := by decide +kernel
theorem d_L_law_1327 : decode c_L_law 1327 = .ok (.aload_n 0, 1) := by decide +kernel
theorem d_L_law_1328 : decode c_L_law 1328 = .ok (.iload 4, 2) := by decide +kernel
theorem d_L_law_1330 : decode c_L_law 1330 = .ok (.iconst 1, 1) := by decide +kernel
theorem d_L_law_1331 : decode c_L_law 1331 = .ok (.iadd, 1) := by decide +kernel
theorem d_L_law_1332 : decode c_L_law 1332 = .ok (.iaload, 1) := by decide +kernel
theorem d_L_law_1333 : decode c_L_law 1333 = .ok (.aload_n 0, 1) := by decide +kernel
theorem d_L_law_1334 : decode c_L_law 1334 = .ok (.iload 4, 2) := by decide +kernel
theorem d_L_law_1336 : decode c_L_law 1336 = .ok (.iconst 2, 1) := by decide +kernel
theorem d_L_law_1337 : decode c_L_law 1337 = .ok (.iadd, 1) := by decide +kernel
theorem d_L_law_1338 : decode c_L_law 1338 = .ok (.iaload, 1) := by decide +kernel
theorem d_L_law_1339 : decode c_L_law 1339 = .ok (.aload_n 3, 1) := by decide +kernel
theorem d_L_law_1340 : decode c_L_law 1340 = .ok (.invokestatic 158, 3) := by decide +kernel
theorem d_L_law_1343 : decode c_L_law 1343 = .ok (.istore 5, 2) := by decide +kernel
theorem d_L_law_1345 : decode c_L_law 1345 = .ok (.aload_n 2, 1) := by decide +kernel
theorem d_L_law_1346 : decode c_L_law 1346 = .ok (.aload_n 0, 1) := by decide +kernel
theorem d_L_law_1347 : decode c_L_law 1347 = .ok (.iload 4, 2) := by decide +kernel
theorem d_L_law_1349 : decode c_L_law 1349 = .ok (.iconst 1, 1) := by decide +kernel
theorem d_L_law_1350 : decode c_L_law 1350 = .ok (.iadd, 1) := by decide +kernel
theorem d_L_law_1351 : decode c_L_law 1351 = .ok (.iaload, 1) := by decide +kernel
theorem d_L_law_1352 : decode c_L_law 1352 = .ok (.aload_n 0, 1) := by decide +kernel
theorem d_L_law_1353 : decode c_L_law 1353 = .ok (.iload 4, 2) := by decide +kernel
theorem d_L_law_1355 : decode c_L_law 1355 = .ok (.iconst 2, 1) := by decide +kernel
theorem d_L_law_1356 : decode c_L_law 1356 = .ok (.iadd, 1) := by decide +kernel
theorem d_L_law_1357 : decode c_L_law 1357 = .ok (.iaload, 1) := by decide +kernel
theorem d_L_law_1358 : decode c_L_law 1358 = .ok (.invokevirtual 160, 3) := by decide +kernel
theorem d_L_law_1361 : decode c_L_law 1361 = .ok (.lstore 6, 2) := by decide +kernel
theorem d_L_law_1363 : decode c_L_law 1363 = .ok (.aload_n 2, 1) := by decide +kernel
theorem d_L_law_1364 : decode c_L_law 1364 = .ok (.invokevirtual 101, 3) := by decide +kernel
theorem d_L_law_1367 : decode c_L_law 1367 = .ok (.iload 5, 2) := by decide +kernel
theorem d_L_law_1369 : decode c_L_law 1369 = .ok (.if_icmp .eq 5, 3) := by decide +kernel
theorem d_L_law_1372 : decode c_L_law 1372 = .ok (.iconst 0, 1) := by decide +kernel
theorem d_L_law_1373 : decode c_L_law 1373 = .ok (.ireturn, 1) := by decide +kernel
theorem d_L_law_1374 : decode c_L_law 1374 = .ok (.iload 5, 2) := by decide +kernel
theorem d_L_law_1376 : decode c_L_law 1376 = .ok (.ifCond .ne 14, 3) := by decide +kernel
theorem d_L_law_1379 : decode c_L_law 1379 = .ok (.aload_n 3, 1) := by decide +kernel
theorem d_L_law_1380 : decode c_L_law 1380 = .ok (.iconst 0, 1) := by decide +kernel
theorem d_L_law_1381 : decode c_L_law 1381 = .ok (.laload, 1) := by decide +kernel
theorem d_L_law_1382 : decode c_L_law 1382 = .ok (.lload 6, 2) := by decide +kernel
theorem d_L_law_1384 : decode c_L_law 1384 = .ok (.lcmp, 1) := by decide +kernel
theorem d_L_law_1385 : decode c_L_law 1385 = .ok (.ifCond .eq 5, 3) := by decide +kernel
theorem d_L_law_1388 : decode c_L_law 1388 = .ok (.iconst 0, 1) := by decide +kernel
theorem d_L_law_1389 : decode c_L_law 1389 = .ok (.ireturn, 1) := by decide +kernel
theorem d_L_law_1390 : decode c_L_law 1390 = .ok (.goto 208, 3) := by decide +kernel
theorem d_L_law_1393 : decode c_L_law 1393 = .ok (.aload_n 1, 1) := by decide +kernel
theorem d_L_law_1394 : decode c_L_law 1394 = .ok (.aload_n 0, 1) := by decide +kernel
theorem d_L_law_1395 : decode c_L_law 1395 = .ok (.iload 4, 2) := by decide +kernel
theorem d_L_law_1397 : decode c_L_law 1397 = .ok (.iconst 1, 1) := by decide +kernel
theorem d_L_law_1398 : decode c_L_law 1398 = .ok (.iadd, 1) := by decide +kernel
theorem d_L_law_1399 : decode c_L_law 1399 = .ok (.iaload, 1) := by decide +kernel
theorem d_L_law_1400 : decode c_L_law 1400 = .ok (.aload_n 0, 1) := by decide +kernel
theorem d_L_law_1401 : decode c_L_law 1401 = .ok (.iload 4, 2) := by decide +kernel
theorem d_L_law_1403 : decode c_L_law 1403 = .ok (.iconst 2, 1) := by decide +kernel
theorem d_L_law_1404 : decode c_L_law 1404 = .ok (.iadd, 1) := by decide +kernel
theorem d_L_law_1405 : decode c_L_law 1405 = .ok (.iaload, 1) := by decide +kernel
theorem d_L_law_1406 : decode c_L_law 1406 = .ok (.aload_n 0, 1) := by decide +kernel
theorem d_L_law_1407 : decode c_L_law 1407 = .ok (.iload 4, 2) := by decide +kernel
theorem d_L_law_1409 : decode c_L_law 1409 = .ok (.iconst 3, 1) := by decide +kernel
theorem d_L_law_1410 : decode c_L_law 1410 = .ok (.iadd, 1) := by decide +kernel
theorem d_L_law_1411 : decode c_L_law 1411 = .ok (.iaload, 1) := by decide +kernel
theorem d_L_law_1412 : decode c_L_law 1412 = .ok (.aload_n 3, 1) := by decide +kernel
theorem d_L_law_1413 : decode c_L_law 1413 = .ok (.invokestatic 161, 3) := by decide +kernel
theorem d_L_law_1416 : decode c_L_law 1416 = .ok (.istore 5, 2) := by decide +kernel
theorem d_L_law_1418 : decode c_L_law 1418 = .ok (.aload_n 2, 1) := by decide +kernel
theorem d_L_law_1419 : decode c_L_law 1419 = .ok (.aload_n 0, 1) := by decide +kernel
theorem d_L_law_1420 : decode c_L_law 1420 = .ok (.iload 4, 2) := by decide +kernel
theorem d_L_law_1422 : decode c_L_law 1422 = .ok (.iconst 1, 1) := by decide +kernel
theorem d_L_law_1423 : decode c_L_law 1423 = .ok (.iadd, 1) := by decide +kernel
theorem d_L_law_1424 : decode c_L_law 1424 = .ok (.iaload, 1) := by decide +kernel
theorem d_L_law_1425 : decode c_L_law 1425 = .ok (.aload_n 0, 1) := by decide +kernel
theorem d_L_law_1426 : decode c_L_law 1426 = .ok (.iload 4, 2) := by decide +kernel
theorem d_L_law_1428 : decode c_L_law 1428 = .ok (.iconst 2, 1) := by decide +kernel
theorem d_L_law_1429 : decode c_L_law 1429 = .ok (.iadd, 1) := by decide +kernel
theorem d_L_law_1430 : decode c_L_law 1430 = .ok (.iaload, 1) := by decide +kernel
theorem d_L_law_1431 : decode c_L_law 1431 = .ok (.aload_n 0, 1) := by decide +kernel
theorem d_L_law_1432 : decode c_L_law 1432 = .ok (.iload 4, 2) := by decide +kernel
theorem d_L_law_1434 : decode c_L_law 1434 = .ok (.iconst 3, 1) := by decide +kernel
theorem d_L_law_1435 : decode c_L_law 1435 = .ok (.iadd, 1) := by decide +kernel
theorem d_L_law_1436 : decode c_L_law 1436 = .ok (.iaload, 1) := by decide +kernel
theorem d_L_law_1437 : decode c_L_law 1437 = .ok (.invokevirtual 163, 3) := by decide +kernel
theorem d_L_law_1440 : decode c_L_law 1440 = .ok (.istore 6, 2) := by decide +kernel
theorem d_L_law_1442 : decode c_L_law 1442 = .ok (.aload_n 2, 1) := by decide +kernel
theorem d_L_law_1443 : decode c_L_law 1443 = .ok (.invokevirtual 101, 3) := by decide +kernel
theorem d_L_law_1446 : decode c_L_law 1446 = .ok (.iload 5, 2) := by decide +kernel
theorem d_L_law_1448 : decode c_L_law 1448 = .ok (.if_icmp .eq 5, 3) := by decide +kernel
theorem d_L_law_1451 : decode c_L_law 1451 = .ok (.iconst 0, 1) := by decide +kernel
theorem d_L_law_1452 : decode c_L_law 1452 = .ok (.ireturn, 1) := by decide +kernel
theorem d_L_law_1453 : decode c_L_law 1453 = .ok (.iload 5, 2) := by decide +kernel
theorem d_L_law_1455 : decode c_L_law 1455 = .ok (.ifCond .ne 22, 3) := by decide +kernel
theorem d_L_law_1458 : decode c_L_law 1458 = .ok (.aload_n 3, 1) := by decide +kernel
theorem d_L_law_1459 : decode c_L_law 1459 = .ok (.iconst 0, 1) := by decide +kernel
theorem d_L_law_1460 : decode c_L_law 1460 = .ok (.laload, 1) := by decide +kernel
theorem d_L_law_1461 : decode c_L_law 1461 = .ok (.iload 6, 2) := by decide +kernel
theorem d_L_law_1463 : decode c_L_law 1463 = .ok (.ifCond .eq 7, 3) := by decide +kernel
theorem d_L_law_1466 : decode c_L_law 1466 = .ok (.lconst 1, 1) := by decide +kernel
theorem d_L_law_1467 : decode c_L_law 1467 = .ok (.goto 4, 3) := by decide +kernel
theorem d_L_law_1470 : decode c_L_law 1470 = .ok (.lconst 0, 1) := by decide +kernel
theorem d_L_law_1471 : decode c_L_law 1471 = .ok (.lcmp, 1) := by decide +kernel
theorem d_L_law_1472 : decode c_L_law 1472 = .ok (.ifCond .eq 5, 3) := by decide +kernel
theorem d_L_law_1475 : decode c_L_law 1475 = .ok (.iconst 0, 1) := by decide +kernel
theorem d_L_law_1476 : decode c_L_law 1476 = .ok (.ireturn, 1) := by decide +kernel
theorem d_L_law_1477 : decode c_L_law 1477 = .ok (.goto 121, 3) := by decide +kernel
theorem d_L_law_1480 : decode c_L_law 1480 = .ok (.aload_n 1, 1) := by decide +kernel
theorem d_L_law_1481 : decode c_L_law 1481 = .ok (.aload_n 0, 1) := by decide +kernel
theorem d_L_law_1482 : decode c_L_law 1482 = .ok (.iload 4, 2) := by decide +kernel
theorem d_L_law_1484 : decode c_L_law 1484 = .ok (.iconst 1, 1) := by decide +kernel
theorem d_L_law_1485 : decode c_L_law 1485 = .ok (.iadd, 1) := by decide +kernel
theorem d_L_law_1486 : decode c_L_law 1486 = .ok (.iaload, 1) := by decide +kernel
theorem d_L_law_1487 : decode c_L_law 1487 = .ok (.aload_n 3, 1) := by decide +kernel
theorem d_L_law_1488 : decode c_L_law 1488 = .ok (.invokestatic 164, 3) := by decide +kernel
theorem d_L_law_1491 : decode c_L_law 1491 = .ok (.istore 5, 2) := by decide +kernel
theorem d_L_law_1493 : decode c_L_law 1493 = .ok (.aload_n 2, 1) := by decide +kernel
theorem d_L_law_1494 : decode c_L_law 1494 = .ok (.aload_n 0, 1) := by decide +kernel
theorem d_L_law_1495 : decode c_L_law 1495 = .ok (.iload 4, 2) := by decide +kernel
theorem d_L_law_1497 : decode c_L_law 1497 = .ok (.iconst 1, 1) := by decide +kernel
theorem d_L_law_1498 : decode c_L_law 1498 = .ok (.iadd, 1) := by decide +kernel
theorem d_L_law_1499 : decode c_L_law 1499 = .ok (.iaload, 1) := by decide +kernel
theorem d_L_law_1500 : decode c_L_law 1500 = .ok (.invokevirtual 166, 3) := by decide +kernel
theorem d_L_law_1503 : decode c_L_law 1503 = .ok (.istore 6, 2) := by decide +kernel
theorem d_L_law_1505 : decode c_L_law 1505 = .ok (.aload_n 2, 1) := by decide +kernel
theorem d_L_law_1506 : decode c_L_law 1506 = .ok (.invokevirtual 101, 3) := by decide +kernel
theorem d_L_law_1509 : decode c_L_law 1509 = .ok (.iload 5, 2) := by decide +kernel
theorem d_L_law_1511 : decode c_L_law 1511 = .ok (.if_icmp .eq 5, 3) := by decide +kernel
theorem d_L_law_1514 : decode c_L_law 1514 = .ok (.iconst 0, 1) := by decide +kernel
theorem d_L_law_1515 : decode c_L_law 1515 = .ok (.ireturn, 1) := by decide +kernel
theorem d_L_law_1516 : decode c_L_law 1516 = .ok (.iload 5, 2) := by decide +kernel
theorem d_L_law_1518 : decode c_L_law 1518 = .ok (.ifCond .ne 15, 3) := by decide +kernel
theorem d_L_law_1521 : decode c_L_law 1521 = .ok (.aload_n 3, 1) := by decide +kernel
theorem d_L_law_1522 : decode c_L_law 1522 = .ok (.iconst 0, 1) := by decide +kernel
theorem d_L_law_1523 : decode c_L_law 1523 = .ok (.laload, 1) := by decide +kernel
theorem d_L_law_1524 : decode c_L_law 1524 = .ok (.iload 6, 2) := by decide +kernel
theorem d_L_law_1526 : decode c_L_law 1526 = .ok (.i2l, 1) := by decide +kernel
theorem d_L_law_1527 : decode c_L_law 1527 = .ok (.lcmp, 1) := by decide +kernel
theorem d_L_law_1528 : decode c_L_law 1528 = .ok (.ifCond .eq 5, 3) := by decide +kernel
theorem d_L_law_1531 : decode c_L_law 1531 = .ok (.iconst 0, 1) := by decide +kernel
theorem d_L_law_1532 : decode c_L_law 1532 = .ok (.ireturn, 1) := by decide +kernel
theorem d_L_law_1533 : decode c_L_law 1533 = .ok (.goto 65, 3) := by decide +kernel
theorem d_L_law_1536 : decode c_L_law 1536 = .ok (.aload_n 1, 1) := by decide +kernel
theorem d_L_law_1537 : decode c_L_law 1537 = .ok (.aload_n 0, 1) := by decide +kernel
theorem d_L_law_1538 : decode c_L_law 1538 = .ok (.iload 4, 2) := by decide +kernel
theorem d_L_law_1540 : decode c_L_law 1540 = .ok (.iconst 1, 1) := by decide +kernel
theorem d_L_law_1541 : decode c_L_law 1541 = .ok (.iadd, 1) := by decide +kernel
theorem d_L_law_1542 : decode c_L_law 1542 = .ok (.iaload, 1) := by decide +kernel
theorem d_L_law_1543 : decode c_L_law 1543 = .ok (.aload_n 0, 1) := by decide +kernel
theorem d_L_law_1544 : decode c_L_law 1544 = .ok (.iload 4, 2) := by decide +kernel
theorem d_L_law_1546 : decode c_L_law 1546 = .ok (.iconst 2, 1) := by decide +kernel
theorem d_L_law_1547 : decode c_L_law 1547 = .ok (.iadd, 1) := by decide +kernel
theorem d_L_law_1548 : decode c_L_law 1548 = .ok (.iaload, 1) := by decide +kernel
theorem d_L_law_1549 : decode c_L_law 1549 = .ok (.invokestatic 167, 3) := by decide +kernel
theorem d_L_law_1552 : decode c_L_law 1552 = .ok (.istore 5, 2) := by decide +kernel
theorem d_L_law_1554 : decode c_L_law 1554 = .ok (.aload_n 2, 1) := by decide +kernel
theorem d_L_law_1555 : decode c_L_law 1555 = .ok (.aload_n 0, 1) := by decide +kernel
theorem d_L_law_1556 : decode c_L_law 1556 = .ok (.iload 4, 2) := by decide +kernel
theorem d_L_law_1558 : decode c_L_law 1558 = .ok (.iconst 1, 1) := by decide +kernel
theorem d_L_law_1559 : decode c_L_law 1559 = .ok (.iadd, 1) := by decide +kernel
theorem d_L_law_1560 : decode c_L_law 1560 = .ok (.iaload, 1) := by decide +kernel
theorem d_L_law_1561 : decode c_L_law 1561 = .ok (.aload_n 0, 1) := by decide +kernel
theorem d_L_law_1562 : decode c_L_law 1562 = .ok (.iload 4, 2) := by decide +kernel
theorem d_L_law_1564 : decode c_L_law 1564 = .ok (.iconst 2, 1) := by decide +kernel
theorem d_L_law_1565 : decode c_L_law 1565 = .ok (.iadd, 1) := by decide +kernel
theorem d_L_law_1566 : decode c_L_law 1566 = .ok (.iaload, 1) := by decide +kernel
theorem d_L_law_1567 : decode c_L_law 1567 = .ok (.invokevirtual 170, 3) := by decide +kernel
theorem d_L_law_1570 : decode c_L_law 1570 = .ok (.aload_n 2, 1) := by decide +kernel
theorem d_L_law_1571 : decode c_L_law 1571 = .ok (.invokevirtual 101, 3) := by decide +kernel
theorem d_L_law_1574 : decode c_L_law 1574 = .ok (.iload 5, 2) := by decide +kernel
theorem d_L_law_1576 : decode c_L_law 1576 = .ok (.if_icmp .eq 5, 3) := by decide +kernel
theorem d_L_law_1579 : decode c_L_law 1579 = .ok (.iconst 0, 1) := by decide +kernel
theorem d_L_law_1580 : decode c_L_law 1580 = .ok (.ireturn, 1) := by decide +kernel
theorem d_L_law_1581 : decode c_L_law 1581 = .ok (.goto 17, 3) := by decide +kernel
theorem d_L_law_1584 : decode c_L_law 1584 = .ok (.aload_n 1, 1) := by decide +kernel
theorem d_L_law_1585 : decode c_L_law 1585 = .ok (.invokevirtual 171, 3) := by decide +kernel
theorem d_L_law_1588 : decode c_L_law 1588 = .ok (.aload_n 2, 1) := by decide +kernel
theorem d_L_law_1589 : decode c_L_law 1589 = .ok (.invokevirtual 175, 3) := by decide +kernel
theorem d_L_law_1592 : decode c_L_law 1592 = .ok (.lcmp, 1) := by decide +kernel
theorem d_L_law_1593 : decode c_L_law 1593 = .ok (.ifCond .eq 5, 3) := by decide +kernel
theorem d_L_law_1596 : decode c_L_law 1596 = .ok (.iconst 0, 1) := by decide +kernel
theorem d_L_law_1597 : decode c_L_law 1597 = .ok (.ireturn, 1) := by decide +kernel
theorem d_L_law_1598 : decode c_L_law 1598 = .ok (.iinc 4 5, 3) := by decide +kernel
theorem d_L_law_1601 : decode c_L_law 1601 = .ok (.goto (-1568), 3) := by decide +kernel
theorem d_L_law_1604 : decode c_L_law 1604 = .ok (.iconst 1, 1) := by decide +kernel
theorem d_L_law_1605 : decode c_L_law 1605 = .ok (.ireturn, 1) := by decide +kernel
end
section
/-! Numbers: an int by its integer, a long by its integer, a boolean. -/
def iZ (z : Int) : Int32 := Int32.ofInt z
def lZ (z : Int) : Int64 := Int64.ofInt z
def bI (b : Bool) : Int32 := if b = true then 1 else 0
abbrev z32 (z : Int) : Prop := -2147483648 ≤ z ∧ z < 2147483648
abbrev z64 (z : Int) : Prop := -9223372036854775808 ≤ z ∧ z < 9223372036854775808
theorem iZ_add (a b : Int) : iZ a + iZ b = iZ (a + b) := (Int32.ofInt_add a b).symm
theorem iZ_sub (a b : Int) : iZ a - iZ b = iZ (a - b) := (Int32.ofInt_sub a b).symm
theorem iZ_mul (a b : Int) : iZ a * iZ b = iZ (a * b) := (Int32.ofInt_mul a b).symm
theorem iZ_neg (a : Int) : -iZ a = iZ (-a) := (Int32.ofInt_neg a).symm
theorem lZ_add (a b : Int) : lZ a + lZ b = lZ (a + b) := (Int64.ofInt_add a b).symm
theorem lZ_sub (a b : Int) : lZ a - lZ b = lZ (a - b) := (Int64.ofInt_sub a b).symm
theorem lZ_mul (a b : Int) : lZ a * lZ b = lZ (a * b) := (Int64.ofInt_mul a b).symm
theorem lZ_neg (a : Int) : -lZ a = lZ (-a) := (Int64.ofInt_neg a).symm
theorem iZ_t {z : Int} (h : z32 z) : (iZ z).toInt = z := Int32.toInt_ofInt_of_le (by omega) (by omega)
theorem lZ_t {z : Int} (h : z64 z) : (lZ z).toInt = z := Int64.toInt_ofInt_of_le (by omega) (by omega)
theorem iZ_of (x : Int32) : x = iZ x.toInt := (Int32.ofInt_toInt x).symm
theorem lZ_of (x : Int64) : x = lZ x.toInt := (Int64.ofInt_toInt x).symm
theorem i_32 (x : Int32) : z32 x.toInt := ⟨by have := x.le_toInt; omega, by have := x.toInt_lt; omega⟩
theorem l_64 (x : Int64) : z64 x.toInt := ⟨by have := x.le_toInt; omega, by have := x.toInt_lt; omega⟩
theorem iZ_ex (x : Int32) : ∃ z : Int, z32 z ∧ x = iZ z := ⟨_, i_32 x, iZ_of x⟩
theorem iZ_lt {a b : Int} (ha : z32 a) (hb : z32 b) : iZ a < iZ b ↔ a < b := by rw [Int32.lt_iff_toInt_lt, iZ_t ha, iZ_t hb]
theorem iZ_le {a b : Int} (ha : z32 a) (hb : z32 b) : iZ a ≤ iZ b ↔ a ≤ b := by rw [Int32.le_iff_toInt_le, iZ_t ha, iZ_t hb]
theorem iZ_eq {a b : Int} (ha : z32 a) (hb : z32 b) : iZ a = iZ b ↔ a = b := by rw [← Int32.toInt_inj, iZ_t ha, iZ_t hb]
theorem lZ_lt {a b : Int} (ha : z64 a) (hb : z64 b) : lZ a < lZ b ↔ a < b := by rw [Int64.lt_iff_toInt_lt, lZ_t ha, lZ_t hb]
theorem lZ_le {a b : Int} (ha : z64 a) (hb : z64 b) : lZ a ≤ lZ b ↔ a ≤ b := by rw [Int64.le_iff_toInt_le, lZ_t ha, lZ_t hb]
theorem lZ_eq {a b : Int} (ha : z64 a) (hb : z64 b) : lZ a = lZ b ↔ a = b := by rw [← Int64.toInt_inj, lZ_t ha, lZ_t hb]
theorem iZ_0 : iZ 0 = 0 := rfl
theorem z0 : z32 0 := ⟨by decide, by decide⟩
theorem lZ_0 : lZ 0 = 0 := rfl
theorem iZ_l {a : Int} (h : z32 a) : (iZ a).toInt64 = lZ a := Int64.toInt_inj.mp (by rw [Int32.toInt_toInt64, iZ_t h, lZ_t (by omega)])
theorem iZ_in {z : Int} {N : Nat} (h : 0 ≤ z ∧ z < (N : Int)) (hN : N < 2147483648) : vp_in (iZ z) N := vp_in_iff.mpr (by rw [iZ_t (by omega)]; exact h)
theorem iZ_cl {z : Int} {k : Nat} (h : z = (k : Int)) (hk : k < 2147483648) : (iZ z).toNatClampNeg = k := by
  subst h
  exact (Int32.toNatClampNeg_ofInt_of_le (by omega) (by omega)).trans (Int.toNat_natCast k)
theorem iZ_div {a b : Int} (ha : z32 a) (hb : z32 b) (h : b ≠ -1) : iZ a / iZ b = iZ (a.tdiv b) := by
  refine Int32.toInt_inj.mp ?_
  rw [Int32.toInt_div_of_ne_right _ _ (fun e => h ((iZ_eq hb (by omega)).mp (e.trans (show (-1 : Int32) = iZ (-1) from rfl)))), iZ_t ha, iZ_t hb, iZ_t]
  have h1 := Int.natAbs_tdiv_le_natAbs a b
  by_cases q : a.tdiv b = 2147483648
  · exfalso
    have h2 : (a.tdiv b).natAbs = a.natAbs / b.natAbs := Int.natAbs_tdiv a b
    rw [q] at h2
    have h3 : a.natAbs ≤ 2147483648 := by omega
    have h4 : a.natAbs / b.natAbs ≤ a.natAbs := Nat.div_le_self _ _
    have h5 : a.natAbs = 2147483648 := by
      have : (2147483648 : Int).natAbs = 2147483648 := rfl
      omega
    rw [h5] at h2
    have h6 : a = -2147483648 := by omega
    have hb1 : b.natAbs = 1 := by
      have : (2147483648 : Int).natAbs = 2147483648 := rfl
      rw [this] at h2
      rcases Nat.lt_or_ge b.natAbs 2 with g | g
      · rcases Nat.lt_or_ge b.natAbs 1 with g2 | g2
        · have : b.natAbs = 0 := by omega
          rw [this] at h2; simp at h2
        · omega
      · have := Nat.div_le_div_left (a := 2147483648) g (by decide)
        omega
    have hb2 : b = 1 := by omega
    rw [hb2, Int.tdiv_one] at q
    omega
  · omega
end
section
section ZR
variable {p : Program} {l : Launch} {e : Env} {R : Room} {s : State} {m : MethodId} {args : Array Value} {below : List Frame} {meth : Method} {c : Code} {H : Heap} {locs : List Loc} {cells slots : Nat} {Q : State → Prop}
variable {cc : ByteArray} {pc : Nat} {ls : Array Slot} {rest : List Value}
theorem z_iadd (hx : p.tables.exec = Jvm.exec) (hb : c.code = cc) {a b : Int} (hdg : decode cc pc = .ok (.iadd, 1)) (k : W p l e R s m args below meth c H locs cells slots Q (F0 m (pc + 1) ls (.int (iZ (a + b)) :: rest))) : W p l e R s m args below meth c H locs cells slots Q (F0 m pc ls (.int (iZ b) :: .int (iZ a) :: rest)) := lv_iadd hx hb hdg (by rw [iZ_add]; exact k)
theorem z_isub (hx : p.tables.exec = Jvm.exec) (hb : c.code = cc) {a b : Int} (hdg : decode cc pc = .ok (.isub, 1)) (k : W p l e R s m args below meth c H locs cells slots Q (F0 m (pc + 1) ls (.int (iZ (a - b)) :: rest))) : W p l e R s m args below meth c H locs cells slots Q (F0 m pc ls (.int (iZ b) :: .int (iZ a) :: rest)) := lv_isub hx hb hdg (by rw [iZ_sub]; exact k)
theorem z_imul (hx : p.tables.exec = Jvm.exec) (hb : c.code = cc) {a b : Int} (hdg : decode cc pc = .ok (.imul, 1)) (k : W p l e R s m args below meth c H locs cells slots Q (F0 m (pc + 1) ls (.int (iZ (a * b)) :: rest))) : W p l e R s m args below meth c H locs cells slots Q (F0 m pc ls (.int (iZ b) :: .int (iZ a) :: rest)) := lv_imul hx hb hdg (by rw [iZ_mul]; exact k)
theorem z_ineg (hx : p.tables.exec = Jvm.exec) (hb : c.code = cc) {a : Int} (hdg : decode cc pc = .ok (.ineg, 1)) (k : W p l e R s m args below meth c H locs cells slots Q (F0 m (pc + 1) ls (.int (iZ (-a)) :: rest))) : W p l e R s m args below meth c H locs cells slots Q (F0 m pc ls (.int (iZ a) :: rest)) := lv_ineg hx hb hdg (by rw [iZ_neg]; exact k)
theorem z_ladd (hx : p.tables.exec = Jvm.exec) (hb : c.code = cc) {a b : Int} (hdg : decode cc pc = .ok (.ladd, 1)) (k : W p l e R s m args below meth c H locs cells slots Q (F0 m (pc + 1) ls (.long (lZ (a + b)) :: rest))) : W p l e R s m args below meth c H locs cells slots Q (F0 m pc ls (.long (lZ b) :: .long (lZ a) :: rest)) := lv_ladd hx hb hdg (by rw [lZ_add]; exact k)
theorem z_lsub (hx : p.tables.exec = Jvm.exec) (hb : c.code = cc) {a b : Int} (hdg : decode cc pc = .ok (.lsub, 1)) (k : W p l e R s m args below meth c H locs cells slots Q (F0 m (pc + 1) ls (.long (lZ (a - b)) :: rest))) : W p l e R s m args below meth c H locs cells slots Q (F0 m pc ls (.long (lZ b) :: .long (lZ a) :: rest)) := lv_lsub hx hb hdg (by rw [lZ_sub]; exact k)
theorem z_lmul (hx : p.tables.exec = Jvm.exec) (hb : c.code = cc) {a b : Int} (hdg : decode cc pc = .ok (.lmul, 1)) (k : W p l e R s m args below meth c H locs cells slots Q (F0 m (pc + 1) ls (.long (lZ (a * b)) :: rest))) : W p l e R s m args below meth c H locs cells slots Q (F0 m pc ls (.long (lZ b) :: .long (lZ a) :: rest)) := lv_lmul hx hb hdg (by rw [lZ_mul]; exact k)
theorem z_i2l (hx : p.tables.exec = Jvm.exec) (hb : c.code = cc) {a : Int} (h : z32 a) (hdg : decode cc pc = .ok (.i2l, 1)) (k : W p l e R s m args below meth c H locs cells slots Q (F0 m (pc + 1) ls (.long (lZ a) :: rest))) : W p l e R s m args below meth c H locs cells slots Q (F0 m pc ls (.int (iZ a) :: rest)) := lv_i2l hx hb hdg (iZ_l h) k
theorem z_icmp_eq (hx : p.tables.exec = Jvm.exec) (hb : c.code = cc) {a b : Int} (hz : z32 a ∧ z32 b) {off : Int} {tgt : Nat} (hdg : decode cc pc = .ok (.if_icmp .eq off, 3)) (ht : (pc : Int) + off = (tgt : Int)) (kt : a = b → W p l e R s m args below meth c H locs cells slots Q (F0 m tgt ls rest)) (kf : ¬ a = b → W p l e R s m args below meth c H locs cells slots Q (F0 m (pc + 3) ls rest)) : W p l e R s m args below meth c H locs cells slots Q (F0 m pc ls (.int (iZ b) :: .int (iZ a) :: rest)) := lv_icmp_eq hx hb hdg ht (fun q => kt ((iZ_eq hz.1 hz.2).mp q)) (fun q => kf (fun h => q ((iZ_eq hz.1 hz.2).mpr h)))
theorem z_if_eq (hx : p.tables.exec = Jvm.exec) (hb : c.code = cc) {a : Int} (hz : z32 a) {off : Int} {tgt : Nat} (hdg : decode cc pc = .ok (.ifCond .eq off, 3)) (ht : (pc : Int) + off = (tgt : Int)) (kt : a = 0 → W p l e R s m args below meth c H locs cells slots Q (F0 m tgt ls rest)) (kf : ¬ a = 0 → W p l e R s m args below meth c H locs cells slots Q (F0 m (pc + 3) ls rest)) : W p l e R s m args below meth c H locs cells slots Q (F0 m pc ls (.int (iZ a) :: rest)) := lv_if_eq hx hb hdg ht (fun q => kt ((iZ_eq hz z0).mp q)) (fun q => kf (fun h => q ((iZ_eq hz z0).mpr h)))
theorem z_icmp_ne (hx : p.tables.exec = Jvm.exec) (hb : c.code = cc) {a b : Int} (hz : z32 a ∧ z32 b) {off : Int} {tgt : Nat} (hdg : decode cc pc = .ok (.if_icmp .ne off, 3)) (ht : (pc : Int) + off = (tgt : Int)) (kt : ¬ a = b → W p l e R s m args below meth c H locs cells slots Q (F0 m tgt ls rest)) (kf : a = b → W p l e R s m args below meth c H locs cells slots Q (F0 m (pc + 3) ls rest)) : W p l e R s m args below meth c H locs cells slots Q (F0 m pc ls (.int (iZ b) :: .int (iZ a) :: rest)) := lv_icmp_ne hx hb hdg ht (fun q => kt (fun h => q ((iZ_eq hz.1 hz.2).mpr h))) (fun q => kf ((iZ_eq hz.1 hz.2).mp q))
theorem z_if_ne (hx : p.tables.exec = Jvm.exec) (hb : c.code = cc) {a : Int} (hz : z32 a) {off : Int} {tgt : Nat} (hdg : decode cc pc = .ok (.ifCond .ne off, 3)) (ht : (pc : Int) + off = (tgt : Int)) (kt : ¬ a = 0 → W p l e R s m args below meth c H locs cells slots Q (F0 m tgt ls rest)) (kf : a = 0 → W p l e R s m args below meth c H locs cells slots Q (F0 m (pc + 3) ls rest)) : W p l e R s m args below meth c H locs cells slots Q (F0 m pc ls (.int (iZ a) :: rest)) := lv_if_ne hx hb hdg ht (fun q => kt (fun h => q ((iZ_eq hz z0).mpr h))) (fun q => kf ((iZ_eq hz z0).mp q))
theorem z_icmp_lt (hx : p.tables.exec = Jvm.exec) (hb : c.code = cc) {a b : Int} (hz : z32 a ∧ z32 b) {off : Int} {tgt : Nat} (hdg : decode cc pc = .ok (.if_icmp .lt off, 3)) (ht : (pc : Int) + off = (tgt : Int)) (kt : a < b → W p l e R s m args below meth c H locs cells slots Q (F0 m tgt ls rest)) (kf : b ≤ a → W p l e R s m args below meth c H locs cells slots Q (F0 m (pc + 3) ls rest)) : W p l e R s m args below meth c H locs cells slots Q (F0 m pc ls (.int (iZ b) :: .int (iZ a) :: rest)) := lv_icmp_lt hx hb hdg ht (fun q => kt ((iZ_lt hz.1 hz.2).mp q)) (fun q => kf (Int.not_lt.mp (fun h => q ((iZ_lt hz.1 hz.2).mpr h))))
theorem z_if_lt (hx : p.tables.exec = Jvm.exec) (hb : c.code = cc) {a : Int} (hz : z32 a) {off : Int} {tgt : Nat} (hdg : decode cc pc = .ok (.ifCond .lt off, 3)) (ht : (pc : Int) + off = (tgt : Int)) (kt : a < 0 → W p l e R s m args below meth c H locs cells slots Q (F0 m tgt ls rest)) (kf : 0 ≤ a → W p l e R s m args below meth c H locs cells slots Q (F0 m (pc + 3) ls rest)) : W p l e R s m args below meth c H locs cells slots Q (F0 m pc ls (.int (iZ a) :: rest)) := lv_if_lt hx hb hdg ht (fun q => kt ((iZ_lt hz z0).mp q)) (fun q => kf (Int.not_lt.mp (fun h => q ((iZ_lt hz z0).mpr h))))
theorem z_icmp_ge (hx : p.tables.exec = Jvm.exec) (hb : c.code = cc) {a b : Int} (hz : z32 a ∧ z32 b) {off : Int} {tgt : Nat} (hdg : decode cc pc = .ok (.if_icmp .ge off, 3)) (ht : (pc : Int) + off = (tgt : Int)) (kt : b ≤ a → W p l e R s m args below meth c H locs cells slots Q (F0 m tgt ls rest)) (kf : a < b → W p l e R s m args below meth c H locs cells slots Q (F0 m (pc + 3) ls rest)) : W p l e R s m args below meth c H locs cells slots Q (F0 m pc ls (.int (iZ b) :: .int (iZ a) :: rest)) := lv_icmp_ge hx hb hdg ht (fun q => kt ((iZ_le hz.2 hz.1).mp q)) (fun q => kf (Int.not_le.mp (fun h => q ((iZ_le hz.2 hz.1).mpr h))))
theorem z_if_ge (hx : p.tables.exec = Jvm.exec) (hb : c.code = cc) {a : Int} (hz : z32 a) {off : Int} {tgt : Nat} (hdg : decode cc pc = .ok (.ifCond .ge off, 3)) (ht : (pc : Int) + off = (tgt : Int)) (kt : 0 ≤ a → W p l e R s m args below meth c H locs cells slots Q (F0 m tgt ls rest)) (kf : a < 0 → W p l e R s m args below meth c H locs cells slots Q (F0 m (pc + 3) ls rest)) : W p l e R s m args below meth c H locs cells slots Q (F0 m pc ls (.int (iZ a) :: rest)) := lv_if_ge hx hb hdg ht (fun q => kt ((iZ_le z0 hz).mp q)) (fun q => kf (Int.not_le.mp (fun h => q ((iZ_le z0 hz).mpr h))))
theorem z_icmp_gt (hx : p.tables.exec = Jvm.exec) (hb : c.code = cc) {a b : Int} (hz : z32 a ∧ z32 b) {off : Int} {tgt : Nat} (hdg : decode cc pc = .ok (.if_icmp .gt off, 3)) (ht : (pc : Int) + off = (tgt : Int)) (kt : b < a → W p l e R s m args below meth c H locs cells slots Q (F0 m tgt ls rest)) (kf : a ≤ b → W p l e R s m args below meth c H locs cells slots Q (F0 m (pc + 3) ls rest)) : W p l e R s m args below meth c H locs cells slots Q (F0 m pc ls (.int (iZ b) :: .int (iZ a) :: rest)) := lv_icmp_gt hx hb hdg ht (fun q => kt ((iZ_lt hz.2 hz.1).mp q)) (fun q => kf (Int.not_lt.mp (fun h => q ((iZ_lt hz.2 hz.1).mpr h))))
theorem z_if_gt (hx : p.tables.exec = Jvm.exec) (hb : c.code = cc) {a : Int} (hz : z32 a) {off : Int} {tgt : Nat} (hdg : decode cc pc = .ok (.ifCond .gt off, 3)) (ht : (pc : Int) + off = (tgt : Int)) (kt : 0 < a → W p l e R s m args below meth c H locs cells slots Q (F0 m tgt ls rest)) (kf : a ≤ 0 → W p l e R s m args below meth c H locs cells slots Q (F0 m (pc + 3) ls rest)) : W p l e R s m args below meth c H locs cells slots Q (F0 m pc ls (.int (iZ a) :: rest)) := lv_if_gt hx hb hdg ht (fun q => kt ((iZ_lt z0 hz).mp q)) (fun q => kf (Int.not_lt.mp (fun h => q ((iZ_lt z0 hz).mpr h))))
theorem z_icmp_le (hx : p.tables.exec = Jvm.exec) (hb : c.code = cc) {a b : Int} (hz : z32 a ∧ z32 b) {off : Int} {tgt : Nat} (hdg : decode cc pc = .ok (.if_icmp .le off, 3)) (ht : (pc : Int) + off = (tgt : Int)) (kt : a ≤ b → W p l e R s m args below meth c H locs cells slots Q (F0 m tgt ls rest)) (kf : b < a → W p l e R s m args below meth c H locs cells slots Q (F0 m (pc + 3) ls rest)) : W p l e R s m args below meth c H locs cells slots Q (F0 m pc ls (.int (iZ b) :: .int (iZ a) :: rest)) := lv_icmp_le hx hb hdg ht (fun q => kt ((iZ_le hz.1 hz.2).mp q)) (fun q => kf (Int.not_le.mp (fun h => q ((iZ_le hz.1 hz.2).mpr h))))
theorem z_if_le (hx : p.tables.exec = Jvm.exec) (hb : c.code = cc) {a : Int} (hz : z32 a) {off : Int} {tgt : Nat} (hdg : decode cc pc = .ok (.ifCond .le off, 3)) (ht : (pc : Int) + off = (tgt : Int)) (kt : a ≤ 0 → W p l e R s m args below meth c H locs cells slots Q (F0 m tgt ls rest)) (kf : 0 < a → W p l e R s m args below meth c H locs cells slots Q (F0 m (pc + 3) ls rest)) : W p l e R s m args below meth c H locs cells slots Q (F0 m pc ls (.int (iZ a) :: rest)) := lv_if_le hx hb hdg ht (fun q => kt ((iZ_le hz z0).mp q)) (fun q => kf (Int.not_le.mp (fun h => q ((iZ_le hz z0).mpr h))))
theorem z_if_eqB (hx : p.tables.exec = Jvm.exec) (hb : c.code = cc) {b : Bool} {off : Int} {tgt : Nat} (hdg : decode cc pc = .ok (.ifCond .eq off, 3)) (ht : (pc : Int) + off = (tgt : Int)) (kt : b = false → W p l e R s m args below meth c H locs cells slots Q (F0 m tgt ls rest)) (kf : b = true → W p l e R s m args below meth c H locs cells slots Q (F0 m (pc + 3) ls rest)) : W p l e R s m args below meth c H locs cells slots Q (F0 m pc ls (.int (bI b) :: rest)) := lv_if_eq hx hb hdg ht (fun q => kt (by cases b with | false => rfl | true => exact absurd q (by decide))) (fun q => kf (by cases b with | true => rfl | false => exact absurd rfl q))
theorem z_if_neB (hx : p.tables.exec = Jvm.exec) (hb : c.code = cc) {b : Bool} {off : Int} {tgt : Nat} (hdg : decode cc pc = .ok (.ifCond .ne off, 3)) (ht : (pc : Int) + off = (tgt : Int)) (kt : b = true → W p l e R s m args below meth c H locs cells slots Q (F0 m tgt ls rest)) (kf : b = false → W p l e R s m args below meth c H locs cells slots Q (F0 m (pc + 3) ls rest)) : W p l e R s m args below meth c H locs cells slots Q (F0 m pc ls (.int (bI b) :: rest)) := lv_if_ne hx hb hdg ht (fun q => kt (by cases b with | true => rfl | false => exact absurd rfl q)) (fun q => kf (by cases b with | false => rfl | true => exact absurd q (by decide)))
/-- lcmp, then a jump -/
theorem z_lcmp_eq (hx : p.tables.exec = Jvm.exec) (hb : c.code = cc) {a b : Int} (hz : z64 a ∧ z64 b) {off : Int} {tgt pc1 pc4 : Nat} (hdg : decode cc pc = .ok (.lcmp, 1)) (h1 : pc1 = pc + 1) (h4 : pc4 = pc + 4) (hdg2 : decode cc pc1 = .ok (.ifCond .eq off, 3)) (ht : (pc1 : Int) + off = (tgt : Int)) (kt : a = b → W p l e R s m args below meth c H locs cells slots Q (F0 m tgt ls rest)) (kf : ¬ a = b → W p l e R s m args below meth c H locs cells slots Q (F0 m pc4 ls rest)) : W p l e R s m args below meth c H locs cells slots Q (F0 m pc ls (.long (lZ b) :: .long (lZ a) :: rest)) := by
  subst h1; subst h4
  exact W.lcmp hx hb hdg (lv_if_eq hx hb hdg2 ht (fun q => kt ((lZ_eq hz.1 hz.2).mp ((lg_cmp_eq _ _).mp q))) (fun q => kf (fun h => q ((lg_cmp_eq _ _).mpr ((lZ_eq hz.1 hz.2).mpr h)))))
theorem z_lcmp_ne (hx : p.tables.exec = Jvm.exec) (hb : c.code = cc) {a b : Int} (hz : z64 a ∧ z64 b) {off : Int} {tgt pc1 pc4 : Nat} (hdg : decode cc pc = .ok (.lcmp, 1)) (h1 : pc1 = pc + 1) (h4 : pc4 = pc + 4) (hdg2 : decode cc pc1 = .ok (.ifCond .ne off, 3)) (ht : (pc1 : Int) + off = (tgt : Int)) (kt : ¬ a = b → W p l e R s m args below meth c H locs cells slots Q (F0 m tgt ls rest)) (kf : a = b → W p l e R s m args below meth c H locs cells slots Q (F0 m pc4 ls rest)) : W p l e R s m args below meth c H locs cells slots Q (F0 m pc ls (.long (lZ b) :: .long (lZ a) :: rest)) := by
  subst h1; subst h4
  exact W.lcmp hx hb hdg (lv_if_ne hx hb hdg2 ht (fun q => kt (fun h => q ((lg_cmp_eq _ _).mpr ((lZ_eq hz.1 hz.2).mpr h)))) (fun q => kf ((lZ_eq hz.1 hz.2).mp ((lg_cmp_eq _ _).mp q))))
theorem z_lcmp_lt (hx : p.tables.exec = Jvm.exec) (hb : c.code = cc) {a b : Int} (hz : z64 a ∧ z64 b) {off : Int} {tgt pc1 pc4 : Nat} (hdg : decode cc pc = .ok (.lcmp, 1)) (h1 : pc1 = pc + 1) (h4 : pc4 = pc + 4) (hdg2 : decode cc pc1 = .ok (.ifCond .lt off, 3)) (ht : (pc1 : Int) + off = (tgt : Int)) (kt : a < b → W p l e R s m args below meth c H locs cells slots Q (F0 m tgt ls rest)) (kf : b ≤ a → W p l e R s m args below meth c H locs cells slots Q (F0 m pc4 ls rest)) : W p l e R s m args below meth c H locs cells slots Q (F0 m pc ls (.long (lZ b) :: .long (lZ a) :: rest)) := by
  subst h1; subst h4
  exact W.lcmp hx hb hdg (lv_if_lt hx hb hdg2 ht (fun q => kt ((lZ_lt hz.1 hz.2).mp ((lg_cmp_lt _ _).mp q))) (fun q => kf (Int.not_lt.mp (fun h => q ((lg_cmp_lt _ _).mpr ((lZ_lt hz.1 hz.2).mpr h))))))
theorem z_lcmp_ge (hx : p.tables.exec = Jvm.exec) (hb : c.code = cc) {a b : Int} (hz : z64 a ∧ z64 b) {off : Int} {tgt pc1 pc4 : Nat} (hdg : decode cc pc = .ok (.lcmp, 1)) (h1 : pc1 = pc + 1) (h4 : pc4 = pc + 4) (hdg2 : decode cc pc1 = .ok (.ifCond .ge off, 3)) (ht : (pc1 : Int) + off = (tgt : Int)) (kt : b ≤ a → W p l e R s m args below meth c H locs cells slots Q (F0 m tgt ls rest)) (kf : a < b → W p l e R s m args below meth c H locs cells slots Q (F0 m pc4 ls rest)) : W p l e R s m args below meth c H locs cells slots Q (F0 m pc ls (.long (lZ b) :: .long (lZ a) :: rest)) := by
  subst h1; subst h4
  exact W.lcmp hx hb hdg (lv_if_ge hx hb hdg2 ht (fun q => kt ((lZ_le hz.2 hz.1).mp ((lg_cmp_ge _ _).mp q))) (fun q => kf (Int.not_le.mp (fun h => q ((lg_cmp_ge _ _).mpr ((lZ_le hz.2 hz.1).mpr h))))))
theorem z_lcmp_gt (hx : p.tables.exec = Jvm.exec) (hb : c.code = cc) {a b : Int} (hz : z64 a ∧ z64 b) {off : Int} {tgt pc1 pc4 : Nat} (hdg : decode cc pc = .ok (.lcmp, 1)) (h1 : pc1 = pc + 1) (h4 : pc4 = pc + 4) (hdg2 : decode cc pc1 = .ok (.ifCond .gt off, 3)) (ht : (pc1 : Int) + off = (tgt : Int)) (kt : b < a → W p l e R s m args below meth c H locs cells slots Q (F0 m tgt ls rest)) (kf : a ≤ b → W p l e R s m args below meth c H locs cells slots Q (F0 m pc4 ls rest)) : W p l e R s m args below meth c H locs cells slots Q (F0 m pc ls (.long (lZ b) :: .long (lZ a) :: rest)) := by
  subst h1; subst h4
  exact W.lcmp hx hb hdg (lv_if_gt hx hb hdg2 ht (fun q => kt ((lZ_lt hz.2 hz.1).mp ((lg_cmp_gt _ _).mp q))) (fun q => kf (Int.not_lt.mp (fun h => q ((lg_cmp_gt _ _).mpr ((lZ_lt hz.2 hz.1).mpr h))))))
theorem z_lcmp_le (hx : p.tables.exec = Jvm.exec) (hb : c.code = cc) {a b : Int} (hz : z64 a ∧ z64 b) {off : Int} {tgt pc1 pc4 : Nat} (hdg : decode cc pc = .ok (.lcmp, 1)) (h1 : pc1 = pc + 1) (h4 : pc4 = pc + 4) (hdg2 : decode cc pc1 = .ok (.ifCond .le off, 3)) (ht : (pc1 : Int) + off = (tgt : Int)) (kt : a ≤ b → W p l e R s m args below meth c H locs cells slots Q (F0 m tgt ls rest)) (kf : b < a → W p l e R s m args below meth c H locs cells slots Q (F0 m pc4 ls rest)) : W p l e R s m args below meth c H locs cells slots Q (F0 m pc ls (.long (lZ b) :: .long (lZ a) :: rest)) := by
  subst h1; subst h4
  exact W.lcmp hx hb hdg (lv_if_le hx hb hdg2 ht (fun q => kt ((lZ_le hz.1 hz.2).mp ((lg_cmp_le _ _).mp q))) (fun q => kf (Int.not_le.mp (fun h => q ((lg_cmp_le _ _).mpr ((lZ_le hz.1 hz.2).mpr h))))))
end ZR
end
section
/-! Arrays by their integers; the tables' words as one fact; contracts over one world. -/
abbrev zA (f : Nat → Int) : Nat → Int32 := fun j => iZ (f j)
abbrev zB (g : Nat → Bool) : Nat → Int32 := fun j => bI (g j)
abbrev zL (f : Nat → Int) : Nat → Int64 := fun j => lZ (f j)
def zu (f : Nat → Int) (k : Nat) (v : Int) : Nat → Int := fun j => if j = k then v else f j
def zub (g : Nat → Bool) (k : Nat) (v : Bool) : Nat → Bool := fun j => if j = k then v else g j
theorem zu_s (f : Nat → Int) (k : Nat) (v : Int) : zu f k v k = v := if_pos rfl
theorem zu_n (f : Nat → Int) {k j : Nat} (v : Int) (h : j ≠ k) : zu f k v j = f j := if_neg h
theorem zub_s (g : Nat → Bool) (k : Nat) (v : Bool) : zub g k v k = v := if_pos rfl
theorem zub_n (g : Nat → Bool) {k j : Nat} (v : Bool) (h : j ≠ k) : zub g k v j = g j := if_neg h
theorem zA_u (f : Nat → Int) (k : Nat) (v : Int) : upd (zA f) k (iZ v) = zA (zu f k v) := funext fun j => by
  show (if j = k then iZ v else iZ (f j)) = iZ (if j = k then v else f j)
  by_cases h : j = k
  · rw [if_pos h, if_pos h]
  · rw [if_neg h, if_neg h]
theorem zL_u (f : Nat → Int) (k : Nat) (v : Int) : vp_updL (zL f) k (lZ v) = zL (zu f k v) := funext fun j => by
  show (if j = k then lZ v else lZ (f j)) = lZ (if j = k then v else f j)
  by_cases h : j = k
  · rw [if_pos h, if_pos h]
  · rw [if_neg h, if_neg h]
theorem zB_u (g : Nat → Bool) (k : Nat) (v : Bool) : upd (zB g) k (vp_nar .boolean (bI v)) = zB (zub g k v) := funext fun j => by
  have e : vp_nar .boolean (bI v) = bI v := by cases v <;> decide
  rw [e]
  show (if j = k then bI v else bI (g j)) = bI (if j = k then v else g j)
  by_cases h : j = k
  · rw [if_pos h, if_pos h]
  · rw [if_neg h, if_neg h]
section ZAR
variable {p : Program} {l : Launch} {e : Env} {R : Room} {s : State} {m : MethodId} {args : Array Value} {below : List Frame} {meth : Method} {c : Code} {H : Heap} {locs : List Loc} {cells slots : Nat} {Q : State → Prop}
variable {cc : ByteArray} {pc : Nat} {ls : Array Slot} {rest : List Value} {D : va_G} {cl : List vw_C} {A : Nat → Prop} {a : Nat} {tys : List (ClassId × FieldType)} {ws : va_W} {H0 : Heap}
theorem z_iald (hx : p.tables.exec = Jvm.exec) (hb : c.code = cc) (hK : va_K D cl tys s) (hP : va_P D cl ws H) (q0 t0 : Nat) {cA : ClassId} {n : Nat} {f : Nat → Int} (ha : ws[q0]? = some (a, .inl (cA, n, .inl (zA f)))) (ht : tys[t0]? = some (cA, .int)) {i : Int} (k : Nat) (hi : i = (k : Int) ∧ k < n ∧ n < 2147483648) (hdg : decode cc pc = .ok (.iaload, 1))
    (kk : W p l e R s m args below meth c H locs cells slots Q (F0 m (pc + 1) ls (.int (iZ (f k)) :: rest))) : W p l e R s m args below meth c H locs cells slots Q (F0 m pc ls (.int (iZ i) :: .ref a :: rest)) :=
  va_iald hx hb hK hP q0 t0 ha ht (iZ_in (by omega) hi.2.2) hdg (by rw [show zA f (iZ i).toNatClampNeg = iZ (f k) from by rw [iZ_cl hi.1 (by omega)]]; exact kk)
theorem z_zald (hx : p.tables.exec = Jvm.exec) (hb : c.code = cc) (hK : va_K D cl tys s) (hP : va_P D cl ws H) (q0 t0 : Nat) {cA : ClassId} {n : Nat} {f : Nat → Bool} (ha : ws[q0]? = some (a, .inl (cA, n, .inl (zB f)))) (ht : tys[t0]? = some (cA, .boolean)) {i : Int} (k : Nat) (hi : i = (k : Int) ∧ k < n ∧ n < 2147483648) (hdg : decode cc pc = .ok (.baload, 1))
    (kk : W p l e R s m args below meth c H locs cells slots Q (F0 m (pc + 1) ls (.int (bI (f k)) :: rest))) : W p l e R s m args below meth c H locs cells slots Q (F0 m pc ls (.int (iZ i) :: .ref a :: rest)) :=
  va_zald hx hb hK hP q0 t0 ha ht (iZ_in (by omega) hi.2.2) hdg (by rw [show zB f (iZ i).toNatClampNeg = bI (f k) from by rw [iZ_cl hi.1 (by omega)]]; exact kk)
theorem z_lald (hx : p.tables.exec = Jvm.exec) (hb : c.code = cc) (hK : va_K D cl tys s) (hP : va_P D cl ws H) (q0 t0 : Nat) {cA : ClassId} {n : Nat} {f : Nat → Int} (ha : ws[q0]? = some (a, .inl (cA, n, .inr (.inl (zL f))))) (ht : tys[t0]? = some (cA, .long)) {i : Int} (k : Nat) (hi : i = (k : Int) ∧ k < n ∧ n < 2147483648) (hdg : decode cc pc = .ok (.laload, 1))
    (kk : W p l e R s m args below meth c H locs cells slots Q (F0 m (pc + 1) ls (.long (lZ (f k)) :: rest))) : W p l e R s m args below meth c H locs cells slots Q (F0 m pc ls (.int (iZ i) :: .ref a :: rest)) :=
  va_lald hx hb hK hP q0 t0 ha ht (iZ_in (by omega) hi.2.2) hdg (by rw [show zL f (iZ i).toNatClampNeg = lZ (f k) from by rw [iZ_cl hi.1 (by omega)]]; exact kk)
theorem z_iast (hx : p.tables.exec = Jvm.exec) (hb : c.code = cc) (hK : va_K D cl tys s) (hP : va_P D cl ws H) (hD : va_D A ws) (hS : va_S A H0 H locs) (q0 t0 : Nat) {cA : ClassId} {n : Nat} {f : Nat → Int} (ha : ws[q0]? = some (a, .inl (cA, n, .inl (zA f)))) (ht : tys[t0]? = some (cA, .int)) {i v : Int} (k : Nat) (hi : i = (k : Int) ∧ k < n ∧ n < 2147483648) (hdg : decode cc pc = .ok (.iastore, 1))
    (kk : ∀ (H1 : Heap) (locs1 : List Loc), va_P D cl (ws.set q0 (a, .inl (cA, n, .inl (zA (zu f k v))))) H1 → va_D A (ws.set q0 (a, .inl (cA, n, .inl (zA (zu f k v))))) → va_S A H0 H1 locs1 → W p l e R s m args below meth c H1 locs1 cells slots Q (F0 m (pc + 1) ls rest)) : W p l e R s m args below meth c H locs cells slots Q (F0 m pc ls (.int (iZ v) :: .int (iZ i) :: .ref a :: rest)) := by
  refine va_iast hx hb hK hP hD hS q0 t0 ha ht (iZ_in (by omega) hi.2.2) hdg ?_
  rw [iZ_cl hi.1 (by omega), zA_u]
  exact kk
theorem z_zast (hx : p.tables.exec = Jvm.exec) (hb : c.code = cc) (hK : va_K D cl tys s) (hP : va_P D cl ws H) (hD : va_D A ws) (hS : va_S A H0 H locs) (q0 t0 : Nat) {cA : ClassId} {n : Nat} {f : Nat → Bool} (ha : ws[q0]? = some (a, .inl (cA, n, .inl (zB f)))) (ht : tys[t0]? = some (cA, .boolean)) {i : Int} {v : Bool} (k : Nat) (hi : i = (k : Int) ∧ k < n ∧ n < 2147483648) (hdg : decode cc pc = .ok (.bastore, 1))
    (kk : ∀ (H1 : Heap) (locs1 : List Loc), va_P D cl (ws.set q0 (a, .inl (cA, n, .inl (zB (zub f k v))))) H1 → va_D A (ws.set q0 (a, .inl (cA, n, .inl (zB (zub f k v))))) → va_S A H0 H1 locs1 → W p l e R s m args below meth c H1 locs1 cells slots Q (F0 m (pc + 1) ls rest)) : W p l e R s m args below meth c H locs cells slots Q (F0 m pc ls (.int (bI v) :: .int (iZ i) :: .ref a :: rest)) := by
  refine va_zast hx hb hK hP hD hS q0 t0 ha ht (iZ_in (by omega) hi.2.2) hdg ?_
  rw [iZ_cl hi.1 (by omega), zB_u]
  exact kk
theorem z_last (hx : p.tables.exec = Jvm.exec) (hb : c.code = cc) (hK : va_K D cl tys s) (hP : va_P D cl ws H) (hD : va_D A ws) (hS : va_S A H0 H locs) (q0 t0 : Nat) {cA : ClassId} {n : Nat} {f : Nat → Int} (ha : ws[q0]? = some (a, .inl (cA, n, .inr (.inl (zL f))))) (ht : tys[t0]? = some (cA, .long)) {i v : Int} (k : Nat) (hi : i = (k : Int) ∧ k < n ∧ n < 2147483648) (hdg : decode cc pc = .ok (.lastore, 1))
    (kk : ∀ (H1 : Heap) (locs1 : List Loc), va_P D cl (ws.set q0 (a, .inl (cA, n, .inr (.inl (zL (zu f k v)))))) H1 → va_D A (ws.set q0 (a, .inl (cA, n, .inr (.inl (zL (zu f k v)))))) → va_S A H0 H1 locs1 → W p l e R s m args below meth c H1 locs1 cells slots Q (F0 m (pc + 1) ls rest)) : W p l e R s m args below meth c H locs cells slots Q (F0 m pc ls (.long (lZ v) :: .int (iZ i) :: .ref a :: rest)) := by
  refine va_last hx hb hK hP hD hS q0 t0 ha ht (iZ_in (by omega) hi.2.2) hdg ?_
  rw [iZ_cl hi.1 (by omega), zL_u]
  exact kk
end ZAR
/-- a word that stays when the tables are warmed -/
def zst : Cond → Bool
  | .arrayClass _ => true
  | .fieldLinkNest _ _ _ _ _ _ => true
  | .methodLinkNest _ _ _ _ => true
  | .castable _ _ => true
  | .declares _ => true
  | .not (.castable _ _) => true
  | w => w.onTables && w.keeps
/-- the tables' words, whatever the arguments -/
def zE (TB : List Cond) (U : State) : Prop := ∀ w ∈ TB, ∀ a : Array Value, w.before a U = true
theorem zst_warm {w : Cond} {s U : State} (hz : zst w = true) (hW : s.WarmedH U.vm) {a : Array Value} (h : w.before a s = true) : ∀ a' : Array Value, w.before a' U = true := by
  intro a'
  unfold zst at hz
  split at hz
  · exact word_at hW (Or.inr ⟨_, rfl⟩) h
  · exact va_Nw.use rfl (va_Nw.warmF hW (va_Nw.of rfl h))
  · exact va_Nw.use rfl (va_Nw.warmM hW (va_Nw.of rfl h))
  · exact va_tabs rfl (rfl : (s.setVm U.vm).vm = U.vm) (Cond.before_shiftedFace (State.Shifted.of_warmed hW) _ rfl h)
  · exact va_tabs rfl (rfl : (s.setVm U.vm).vm = U.vm) (Cond.before_shiftedFace (State.Shifted.of_warmed hW) _ rfl h)
  · have hv := Cond.holds_not_iff.mp h
    refine Cond.holds_not_iff.mpr ?_
    simp only [Cond.value] at hv ⊢
    simp only [hW.alike.findClass, hW.alike.assignable]
    exact hv
  · exact word_at hW (Or.inl hz) h
abbrev zsts (TB : List Cond) : Prop := ∀ w ∈ TB, zst w = true
theorem zE.warm {TB : List Cond} {s U : State} (hz : zsts TB) (hW : s.WarmedH U.vm) (h : zE TB s) : zE TB U := fun w hw => zst_warm (hz w hw) hW (h w hw #[])
/-- the same addresses -/
theorem zD_same {A : Nat → Prop} {w ws : va_W} (h : w.map (·.1) = ws.map (·.1)) (hD : va_D A ws) : va_D A w := by
  have key : ∀ (i : Nat) (q : Nat × va_E), w[i]? = some q → ∃ q', ws[i]? = some q' ∧ q'.1 = q.1 := by
    intro i q hq
    have e : (w.map (·.1))[i]? = some q.1 := by rw [List.getElem?_map, hq]; rfl
    rw [h, List.getElem?_map] at e
    cases hw : ws[i]? with
    | none => rw [hw] at e; cases e
    | some q' => rw [hw] at e; exact ⟨q', rfl, Option.some.inj e⟩
  refine ⟨fun i j a b ha hb hab => ?_, fun k q hq => ?_⟩
  · obtain ⟨a', ha', ea⟩ := key i a ha
    obtain ⟨b', hb', eb⟩ := key j b hb
    exact hD.1 i j a' b' ha' hb' (by rw [ea, eb]; exact hab)
  · obtain ⟨q', hq', eq⟩ := key k q hq
    rw [← eq]
    exact hD.2 k q' hq'
theorem zfree {A : Nat → Prop} {ws : va_W} {H0 H : Heap} {locs : List Loc} (hD : va_D A ws) (hS : va_S A H0 H locs) (hA : ∀ q : Nat, H0.size ≤ q → A q) : ∀ q : Nat, va_A ws H.size q → A q := by
  intro q h
  rcases h with ⟨k, e, h⟩ | h
  · exact hD.2 k _ h
  · exact hA q (Nat.le_trans hS.1 h)
abbrev zRm (fr lo : Nat) : Room := { frames := fr, cells := 0, slots := 0, locals := lo }
def zPc (TB : List Cond) (D : va_G) (cl : List vw_C) (tys : List (ClassId × FieldType)) (av : List Value) (ws : va_W) (sz : Nat) : Array Value → State → Prop :=
  va_Pc av (fun U => U.heap.size = sz ∧ zE TB U ∧ va_P D cl ws U.heap ∧ va_K D cl tys U ∧ va_D (fun _ => True) ws)
theorem zPc_blind {TB : List Cond} (hz : zsts TB) {D : va_G} {cl : List vw_C} {tys : List (ClassId × FieldType)} {av : List Value} {ws : va_W} {sz : Nat} : FrameBlind (zPc TB D cl tys av ws sz) := fun a U g mk q => by
  obtain ⟨q0, q1, qE, qP, qK, qD⟩ := q
  exact ⟨q0, q1, qE.warm (U := U.calling g mk a) hz (State.WarmedH.refl U), qP, va_K.moved (u := U) (U := U.calling g mk a) (Vm.Alike.refl U.vm) qK, qD⟩
/-- the world behind a method: other contents, the same addresses -/
abbrev zB9 (D : va_G) (cl : List vw_C) (ws : va_W) : va_W → State → Prop := fun w t => va_P D cl w t.heap ∧ w.map (·.1) = ws.map (·.1)
/-- contracts over a world: the method answers an int (a long, nothing), and the world is as P says -/
def zMi (l : Launch) (TB : List Cond) (D : va_G) (cl : List vw_C) (tys : List (ClassId × FieldType)) (y : MethodName) (cw : Cond) (fr lo : Nat) (av : List Value) (ws : va_W) (P : Int32 → va_W → Prop) : Prop :=
  ∀ sz, Met l y [cw] (zRm fr lo) (zPc TB D cl tys av ws sz) (va_Qi P (zB9 D cl ws) (va_A ws sz)) 0 0 (va_A ws sz)
def zMl (l : Launch) (TB : List Cond) (D : va_G) (cl : List vw_C) (tys : List (ClassId × FieldType)) (y : MethodName) (cw : Cond) (fr lo : Nat) (av : List Value) (ws : va_W) (P : Int64 → va_W → Prop) : Prop :=
  ∀ sz, Met l y [cw] (zRm fr lo) (zPc TB D cl tys av ws sz) (va_Ql P (zB9 D cl ws) (va_A ws sz)) 0 0 (va_A ws sz)
def zMv (l : Launch) (TB : List Cond) (D : va_G) (cl : List vw_C) (tys : List (ClassId × FieldType)) (y : MethodName) (cw : Cond) (fr lo : Nat) (av : List Value) (ws : va_W) (P : va_W → Prop) : Prop :=
  ∀ sz, Met l y [cw] (zRm fr lo) (zPc TB D cl tys av ws sz) (va_Qv P (zB9 D cl ws) (va_A ws sz)) 0 0 (va_A ws sz)
/-- what a walk knows of its method -/
def zC (p : Program) (s : State) (m : MethodId) (meth : Method) (c : Code) (cc : ByteArray) (nL : Nat) (ret : Option FieldType) (own : String) (args : Array Value) (TB : List Cond) : Prop :=
  p.tables.exec = Jvm.exec ∧ c.code = cc ∧ meth.sig.returnType = ret ∧ c.maxLocals = nL ∧ s.vm.findClass own = some m.cls ∧ (∀ w ∈ TB, w.before args s = true) ∧ zE TB s ∧ meth.locks = false
/-- a body, from its entry -/
abbrev zBody (l : Launch) (TB : List Cond) (D : va_G) (cl : List vw_C) (tys : List (ClassId × FieldType)) (y : MethodName) (b : ByteArray) (nL : Nat) (ret : Option FieldType) (fr lo : Nat) (av : List Value) (ws : va_W) (Qc : (Nat → Prop) → Array Value → State → Outcome → State → Prop) : Prop :=
  ∀ (p : Program) (e : Env) (s : State) (m : MethodId) (below : List Frame) (meth : Method) (c : Code) (A : Nat → Prop) (ls : Array Slot), zC p s m meth c b nL ret y.cls av.toArray TB → va_P D cl ws s.heap → va_K D cl tys s → va_D A ws → va_S A s.heap s.heap [] → (∀ q : Nat, s.heap.size ≤ q → A q) → lv_has ls nL (lv_args 0 av) →
    W p l e (zRm fr lo) s m av.toArray below meth c s.heap [] 0 0 (MQ below (Qc A) av.toArray s 0 0 A) (F0 m 0 ls [])
theorem z_of {l : Launch} {TB : List Cond} {D : va_G} {cl : List vw_C} {tys : List (ClassId × FieldType)} {y : MethodName} {b : ByteArray} {nL fr lo : Nat} {ret : Option FieldType} {av : List Value} {ws : va_W} {Qc : (Nat → Prop) → Array Value → State → Outcome → State → Prop} (hy : plainName y.cls = true) (hn : (lg_sl av).length ≤ nL)
    (body : zBody l TB D cl tys y b nL ret fr lo av ws Qc) : ∀ sz, Met l y [.code y b nL ret] (zRm fr lo) (zPc TB D cl tys av ws sz) (Qc (va_A ws sz)) 0 0 (va_A ws sz) := by
  intro sz
  refine Met.ofW (cc := b) (maxL := nL) (ret := ret) hy rfl ?_
  intro p e s m args below meth c s₁ B hml hv
  obtain ⟨rfl, hsz, hE, hP, hK, hD0⟩ := hv
  subst hsz
  have hD := hD0.self (sz := s.heap.size)
  generalize hAe : va_A ws s.heap.size = A at hD ⊢
  have hA : ∀ q : Nat, s.heap.size ≤ q → A q := fun q h => by rw [← hAe]; exact Or.inr h
  have hS : va_S A s.heap s.heap [] := va_S.rf
  have hl := lv_entry av (n := nL) hn
  rw [lg_entry_eq]
  generalize (lg_sl av ++ List.replicate (nL - (lg_sl av).length) Slot.unset).toArray = ls at hl ⊢
  exact body p e s m below meth c A ls ⟨B.exec, B.bytes, B.returns, hml, findClass_of_methodNamed B.named, fun w hw => hE w hw _, hE, B.notSynchronized⟩ hP hK hD hS hA hl
section ZEND
variable {p : Program} {l : Launch} {e : Env} {R : Room} {s : State} {m : MethodId} {args : Array Value} {below : List Frame} {meth : Method} {c : Code} {H : Heap} {locs : List Loc} {cells slots : Nat} {Q : State → Prop}
variable {cc : ByteArray} {pc : Nat} {ls : Array Slot} {rest : List Value} {D : va_G} {cl : List vw_C} {A : Nat → Prop} {tys : List (ClassId × FieldType)} {ws w : va_W} {nL : Nat} {ret : Option FieldType} {own : String} {TB : List Cond}
theorem z_iret {P : Int32 → va_W → Prop} {r : Int32} (Z : zC p s m meth c cc nL (some .int) own args TB) (hP : va_P D cl w H) (hS : va_S A s.heap H locs) (hdg : decode cc pc = .ok (.ireturn, 1)) (ha : w.map (·.1) = ws.map (·.1)) (hp : P r w) : W p l e R s m args below meth c H locs cells slots (MQ below (va_Qi P (zB9 D cl ws) A) args s cells slots A) (F0 m pc ls [.int r]) :=
  W.iret Z.1 Z.2.1 Z.2.2.1 (fun t ht _ => ⟨⟨r, w, rfl, hp, by rw [ht]; exact hP, ha⟩, hS.F ht⟩) hS.2.2 hdg Z.2.2.2.2.2.2.2
theorem z_zret {P : Int32 → va_W → Prop} {r : Bool} (Z : zC p s m meth c cc nL (some .boolean) own args TB) (hP : va_P D cl w H) (hS : va_S A s.heap H locs) (hdg : decode cc pc = .ok (.ireturn, 1)) (ha : w.map (·.1) = ws.map (·.1)) (hp : P (bI r) w) : W p l e R s m args below meth c H locs cells slots (MQ below (va_Qi P (zB9 D cl ws) A) args s cells slots A) (F0 m pc ls [.int (bI r)]) :=
  W.zret Z.1 Z.2.1 Z.2.2.1 (by cases r <;> decide) (fun t ht _ => ⟨⟨bI r, w, rfl, hp, by rw [ht]; exact hP, ha⟩, hS.F ht⟩) hS.2.2 hdg Z.2.2.2.2.2.2.2
theorem z_lret {P : Int64 → va_W → Prop} {r : Int64} (Z : zC p s m meth c cc nL (some .long) own args TB) (hP : va_P D cl w H) (hS : va_S A s.heap H locs) (hdg : decode cc pc = .ok (.lreturn, 1)) (ha : w.map (·.1) = ws.map (·.1)) (hp : P r w) : W p l e R s m args below meth c H locs cells slots (MQ below (va_Ql P (zB9 D cl ws) A) args s cells slots A) (F0 m pc ls [.long r]) :=
  W.lret Z.1 Z.2.1 Z.2.2.1 (fun t ht _ => ⟨⟨r, w, rfl, hp, by rw [ht]; exact hP, ha⟩, hS.F ht⟩) hS.2.2 hdg Z.2.2.2.2.2.2.2
theorem z_vret {P : va_W → Prop} (Z : zC p s m meth c cc nL none own args TB) (hP : va_P D cl w H) (hS : va_S A s.heap H locs) (hdg : decode cc pc = .ok (.return_, 1)) (ha : w.map (·.1) = ws.map (·.1)) (hp : P w) : W p l e R s m args below meth c H locs cells slots (MQ below (va_Qv P (zB9 D cl ws) A) args s cells slots A) (F0 m pc ls []) :=
  W.vret Z.1 Z.2.1 Z.2.2.1 (fun t ht _ => ⟨⟨w, rfl, hp, by rw [ht]; exact hP, ha⟩, hS.F ht⟩) hS.2.2 hdg Z.2.2.2.2.2.2.2
end ZEND
end
section
section ZCALL
variable {p : Program} {l : Launch} {e : Env} {R : Room} {s : State} {m : MethodId} {args : Array Value} {below : List Frame} {meth : Method} {c : Code} {H : Heap} {locs : List Loc} {cells slots : Nat} {Q : State → Prop}
variable {cc : ByteArray} {pc : Nat} {ls : Array Slot} {rest st0 : List Value} {D : va_G} {cl : List vw_C} {A : Nat → Prop} {tys : List (ClassId × FieldType)} {ws : va_W} {nL : Nat} {ret : Option FieldType} {own : String} {TB : List Cond} {a : Array Value}
theorem z_ki {P : Int32 → va_W → Prop} (hr : va_Run p l e R s m args below meth c H locs cells slots 0 0 (F0 m pc ls st0) rest (va_Qi P (zB9 D cl ws) (va_A ws H.size) a) (va_A ws H.size)) (hD : va_D A ws) (hS : va_S A s.heap H locs) (hA : ∀ q : Nat, s.heap.size ≤ q → A q)
    (kk : ∀ (r : Int32) (w : va_W) (H1 : Heap) (locs1 : List Loc), P r w → va_P D cl w H1 → va_D A w → va_S A s.heap H1 locs1 → W p l e R s m args below meth c H1 locs1 cells slots Q (F0 m (pc + 3) ls (.int r :: rest))) : W p l e R s m args below meth c H locs cells slots Q (F0 m pc ls st0) :=
  va_calli hr hS (fun q _ h => zfree hD hS hA q h) (zfree hD hS hA) (fun r w t H1 locs1 ht _ hp hB _ _ hS1 => kk r w H1 locs1 hp (by rw [← ht]; exact hB.1) (zD_same hB.2 hD) hS1)
theorem z_kl {P : Int64 → va_W → Prop} (hr : va_Run p l e R s m args below meth c H locs cells slots 0 0 (F0 m pc ls st0) rest (va_Ql P (zB9 D cl ws) (va_A ws H.size) a) (va_A ws H.size)) (hD : va_D A ws) (hS : va_S A s.heap H locs) (hA : ∀ q : Nat, s.heap.size ≤ q → A q)
    (kk : ∀ (r : Int64) (w : va_W) (H1 : Heap) (locs1 : List Loc), P r w → va_P D cl w H1 → va_D A w → va_S A s.heap H1 locs1 → W p l e R s m args below meth c H1 locs1 cells slots Q (F0 m (pc + 3) ls (.long r :: rest))) : W p l e R s m args below meth c H locs cells slots Q (F0 m pc ls st0) :=
  va_calll hr hS (fun q _ h => zfree hD hS hA q h) (zfree hD hS hA) (fun r w t H1 locs1 ht _ hp hB _ _ hS1 => kk r w H1 locs1 hp (by rw [← ht]; exact hB.1) (zD_same hB.2 hD) hS1)
theorem z_kv {P : va_W → Prop} (hr : va_Run p l e R s m args below meth c H locs cells slots 0 0 (F0 m pc ls st0) rest (va_Qv P (zB9 D cl ws) (va_A ws H.size) a) (va_A ws H.size)) (hD : va_D A ws) (hS : va_S A s.heap H locs) (hA : ∀ q : Nat, s.heap.size ≤ q → A q)
    (kk : ∀ (w : va_W) (H1 : Heap) (locs1 : List Loc), P w → va_P D cl w H1 → va_D A w → va_S A s.heap H1 locs1 → W p l e R s m args below meth c H1 locs1 cells slots Q (F0 m (pc + 3) ls rest)) : W p l e R s m args below meth c H locs cells slots Q (F0 m pc ls st0) :=
  va_callv hr hS (fun q _ h => zfree hD hS hA q h) (zfree hD hS hA) (fun w t H1 locs1 ht _ hp hB _ _ hS1 => kk w H1 locs1 hp (by rw [← ht]; exact hB.1) (zD_same hB.2 hD) hS1)
theorem zgood {TB : List Cond} {y : MethodName} {b : ByteArray} {nY : Nat} {rY : Option FieldType} (h : Cond.code y b nY rY ∈ TB) : GoodIn TB [.code y b nY rY] := fun w hw => by
  rw [List.mem_singleton.mp hw]
  exact ⟨h, Or.inl rfl⟩
abbrev zdY (y : MethodName) (n : Nat) : Prop := y.cls ≠ "java/lang/invoke/MethodHandle" ∧ y.cls ≠ "java/lang/invoke/VarHandle" ∧ (parseMethodDescriptor y.desc).map (fun d => d.parameters.length) = some n
abbrev zwS (TB : List Cond) (own : String) (idx : Nat) (y : MethodName) (b : ByteArray) (nY : Nat) (rY : Option FieldType) : Prop := Cond.methodLink own idx y ∈ TB ∧ Cond.static y ∈ TB ∧ Cond.initialized y.cls ∈ TB ∧ Cond.code y b nY rY ∈ TB
abbrev zwV (TB : List Cond) (own : String) (idx : Nat) (y : MethodName) (b : ByteArray) (nY : Nat) (rY : Option FieldType) : Prop := Cond.methodLink own idx y ∈ TB ∧ Cond.instanceMethod y ∈ TB ∧ Cond.selects y.cls y y ∈ TB ∧ Cond.initialized y.cls ∈ TB ∧ Cond.code y b nY rY ∈ TB
abbrev zwVN (TB : List Cond) (own : String) (idx : Nat) (y : MethodName) (host : String) (b : ByteArray) (nY : Nat) (rY : Option FieldType) : Prop := Cond.methodLinkNest own idx y host ∈ TB ∧ Cond.instanceMethod y ∈ TB ∧ Cond.selects y.cls y y ∈ TB ∧ Cond.initialized y.cls ∈ TB ∧ Cond.code y b nY rY ∈ TB
abbrev zwSN (TB : List Cond) (own : String) (idx : Nat) (y : MethodName) (host : String) (b : ByteArray) (nY : Nat) (rY : Option FieldType) : Prop := Cond.methodLinkNest own idx y host ∈ TB ∧ Cond.static y ∈ TB ∧ Cond.initialized y.cls ∈ TB ∧ Cond.code y b nY rY ∈ TB
theorem zpre (hz : zsts TB) (Z : zC p s m meth c cc nL ret own args TB) {av : List Value} (hP : va_P D cl ws H) (hK : va_K D cl tys s) (hD : va_D A ws) : ∀ U : State, U.heap = H → s.WarmedH U.vm → zPc TB D cl tys av ws H.size av.toArray U :=
  fun U hU hW => ⟨rfl, by rw [hU], zE.warm hz hW Z.2.2.2.2.2.2.1, by rw [hU]; exact hP, va_K.moved hW.alike hK, hD.weaken (fun _ _ _ _ => trivial)⟩
theorem z_runS {y : MethodName} {b : ByteArray} {nY fr lo idx : Nat} {rY : Option FieldType} {As : List Value} {Qc : Nat → Array Value → State → Outcome → State → Prop} (hz : zsts TB) (Z : zC p s m meth c cc nL ret own args TB)
    (hM : ∀ sz, Met l y [.code y b nY rY] (zRm fr lo) (zPc TB D cl tys As ws sz) (Qc sz) 0 0 (va_A ws sz)) (hw : zwS TB own idx y b nY rY) (hd : zdY y As.length) (hR : fr + 1 ≤ R.frames ∧ 8 + (nY + 11) + lo ≤ R.locals) (hP : va_P D cl ws H) (hK : va_K D cl tys s) (hD : va_D A ws)
    (hsize : ls.size = nL) (hstack : st0 = As.reverse ++ rest) (hroom : (rest.map fun v => v.category).sum ≤ 8) (hdg : decode cc pc = .ok (.invokestatic idx, 3)) (hf : cells + 0 ≤ R.cells ∧ slots + 0 ≤ R.slots) :
    va_Run p l e R s m args below meth c H locs cells slots 0 0 (F0 m pc ls st0) rest (Qc H.size As.toArray) (va_A ws H.size) :=
  va_runS (g := F0 m pc ls st0) ⟨Z.1, Z.2.1, Z.2.2.2.1, Z.2.2.2.2.1, Z.2.2.2.2.2.1⟩ (hM H.size) ⟨callB_of As.length Z.2.2.2.2.2.1 (zgood hw.2.2.2) rfl rfl rfl (Z.2.2.2.2.2.1 _ hw.2.2.1) (Z.2.2.2.2.2.1 _ hw.1) hd hR, Z.2.2.2.2.2.1 _ hw.2.1⟩ ⟨zPc_blind hz, zpre hz Z hP hK hD⟩ rfl rfl hsize hstack (lv_room hroom) hdg hf
theorem z_runV {y : MethodName} {b : ByteArray} {nY fr lo idx q0 ci b0 : Nat} {rY : Option FieldType} {As : List Value} {Qc : Nat → Array Value → State → Outcome → State → Prop} {q : vw_C} {fs : List Value} (hz : zsts TB) (Z : zC p s m meth c cc nL ret own args TB)
    (hM : ∀ sz, Met l y [.code y b nY rY] (zRm fr lo) (zPc TB D cl tys (.ref b0 :: As) ws sz) (Qc sz) 0 0 (va_A ws sz)) (hw : zwV TB own idx y b nY rY) (hd : zdY y As.length) (hR : fr + 1 ≤ R.frames ∧ 8 + (nY + 11) + lo ≤ R.locals) (hP : va_P D cl ws H) (hK : va_K D cl tys s) (hD : va_D A ws)
    (hc : cl[ci]? = some q) (hcq : q.1 = y.cls) (he : ws[q0]? = some (b0, .inr (ci, fs)))
    (hsize : ls.size = nL) (hstack : st0 = As.reverse ++ .ref b0 :: rest) (hroom : (rest.map fun v => v.category).sum ≤ 8) (hdg : decode cc pc = .ok (.invokevirtual idx, 3)) (hf : cells + 0 ≤ R.cells ∧ slots + 0 ≤ R.slots) :
    va_Run p l e R s m args below meth c H locs cells slots 0 0 (F0 m pc ls st0) rest (Qc H.size (Value.ref b0 :: As).toArray) (va_A ws H.size) :=
  va_runV (g := F0 m pc ls st0) (C := y.cls) ⟨Z.1, Z.2.1, Z.2.2.2.1, Z.2.2.2.2.1, Z.2.2.2.2.2.1⟩ (hM H.size) ⟨callB_of As.length Z.2.2.2.2.2.1 (zgood hw.2.2.2.2) rfl rfl rfl (Z.2.2.2.2.2.1 _ hw.2.2.2.1) (Z.2.2.2.2.2.1 _ hw.1) hd hR, Z.2.2.2.2.2.1 _ hw.2.1, Z.2.2.2.2.2.1 _ hw.2.2.1⟩ ⟨zPc_blind hz, by rw [← hcq]; exact va_recv hK hP hc he, zpre hz Z hP hK hD⟩ rfl rfl hsize hstack (lv_room hroom) hdg hf
theorem zCN {y : MethodName} {b : ByteArray} {nY fr lo idx n : Nat} {rY : Option FieldType} {host : String} (Z : zC p s m meth c cc nL ret own args TB) (hlink : Cond.methodLinkNest own idx y host ∈ TB) (hini : Cond.initialized y.cls ∈ TB) (hco : Cond.code y b nY rY ∈ TB) (hd : zdY y n) (hR : fr + 1 ≤ R.frames ∧ 8 + (nY + 11) + lo ≤ R.locals) : va_CN R s args own idx y host b nY rY [.code y b nY rY] (zRm fr lo) 0 0 n :=
  va_cnB n Z.2.2.2.2.2.1 (zgood hco) rfl rfl rfl (va_Nw.of rfl (Z.2.2.2.2.2.1 _ hlink)) (Z.2.2.2.2.2.1 _ hini) hd hR
theorem z_runVN {y : MethodName} {b : ByteArray} {nY fr lo idx q0 ci b0 : Nat} {rY : Option FieldType} {host : String} {As : List Value} {Qc : Nat → Array Value → State → Outcome → State → Prop} {q : vw_C} {fs : List Value} (hz : zsts TB) (Z : zC p s m meth c cc nL ret own args TB)
    (hM : ∀ sz, Met l y [.code y b nY rY] (zRm fr lo) (zPc TB D cl tys (.ref b0 :: As) ws sz) (Qc sz) 0 0 (va_A ws sz)) (hw : zwVN TB own idx y host b nY rY) (hd : zdY y As.length) (hR : fr + 1 ≤ R.frames ∧ 8 + (nY + 11) + lo ≤ R.locals) (hP : va_P D cl ws H) (hK : va_K D cl tys s) (hD : va_D A ws)
    (hc : cl[ci]? = some q) (hcq : q.1 = y.cls) (he : ws[q0]? = some (b0, .inr (ci, fs)))
    (hsize : ls.size = nL) (hstack : st0 = As.reverse ++ .ref b0 :: rest) (hroom : (rest.map fun v => v.category).sum ≤ 8) (hdg : decode cc pc = .ok (.invokevirtual idx, 3)) (hf : cells + 0 ≤ R.cells ∧ slots + 0 ≤ R.slots) :
    va_Run p l e R s m args below meth c H locs cells slots 0 0 (F0 m pc ls st0) rest (Qc H.size (Value.ref b0 :: As).toArray) (va_A ws H.size) :=
  va_runVN (g := F0 m pc ls st0) (C := y.cls) ⟨Z.1, Z.2.1, Z.2.2.2.1, Z.2.2.2.2.1, Z.2.2.2.2.2.1⟩ (hM H.size) ⟨zCN Z hw.1 hw.2.2.2.1 hw.2.2.2.2 hd hR, Z.2.2.2.2.2.1 _ hw.2.1, Z.2.2.2.2.2.1 _ hw.2.2.1⟩ ⟨zPc_blind hz, by rw [← hcq]; exact va_recv hK hP hc he, zpre hz Z hP hK hD⟩ rfl rfl hsize hstack (lv_room hroom) hdg hf
theorem z_runSN {y : MethodName} {b : ByteArray} {nY fr lo idx : Nat} {rY : Option FieldType} {host : String} {As : List Value} {Qc : Nat → Array Value → State → Outcome → State → Prop} (hz : zsts TB) (Z : zC p s m meth c cc nL ret own args TB)
    (hM : ∀ sz, Met l y [.code y b nY rY] (zRm fr lo) (zPc TB D cl tys As ws sz) (Qc sz) 0 0 (va_A ws sz)) (hw : zwSN TB own idx y host b nY rY) (hd : zdY y As.length) (hR : fr + 1 ≤ R.frames ∧ 8 + (nY + 11) + lo ≤ R.locals) (hP : va_P D cl ws H) (hK : va_K D cl tys s) (hD : va_D A ws)
    (hsize : ls.size = nL) (hstack : st0 = As.reverse ++ rest) (hroom : (rest.map fun v => v.category).sum ≤ 8) (hdg : decode cc pc = .ok (.invokestatic idx, 3)) (hf : cells + 0 ≤ R.cells ∧ slots + 0 ≤ R.slots) :
    va_Run p l e R s m args below meth c H locs cells slots 0 0 (F0 m pc ls st0) rest (Qc H.size As.toArray) (va_A ws H.size) :=
  va_runSN (g := F0 m pc ls st0) ⟨Z.1, Z.2.1, Z.2.2.2.1, Z.2.2.2.2.1, Z.2.2.2.2.2.1⟩ (hM H.size) ⟨zCN Z hw.1 hw.2.2.1 hw.2.2.2 hd hR, Z.2.2.2.2.2.1 _ hw.2.1, trivial⟩ ⟨zPc_blind hz, zpre hz Z hP hK hD⟩ rfl rfl hsize hstack (lv_room hroom) hdg hf
end ZCALL
/-! Methods that only read: the heap is as it was. -/
def zPr (TB : List Cond) (D : va_G) (cl : List vw_C) (tys : List (ClassId × FieldType)) (av : List Value) (ws : va_W) : Array Value → State → Prop :=
  va_Pc av (fun U => zE TB U ∧ va_P D cl ws U.heap ∧ va_K D cl tys U)
theorem zPr_blind {TB : List Cond} (hz : zsts TB) {D : va_G} {cl : List vw_C} {tys : List (ClassId × FieldType)} {av : List Value} {ws : va_W} : FrameBlind (zPr TB D cl tys av ws) := fun a U g mk q => by
  obtain ⟨q0, qE, qP, qK⟩ := q
  exact ⟨q0, qE.warm (U := U.calling g mk a) hz (State.WarmedH.refl U), qP, va_K.moved (u := U) (U := U.calling g mk a) (Vm.Alike.refl U.vm) qK⟩
def zQr (v : Option Value) : Array Value → State → Outcome → State → Prop := fun _ st o t => o = .returned v ∧ t.heap = st.heap
def zMr (l : Launch) (TB : List Cond) (D : va_G) (cl : List vw_C) (tys : List (ClassId × FieldType)) (y : MethodName) (cw : Cond) (fr lo : Nat) (av : List Value) (ws : va_W) (v : Option Value) : Prop :=
  Met l y [cw] (zRm fr lo) (zPr TB D cl tys av ws) (zQr v) 0 0 (fun _ => False)
abbrev zBodyR (l : Launch) (TB : List Cond) (D : va_G) (cl : List vw_C) (tys : List (ClassId × FieldType)) (y : MethodName) (b : ByteArray) (nL : Nat) (ret : Option FieldType) (fr lo : Nat) (av : List Value) (ws : va_W) (v : Option Value) : Prop :=
  ∀ (p : Program) (e : Env) (s : State) (m : MethodId) (below : List Frame) (meth : Method) (c : Code) (ls : Array Slot), zC p s m meth c b nL ret y.cls av.toArray TB → va_P D cl ws s.heap → va_K D cl tys s → lv_has ls nL (lv_args 0 av) →
    W p l e (zRm fr lo) s m av.toArray below meth c s.heap [] 0 0 (MQ below (zQr v) av.toArray s 0 0 (fun _ => False)) (F0 m 0 ls [])
theorem z_ofR {l : Launch} {TB : List Cond} {D : va_G} {cl : List vw_C} {tys : List (ClassId × FieldType)} {y : MethodName} {b : ByteArray} {nL fr lo : Nat} {ret : Option FieldType} {av : List Value} {ws : va_W} {v : Option Value} (hy : plainName y.cls = true) (hn : (lg_sl av).length ≤ nL)
    (body : zBodyR l TB D cl tys y b nL ret fr lo av ws v) : zMr l TB D cl tys y (.code y b nL ret) fr lo av ws v := by
  refine Met.ofW (cc := b) (maxL := nL) (ret := ret) hy rfl ?_
  intro p e s m args below meth c s₁ B hml hv
  obtain ⟨rfl, hE, hP, hK⟩ := hv
  have hl := lv_entry av (n := nL) hn
  rw [lg_entry_eq]
  generalize (lg_sl av ++ List.replicate (nL - (lg_sl av).length) Slot.unset).toArray = ls at hl ⊢
  exact body p e s m below meth c ls ⟨B.exec, B.bytes, B.returns, hml, findClass_of_methodNamed B.named, fun w hw => hE w hw _, hE, B.notSynchronized⟩ hP hK hl
section ZRD
variable {p : Program} {l : Launch} {e : Env} {R : Room} {s : State} {m : MethodId} {args : Array Value} {below : List Frame} {meth : Method} {c : Code} {H : Heap} {locs : List Loc} {cells slots : Nat} {Q : State → Prop}
variable {cc : ByteArray} {pc : Nat} {ls : Array Slot} {rest st0 : List Value} {D : va_G} {cl : List vw_C} {tys : List (ClassId × FieldType)} {ws : va_W} {nL : Nat} {ret : Option FieldType} {own : String} {TB : List Cond} {a : Array Value} {v : Option Value}
theorem z_iretR {r : Int32} (Z : zC p s m meth c cc nL (some .int) own args TB) (hdg : decode cc pc = .ok (.ireturn, 1)) (hv : some (.int r) = v) : W p l e R s m args below meth c s.heap [] 0 0 (MQ below (zQr v) args s 0 0 (fun _ => False)) (F0 m pc ls [.int r]) :=
  W.iret Z.1 Z.2.1 Z.2.2.1 (fun t ht _ => ⟨by rw [hv], ht⟩) (fun q h => nomatch h) hdg Z.2.2.2.2.2.2.2
theorem z_zretR {r : Bool} (Z : zC p s m meth c cc nL (some .boolean) own args TB) (hdg : decode cc pc = .ok (.ireturn, 1)) (hv : some (.int (bI r)) = v) : W p l e R s m args below meth c s.heap [] 0 0 (MQ below (zQr v) args s 0 0 (fun _ => False)) (F0 m pc ls [.int (bI r)]) :=
  W.zret Z.1 Z.2.1 Z.2.2.1 (by cases r <;> decide) (fun t ht _ => ⟨by rw [hv], ht⟩) (fun q h => nomatch h) hdg Z.2.2.2.2.2.2.2
theorem z_lretR {r : Int64} (Z : zC p s m meth c cc nL (some .long) own args TB) (hdg : decode cc pc = .ok (.lreturn, 1)) (hv : some (.long r) = v) : W p l e R s m args below meth c s.heap [] 0 0 (MQ below (zQr v) args s 0 0 (fun _ => False)) (F0 m pc ls [.long r]) :=
  W.lret Z.1 Z.2.1 Z.2.2.1 (fun t ht _ => ⟨by rw [hv], ht⟩) (fun q h => nomatch h) hdg Z.2.2.2.2.2.2.2
theorem z_vretR (Z : zC p s m meth c cc nL none own args TB) (hdg : decode cc pc = .ok (.return_, 1)) (hv : none = v) : W p l e R s m args below meth c s.heap [] 0 0 (MQ below (zQr v) args s 0 0 (fun _ => False)) (F0 m pc ls []) :=
  W.vret Z.1 Z.2.1 Z.2.2.1 (fun t ht _ => ⟨by rw [hv], ht⟩) (fun q h => nomatch h) hdg Z.2.2.2.2.2.2.2
theorem z_kr (hr : CallRun p l e R s m args below meth c H locs cells slots 0 0 (F0 m pc ls st0) rest (zQr v a) (fun _ => False)) (kk : W p l e R s m args below meth c H locs cells slots Q (F0 m (pc + 3) ls (v.toList ++ rest))) : W p l e R s m args below meth c H locs cells slots Q (F0 m pc ls st0) := by
  intro T hT X
  obtain ⟨v', st₀, t, T', L, h0, X', hL, e1, ⟨hv, hh⟩, st⟩ := hr T hT X
  cases hv
  obtain ⟨t2, a1, b1⟩ := kk T' (by rw [e1, hh, h0]) (Stand.forget X' (fun q h => (hL q h).elim))
  exact ⟨t2, st t2 a1, b1⟩
theorem zpreR (hz : zsts TB) (Z : zC p s m meth c cc nL ret own args TB) {av : List Value} (hP : va_P D cl ws H) (hK : va_K D cl tys s) : ∀ U : State, U.heap = H → s.WarmedH U.vm → zPr TB D cl tys av ws av.toArray U :=
  fun U hU hW => ⟨rfl, zE.warm hz hW Z.2.2.2.2.2.2.1, by rw [hU]; exact hP, va_K.moved hW.alike hK⟩
theorem z_callSR {y : MethodName} {b : ByteArray} {nY fr lo idx : Nat} {rY : Option FieldType} {As : List Value} (hz : zsts TB) (Z : zC p s m meth c cc nL ret own args TB)
    (hM : zMr l TB D cl tys y (.code y b nY rY) fr lo As ws v) (hw : zwS TB own idx y b nY rY) (hd : zdY y As.length) (hR : fr + 1 ≤ R.frames ∧ 8 + (nY + 11) + lo ≤ R.locals) (hP : va_P D cl ws H) (hK : va_K D cl tys s)
    (hsize : ls.size = nL) (hstack : st0 = As.reverse ++ rest) (hroom : (rest.map fun v => v.category).sum ≤ 8) (hdg : decode cc pc = .ok (.invokestatic idx, 3)) (hf : cells + 0 ≤ R.cells ∧ slots + 0 ≤ R.slots)
    (kk : W p l e R s m args below meth c H locs cells slots Q (F0 m (pc + 3) ls (v.toList ++ rest))) : W p l e R s m args below meth c H locs cells slots Q (F0 m pc ls st0) :=
  z_kr (va_runS (g := F0 m pc ls st0) ⟨Z.1, Z.2.1, Z.2.2.2.1, Z.2.2.2.2.1, Z.2.2.2.2.2.1⟩ hM ⟨callB_of As.length Z.2.2.2.2.2.1 (zgood hw.2.2.2) rfl rfl rfl (Z.2.2.2.2.2.1 _ hw.2.2.1) (Z.2.2.2.2.2.1 _ hw.1) hd hR, Z.2.2.2.2.2.1 _ hw.2.1⟩ ⟨zPr_blind hz, zpreR hz Z hP hK⟩ rfl rfl hsize hstack (lv_room hroom) hdg hf).run kk
theorem z_callVR {y : MethodName} {b : ByteArray} {nY fr lo idx q0 ci b0 : Nat} {rY : Option FieldType} {As : List Value} {q : vw_C} {fs : List Value} (hz : zsts TB) (Z : zC p s m meth c cc nL ret own args TB)
    (hM : zMr l TB D cl tys y (.code y b nY rY) fr lo (.ref b0 :: As) ws v) (hw : zwV TB own idx y b nY rY) (hd : zdY y As.length) (hR : fr + 1 ≤ R.frames ∧ 8 + (nY + 11) + lo ≤ R.locals) (hP : va_P D cl ws H) (hK : va_K D cl tys s)
    (hc : cl[ci]? = some q) (hcq : q.1 = y.cls) (he : ws[q0]? = some (b0, .inr (ci, fs)))
    (hsize : ls.size = nL) (hstack : st0 = As.reverse ++ .ref b0 :: rest) (hroom : (rest.map fun v => v.category).sum ≤ 8) (hdg : decode cc pc = .ok (.invokevirtual idx, 3)) (hf : cells + 0 ≤ R.cells ∧ slots + 0 ≤ R.slots)
    (kk : W p l e R s m args below meth c H locs cells slots Q (F0 m (pc + 3) ls (v.toList ++ rest))) : W p l e R s m args below meth c H locs cells slots Q (F0 m pc ls st0) :=
  z_kr (va_runV (g := F0 m pc ls st0) (C := y.cls) ⟨Z.1, Z.2.1, Z.2.2.2.1, Z.2.2.2.2.1, Z.2.2.2.2.2.1⟩ hM ⟨callB_of As.length Z.2.2.2.2.2.1 (zgood hw.2.2.2.2) rfl rfl rfl (Z.2.2.2.2.2.1 _ hw.2.2.2.1) (Z.2.2.2.2.2.1 _ hw.1) hd hR, Z.2.2.2.2.2.1 _ hw.2.1, Z.2.2.2.2.2.1 _ hw.2.2.1⟩ ⟨zPr_blind hz, by rw [← hcq]; exact va_recv hK hP hc he, zpreR hz Z hP hK⟩ rfl rfl hsize hstack (lv_room hroom) hdg hf).run kk
theorem z_callVNR {y : MethodName} {b : ByteArray} {nY fr lo idx q0 ci b0 : Nat} {rY : Option FieldType} {host : String} {As : List Value} {q : vw_C} {fs : List Value} (hz : zsts TB) (Z : zC p s m meth c cc nL ret own args TB)
    (hM : zMr l TB D cl tys y (.code y b nY rY) fr lo (.ref b0 :: As) ws v) (hw : zwVN TB own idx y host b nY rY) (hd : zdY y As.length) (hR : fr + 1 ≤ R.frames ∧ 8 + (nY + 11) + lo ≤ R.locals) (hP : va_P D cl ws H) (hK : va_K D cl tys s)
    (hc : cl[ci]? = some q) (hcq : q.1 = y.cls) (he : ws[q0]? = some (b0, .inr (ci, fs)))
    (hsize : ls.size = nL) (hstack : st0 = As.reverse ++ .ref b0 :: rest) (hroom : (rest.map fun v => v.category).sum ≤ 8) (hdg : decode cc pc = .ok (.invokevirtual idx, 3)) (hf : cells + 0 ≤ R.cells ∧ slots + 0 ≤ R.slots)
    (kk : W p l e R s m args below meth c H locs cells slots Q (F0 m (pc + 3) ls (v.toList ++ rest))) : W p l e R s m args below meth c H locs cells slots Q (F0 m pc ls st0) :=
  z_kr (va_runVN (g := F0 m pc ls st0) (C := y.cls) ⟨Z.1, Z.2.1, Z.2.2.2.1, Z.2.2.2.2.1, Z.2.2.2.2.2.1⟩ hM ⟨zCN Z hw.1 hw.2.2.2.1 hw.2.2.2.2 hd hR, Z.2.2.2.2.2.1 _ hw.2.1, Z.2.2.2.2.2.1 _ hw.2.2.1⟩ ⟨zPr_blind hz, by rw [← hcq]; exact va_recv hK hP hc he, zpreR hz Z hP hK⟩ rfl rfl hsize hstack (lv_room hroom) hdg hf).run kk
end ZRD
end
section
/-! Names, by a program (wip/whole/gen/names.py): classes, fields, methods, the words of the tables. -/
/-- what the Statement says of the exceptions classes beside the tables -/
def zNot : List Cond := [.not (.castable "java/lang/IllegalArgumentException" "java/lang/IllegalStateException"), .not (.castable "java/lang/IllegalArgumentException" "java/lang/IndexOutOfBoundsException"), .not (.castable "java/lang/IllegalStateException" "java/lang/IllegalArgumentException"), .not (.castable "java/lang/IllegalStateException" "java/lang/IndexOutOfBoundsException"), .not (.castable "java/lang/IndexOutOfBoundsException" "java/lang/IllegalArgumentException"), .not (.castable "java/lang/IndexOutOfBoundsException" "java/lang/IllegalStateException")]
def TB : List Cond := (lw_tbl ++ zNot).filter zst
theorem zTB : zsts TB := fun w h => (List.mem_filter.mp h).2
theorem zmem {w : Cond} (i : Nat) (h : lw_tbl[i]? = some w) (hz : zst w = true) : w ∈ TB := List.mem_filter.mpr ⟨List.mem_append_left _ (List.mem_of_getElem? h), hz⟩
theorem nc_IllegalArgumentException_IllegalStateException : Cond.not (.castable "java/lang/IllegalArgumentException" "java/lang/IllegalStateException") ∈ TB := List.mem_filter.mpr ⟨List.mem_append_right _ (List.mem_of_getElem? (i := 0) rfl), rfl⟩
theorem nc_IllegalArgumentException_IndexOutOfBoundsException : Cond.not (.castable "java/lang/IllegalArgumentException" "java/lang/IndexOutOfBoundsException") ∈ TB := List.mem_filter.mpr ⟨List.mem_append_right _ (List.mem_of_getElem? (i := 1) rfl), rfl⟩
theorem nc_IllegalStateException_IllegalArgumentException : Cond.not (.castable "java/lang/IllegalStateException" "java/lang/IllegalArgumentException") ∈ TB := List.mem_filter.mpr ⟨List.mem_append_right _ (List.mem_of_getElem? (i := 2) rfl), rfl⟩
theorem nc_IllegalStateException_IndexOutOfBoundsException : Cond.not (.castable "java/lang/IllegalStateException" "java/lang/IndexOutOfBoundsException") ∈ TB := List.mem_filter.mpr ⟨List.mem_append_right _ (List.mem_of_getElem? (i := 3) rfl), rfl⟩
theorem nc_IndexOutOfBoundsException_IllegalArgumentException : Cond.not (.castable "java/lang/IndexOutOfBoundsException" "java/lang/IllegalArgumentException") ∈ TB := List.mem_filter.mpr ⟨List.mem_append_right _ (List.mem_of_getElem? (i := 4) rfl), rfl⟩
theorem nc_IndexOutOfBoundsException_IllegalStateException : Cond.not (.castable "java/lang/IndexOutOfBoundsException" "java/lang/IllegalStateException") ∈ TB := List.mem_filter.mpr ⟨List.mem_append_right _ (List.mem_of_getElem? (i := 5) rfl), rfl⟩
def f_D : u_T := fun k => match k with
  | 0 => (n_D, "journal", "LDeviceTrials$Journal;", true)
  | 1 => (n_D, "camera", "LDeviceTrials$Camera;", true)
  | 2 => (n_D, "choices", "LDeviceTrials$Choices;", true)
  | 3 => (n_D, "walk", "LDeviceTrials$Walk;", true)
  | _ => (n_D, "centsOfKind", "[I", true)
def ty_D : Nat → FieldType := fun k => match k with
  | 0 => .object "DeviceTrials$Journal"
  | 1 => .object "DeviceTrials$Camera"
  | 2 => .object "DeviceTrials$Choices"
  | 3 => .object "DeviceTrials$Walk"
  | _ => .array .int
theorem nm_D : ∀ a, a < 5 → ∀ b, b < 5 → a ≠ b → (f_D a).2.1 ≠ (f_D b).2.1 := by decide +kernel
theorem tyo_D : ∀ k, k < 5 → parseFieldDescriptor (f_D k).2.2.1 = some (ty_D k) := by decide +kernel
theorem in_D : ∀ w ∈ u_ws n_D f_D 5, w ∈ TB := by decide +kernel
def f_J : u_T := fun k => match k with
  | 0 => (n_J, "state", "J", false)
  | 1 => (n_J, "haulCount", "I", false)
  | 2 => (n_J, "pairCount", "I", false)
  | 3 => (n_J, "openHaul", "[I", true)
  | 4 => (n_J, "isOut", "[Z", true)
  | 5 => (n_J, "hasDevice", "[Z", true)
  | 6 => (n_J, "counts", "[I", true)
  | 7 => (n_J, "deviceHaul", "[I", true)
  | 8 => (n_J, "plainHaul", "[I", true)
  | _ => (n_J, "shipOfPair", "[I", true)
def ty_J : Nat → FieldType := fun k => match k with
  | 0 => .long
  | 1 => .int
  | 2 => .int
  | 3 => .array .int
  | 4 => .array .boolean
  | 5 => .array .boolean
  | 6 => .array .int
  | 7 => .array .int
  | 8 => .array .int
  | _ => .array .int
theorem nm_J : ∀ a, a < 10 → ∀ b, b < 10 → a ≠ b → (f_J a).2.1 ≠ (f_J b).2.1 := by decide +kernel
theorem tyo_J : ∀ k, k < 10 → parseFieldDescriptor (f_J k).2.2.1 = some (ty_J k) := by decide +kernel
theorem in_J : ∀ w ∈ u_ws n_J f_J 10, w ∈ TB := by decide +kernel
def f_C : u_T := fun k => match k with
  | _ => (n_C, "readings", "[I", true)
def ty_C : Nat → FieldType := fun k => match k with
  | _ => .array .int
theorem nm_C : ∀ a, a < 1 → ∀ b, b < 1 → a ≠ b → (f_C a).2.1 ≠ (f_C b).2.1 := by decide +kernel
theorem tyo_C : ∀ k, k < 1 → parseFieldDescriptor (f_C k).2.2.1 = some (ty_C k) := by decide +kernel
theorem in_C : ∀ w ∈ u_ws n_C f_C 1, w ∈ TB := by decide +kernel
def f_H : u_T := fun k => match k with
  | 0 => (n_H, "weights", "[I", true)
  | 1 => (n_H, "size", "I", false)
  | 2 => (n_H, "chosenSum", "I", false)
  | 3 => (n_H, "lowSums", "[I", true)
  | 4 => (n_H, "highSums", "[I", true)
  | _ => (n_H, "spare", "[I", true)
def ty_H : Nat → FieldType := fun k => match k with
  | 0 => .array .int
  | 1 => .int
  | 2 => .int
  | 3 => .array .int
  | 4 => .array .int
  | _ => .array .int
theorem nm_H : ∀ a, a < 6 → ∀ b, b < 6 → a ≠ b → (f_H a).2.1 ≠ (f_H b).2.1 := by decide +kernel
theorem tyo_H : ∀ k, k < 6 → parseFieldDescriptor (f_H k).2.2.1 = some (ty_H k) := by decide +kernel
theorem in_H : ∀ w ∈ u_ws n_H f_H 6, w ∈ TB := by decide +kernel
def f_K : u_T := fun k => match k with
  | 0 => (n_K, "ways", "[J", true)
  | 1 => (n_K, "top", "I", false)
  | 2 => (n_K, "crossed", "J", false)
  | _ => (n_K, "all", "J", false)
def ty_K : Nat → FieldType := fun k => match k with
  | 0 => .array .long
  | 1 => .int
  | 2 => .long
  | _ => .long
theorem nm_K : ∀ a, a < 4 → ∀ b, b < 4 → a ≠ b → (f_K a).2.1 ≠ (f_K b).2.1 := by decide +kernel
theorem tyo_K : ∀ k, k < 4 → parseFieldDescriptor (f_K k).2.2.1 = some (ty_K k) := by decide +kernel
theorem in_K : ∀ w ∈ u_ws n_K f_K 4, w ∈ TB := by decide +kernel
def f_M : u_T := fun k => match k with
  | 0 => (n_M, "code", "I", false)
  | 1 => (n_M, "x", "J", false)
  | 2 => (n_M, "hauls", "I", false)
  | 3 => (n_M, "ships", "[I", true)
  | 4 => (n_M, "device", "[Z", true)
  | 5 => (n_M, "counts", "[I", true)
  | 6 => (n_M, "many", "[I", true)
  | 7 => (n_M, "latest", "[I", true)
  | 8 => (n_M, "pairs", "I", false)
  | 9 => (n_M, "first", "[I", true)
  | 10 => (n_M, "second", "[I", true)
  | 11 => (n_M, "out", "[Z", true)
  | 12 => (n_M, "read", "[I", true)
  | 13 => (n_M, "prices", "[I", true)
  | 14 => (n_M, "row", "[I", true)
  | 15 => (n_M, "ways", "[J", true)
  | _ => (n_M, "next", "[J", true)
def ty_M : Nat → FieldType := fun k => match k with
  | 0 => .int
  | 1 => .long
  | 2 => .int
  | 3 => .array .int
  | 4 => .array .boolean
  | 5 => .array .int
  | 6 => .array .int
  | 7 => .array .int
  | 8 => .int
  | 9 => .array .int
  | 10 => .array .int
  | 11 => .array .boolean
  | 12 => .array .int
  | 13 => .array .int
  | 14 => .array .int
  | 15 => .array .long
  | _ => .array .long
theorem nm_M : ∀ a, a < 17 → ∀ b, b < 17 → a ≠ b → (f_M a).2.1 ≠ (f_M b).2.1 := by decide +kernel
theorem tyo_M : ∀ k, k < 17 → parseFieldDescriptor (f_M k).2.2.1 = some (ty_M k) := by decide +kernel
theorem in_M : ∀ w ∈ u_ws n_M f_M 17, w ∈ TB := by decide +kernel
abbrev classes : List vw_C := [(n_D, f_D, 5), (n_J, f_J, 10), (n_C, f_C, 1), (n_H, f_H, 6), (n_K, f_K, 4), (n_M, f_M, 17)]
theorem ini_L : Cond.initialized n_L ∈ TB := zmem 19 (by decide +kernel) (by decide +kernel)
theorem ini_D : Cond.initialized n_D ∈ TB := zmem 20 (by decide +kernel) (by decide +kernel)
theorem ini_J : Cond.initialized n_J ∈ TB := zmem 21 (by decide +kernel) (by decide +kernel)
theorem ini_C : Cond.initialized n_C ∈ TB := zmem 22 (by decide +kernel) (by decide +kernel)
theorem ini_H : Cond.initialized n_H ∈ TB := zmem 23 (by decide +kernel) (by decide +kernel)
theorem ini_K : Cond.initialized n_K ∈ TB := zmem 24 (by decide +kernel) (by decide +kernel)
theorem ini_M : Cond.initialized n_M ∈ TB := zmem 25 (by decide +kernel) (by decide +kernel)
theorem ini_Throwable : Cond.initialized "java/lang/Throwable" ∈ TB := zmem 26 (by decide +kernel) (by decide +kernel)
theorem ini_Exception : Cond.initialized "java/lang/Exception" ∈ TB := zmem 27 (by decide +kernel) (by decide +kernel)
theorem ini_RuntimeException : Cond.initialized "java/lang/RuntimeException" ∈ TB := zmem 28 (by decide +kernel) (by decide +kernel)
theorem ini_IndexOutOfBoundsException : Cond.initialized "java/lang/IndexOutOfBoundsException" ∈ TB := zmem 29 (by decide +kernel) (by decide +kernel)
theorem ini_IllegalStateException : Cond.initialized "java/lang/IllegalStateException" ∈ TB := zmem 30 (by decide +kernel) (by decide +kernel)
theorem ini_IllegalArgumentException : Cond.initialized "java/lang/IllegalArgumentException" ∈ TB := zmem 31 (by decide +kernel) (by decide +kernel)
theorem ini_Math : Cond.initialized "java/lang/Math" ∈ TB := zmem 32 (by decide +kernel) (by decide +kernel)
theorem ini_System : Cond.initialized "java/lang/System" ∈ TB := zmem 33 (by decide +kernel) (by decide +kernel)
theorem ini_Integer : Cond.initialized "java/lang/Integer" ∈ TB := zmem 34 (by decide +kernel) (by decide +kernel)
theorem kl_L_8 : Cond.classLink n_L 8 n_D ∈ TB := zmem 35 (by decide +kernel) (by decide +kernel)
theorem ins_D : Cond.instantiable n_D 5 ∈ TB := zmem 36 (by decide +kernel) (by decide +kernel)
theorem ml_L_91 : Cond.methodLink n_L 91 y_D_init ∈ TB := zmem 37 (by decide +kernel) (by decide +kernel)
theorem im_D_init : Cond.instanceMethod y_D_init ∈ TB := zmem 38 (by decide +kernel) (by decide +kernel)
theorem co_D_init : w_D_init ∈ TB := zmem 39 (by decide +kernel) (by decide +kernel)
theorem ml_D_3 : Cond.methodLink n_D 3 objectInit ∈ TB := zmem 40 (by decide +kernel) (by decide +kernel)
theorem im_Object_init : Cond.instanceMethod objectInit ∈ TB := zmem 41 (by decide +kernel) (by decide +kernel)
theorem kl_D_9 : Cond.classLink n_D 9 n_J ∈ TB := zmem 43 (by decide +kernel) (by decide +kernel)
theorem ins_J : Cond.instantiable n_J 10 ∈ TB := zmem 44 (by decide +kernel) (by decide +kernel)
theorem ml_D_11 : Cond.methodLink n_D 11 y_J_init ∈ TB := zmem 45 (by decide +kernel) (by decide +kernel)
theorem im_J_init : Cond.instanceMethod y_J_init ∈ TB := zmem 46 (by decide +kernel) (by decide +kernel)
theorem co_J_init : w_J_init ∈ TB := zmem 47 (by decide +kernel) (by decide +kernel)
theorem ml_J_3 : Cond.methodLink n_J 3 objectInit ∈ TB := zmem 48 (by decide +kernel) (by decide +kernel)
theorem fl_J_9 : Cond.fieldLink n_J 9 n_J "state" "J" ∈ TB := zmem 49 (by decide +kernel) (by decide +kernel)
theorem fl_J_15 : Cond.fieldLink n_J 15 n_J "haulCount" "I" ∈ TB := zmem 50 (by decide +kernel) (by decide +kernel)
theorem fl_D_46 : Cond.fieldLinkNest n_D 46 n_J "haulCount" "I" n_D ∈ TB := zmem 51 (by decide +kernel) (by decide +kernel)
theorem fl_J_19 : Cond.fieldLink n_J 19 n_J "pairCount" "I" ∈ TB := zmem 52 (by decide +kernel) (by decide +kernel)
theorem fl_D_99 : Cond.fieldLinkNest n_D 99 n_J "pairCount" "I" n_D ∈ TB := zmem 53 (by decide +kernel) (by decide +kernel)
theorem fl_J_22 : Cond.fieldLink n_J 22 n_J "openHaul" "[I" ∈ TB := zmem 54 (by decide +kernel) (by decide +kernel)
theorem fl_J_26 : Cond.fieldLink n_J 26 n_J "isOut" "[Z" ∈ TB := zmem 55 (by decide +kernel) (by decide +kernel)
theorem fl_J_30 : Cond.fieldLink n_J 30 n_J "hasDevice" "[Z" ∈ TB := zmem 56 (by decide +kernel) (by decide +kernel)
theorem fl_D_79 : Cond.fieldLinkNest n_D 79 n_J "hasDevice" "[Z" n_D ∈ TB := zmem 57 (by decide +kernel) (by decide +kernel)
theorem fl_J_33 : Cond.fieldLink n_J 33 n_J "counts" "[I" ∈ TB := zmem 58 (by decide +kernel) (by decide +kernel)
theorem fl_J_36 : Cond.fieldLink n_J 36 n_J "deviceHaul" "[I" ∈ TB := zmem 59 (by decide +kernel) (by decide +kernel)
theorem fl_D_90 : Cond.fieldLinkNest n_D 90 n_J "deviceHaul" "[I" n_D ∈ TB := zmem 60 (by decide +kernel) (by decide +kernel)
theorem fl_J_39 : Cond.fieldLink n_J 39 n_J "plainHaul" "[I" ∈ TB := zmem 61 (by decide +kernel) (by decide +kernel)
theorem fl_D_93 : Cond.fieldLinkNest n_D 93 n_J "plainHaul" "[I" n_D ∈ TB := zmem 62 (by decide +kernel) (by decide +kernel)
theorem fl_J_42 : Cond.fieldLink n_J 42 n_J "shipOfPair" "[I" ∈ TB := zmem 63 (by decide +kernel) (by decide +kernel)
theorem fl_D_96 : Cond.fieldLinkNest n_D 96 n_J "shipOfPair" "[I" n_D ∈ TB := zmem 64 (by decide +kernel) (by decide +kernel)
theorem arr_int : Cond.arrayClass .int ∈ TB := zmem 86 (by decide +kernel) (by decide +kernel)
theorem arr_boolean : Cond.arrayClass .boolean ∈ TB := zmem 87 (by decide +kernel) (by decide +kernel)
theorem kl_D_18 : Cond.classLink n_D 18 n_C ∈ TB := zmem 88 (by decide +kernel) (by decide +kernel)
theorem ins_C : Cond.instantiable n_C 1 ∈ TB := zmem 89 (by decide +kernel) (by decide +kernel)
theorem ml_D_20 : Cond.methodLink n_D 20 y_C_init ∈ TB := zmem 90 (by decide +kernel) (by decide +kernel)
theorem im_C_init : Cond.instanceMethod y_C_init ∈ TB := zmem 91 (by decide +kernel) (by decide +kernel)
theorem co_C_init : w_C_init ∈ TB := zmem 92 (by decide +kernel) (by decide +kernel)
theorem ml_C_3 : Cond.methodLink n_C 3 objectInit ∈ TB := zmem 93 (by decide +kernel) (by decide +kernel)
theorem fl_C_9 : Cond.fieldLink n_C 9 n_C "readings" "[I" ∈ TB := zmem 94 (by decide +kernel) (by decide +kernel)
theorem kl_D_25 : Cond.classLink n_D 25 n_H ∈ TB := zmem 98 (by decide +kernel) (by decide +kernel)
theorem ins_H : Cond.instantiable n_H 6 ∈ TB := zmem 99 (by decide +kernel) (by decide +kernel)
theorem ml_D_27 : Cond.methodLink n_D 27 y_H_init ∈ TB := zmem 100 (by decide +kernel) (by decide +kernel)
theorem im_H_init : Cond.instanceMethod y_H_init ∈ TB := zmem 101 (by decide +kernel) (by decide +kernel)
theorem co_H_init : w_H_init ∈ TB := zmem 102 (by decide +kernel) (by decide +kernel)
theorem ml_H_3 : Cond.methodLink n_H 3 objectInit ∈ TB := zmem 103 (by decide +kernel) (by decide +kernel)
theorem fl_H_9 : Cond.fieldLink n_H 9 n_H "weights" "[I" ∈ TB := zmem 104 (by decide +kernel) (by decide +kernel)
theorem fl_H_15 : Cond.fieldLink n_H 15 n_H "size" "I" ∈ TB := zmem 105 (by decide +kernel) (by decide +kernel)
theorem fl_H_19 : Cond.fieldLink n_H 19 n_H "chosenSum" "I" ∈ TB := zmem 106 (by decide +kernel) (by decide +kernel)
theorem fl_H_22 : Cond.fieldLink n_H 22 n_H "lowSums" "[I" ∈ TB := zmem 107 (by decide +kernel) (by decide +kernel)
theorem fl_H_25 : Cond.fieldLink n_H 25 n_H "highSums" "[I" ∈ TB := zmem 108 (by decide +kernel) (by decide +kernel)
theorem fl_H_28 : Cond.fieldLink n_H 28 n_H "spare" "[I" ∈ TB := zmem 109 (by decide +kernel) (by decide +kernel)
theorem kl_D_32 : Cond.classLink n_D 32 n_K ∈ TB := zmem 123 (by decide +kernel) (by decide +kernel)
theorem ins_K : Cond.instantiable n_K 4 ∈ TB := zmem 124 (by decide +kernel) (by decide +kernel)
theorem ml_D_34 : Cond.methodLink n_D 34 y_K_init ∈ TB := zmem 125 (by decide +kernel) (by decide +kernel)
theorem im_K_init : Cond.instanceMethod y_K_init ∈ TB := zmem 126 (by decide +kernel) (by decide +kernel)
theorem co_K_init : w_K_init ∈ TB := zmem 127 (by decide +kernel) (by decide +kernel)
theorem ml_K_3 : Cond.methodLink n_K 3 objectInit ∈ TB := zmem 128 (by decide +kernel) (by decide +kernel)
theorem fl_K_9 : Cond.fieldLink n_K 9 n_K "ways" "[J" ∈ TB := zmem 129 (by decide +kernel) (by decide +kernel)
theorem fl_K_15 : Cond.fieldLink n_K 15 n_K "top" "I" ∈ TB := zmem 130 (by decide +kernel) (by decide +kernel)
theorem fl_K_19 : Cond.fieldLink n_K 19 n_K "crossed" "J" ∈ TB := zmem 131 (by decide +kernel) (by decide +kernel)
theorem fl_D_162 : Cond.fieldLinkNest n_D 162 n_K "crossed" "J" n_D ∈ TB := zmem 132 (by decide +kernel) (by decide +kernel)
theorem fl_K_23 : Cond.fieldLink n_K 23 n_K "all" "J" ∈ TB := zmem 133 (by decide +kernel) (by decide +kernel)
theorem fl_D_166 : Cond.fieldLinkNest n_D 166 n_K "all" "J" n_D ∈ TB := zmem 134 (by decide +kernel) (by decide +kernel)
theorem arr_long : Cond.arrayClass .long ∈ TB := zmem 144 (by decide +kernel) (by decide +kernel)
theorem fl_D_14 : Cond.fieldLink n_D 14 n_D "journal" "LDeviceTrials$Journal;" ∈ TB := zmem 145 (by decide +kernel) (by decide +kernel)
theorem fl_D_21 : Cond.fieldLink n_D 21 n_D "camera" "LDeviceTrials$Camera;" ∈ TB := zmem 146 (by decide +kernel) (by decide +kernel)
theorem fl_D_28 : Cond.fieldLink n_D 28 n_D "choices" "LDeviceTrials$Choices;" ∈ TB := zmem 147 (by decide +kernel) (by decide +kernel)
theorem fl_D_35 : Cond.fieldLink n_D 35 n_D "walk" "LDeviceTrials$Walk;" ∈ TB := zmem 148 (by decide +kernel) (by decide +kernel)
theorem fl_D_39 : Cond.fieldLink n_D 39 n_D "centsOfKind" "[I" ∈ TB := zmem 149 (by decide +kernel) (by decide +kernel)
theorem ml_L_120 : Cond.methodLink n_L 120 y_D_pairs ∈ TB := zmem 161 (by decide +kernel) (by decide +kernel)
theorem im_D_pairs : Cond.instanceMethod y_D_pairs ∈ TB := zmem 162 (by decide +kernel) (by decide +kernel)
theorem se_D_pairs : Cond.selects n_D y_D_pairs y_D_pairs ∈ TB := zmem 163 (by decide +kernel) (by decide +kernel)
theorem co_D_pairs : w_D_pairs ∈ TB := zmem 164 (by decide +kernel) (by decide +kernel)
theorem ml_L_171 : Cond.methodLink n_L 171 y_D_lost ∈ TB := zmem 165 (by decide +kernel) (by decide +kernel)
theorem im_D_lost : Cond.instanceMethod y_D_lost ∈ TB := zmem 166 (by decide +kernel) (by decide +kernel)
theorem se_D_lost : Cond.selects n_D y_D_lost y_D_lost ∈ TB := zmem 167 (by decide +kernel) (by decide +kernel)
theorem co_D_lost : w_D_lost ∈ TB := zmem 168 (by decide +kernel) (by decide +kernel)
theorem ml_D_109 : Cond.methodLink n_D 109 y_J_sumOf ∈ TB := zmem 169 (by decide +kernel) (by decide +kernel)
theorem im_J_sumOf : Cond.instanceMethod y_J_sumOf ∈ TB := zmem 170 (by decide +kernel) (by decide +kernel)
theorem se_J_sumOf : Cond.selects n_J y_J_sumOf y_J_sumOf ∈ TB := zmem 171 (by decide +kernel) (by decide +kernel)
theorem co_J_sumOf : w_J_sumOf ∈ TB := zmem 172 (by decide +kernel) (by decide +kernel)
theorem ml_J_71 : Cond.methodLink n_J 71 y_J_isOf ∈ TB := zmem 173 (by decide +kernel) (by decide +kernel)
theorem im_J_isOf : Cond.instanceMethod y_J_isOf ∈ TB := zmem 175 (by decide +kernel) (by decide +kernel)
theorem co_J_isOf : w_J_isOf ∈ TB := zmem 176 (by decide +kernel) (by decide +kernel)
theorem ml_J_74 : Cond.methodLink n_J 74 y_J_keptDifference ∈ TB := zmem 177 (by decide +kernel) (by decide +kernel)
theorem im_J_keptDifference : Cond.instanceMethod y_J_keptDifference ∈ TB := zmem 178 (by decide +kernel) (by decide +kernel)
theorem se_J_keptDifference : Cond.selects n_J y_J_keptDifference y_J_keptDifference ∈ TB := zmem 179 (by decide +kernel) (by decide +kernel)
theorem co_J_keptDifference : w_J_keptDifference ∈ TB := zmem 180 (by decide +kernel) (by decide +kernel)
theorem ml_J_64 : Cond.methodLink n_J 64 y_J_keeps ∈ TB := zmem 181 (by decide +kernel) (by decide +kernel)
theorem im_J_keeps : Cond.instanceMethod y_J_keeps ∈ TB := zmem 182 (by decide +kernel) (by decide +kernel)
theorem se_J_keeps : Cond.selects n_J y_J_keeps y_J_keeps ∈ TB := zmem 183 (by decide +kernel) (by decide +kernel)
theorem co_J_keeps : w_J_keeps ∈ TB := zmem 184 (by decide +kernel) (by decide +kernel)
theorem ml_J_57 : Cond.methodLink n_J 57 y_J_deviceCount ∈ TB := zmem 185 (by decide +kernel) (by decide +kernel)
theorem im_J_deviceCount : Cond.instanceMethod y_J_deviceCount ∈ TB := zmem 187 (by decide +kernel) (by decide +kernel)
theorem co_J_deviceCount : w_J_deviceCount ∈ TB := zmem 188 (by decide +kernel) (by decide +kernel)
theorem ml_J_61 : Cond.methodLink n_J 61 y_J_plainCount ∈ TB := zmem 189 (by decide +kernel) (by decide +kernel)
theorem im_J_plainCount : Cond.instanceMethod y_J_plainCount ∈ TB := zmem 191 (by decide +kernel) (by decide +kernel)
theorem co_J_plainCount : w_J_plainCount ∈ TB := zmem 192 (by decide +kernel) (by decide +kernel)
theorem ml_J_68 : Cond.methodLink n_J 68 y_J_differenceOf ∈ TB := zmem 193 (by decide +kernel) (by decide +kernel)
theorem im_J_differenceOf : Cond.instanceMethod y_J_differenceOf ∈ TB := zmem 194 (by decide +kernel) (by decide +kernel)
theorem se_J_differenceOf : Cond.selects n_J y_J_differenceOf y_J_differenceOf ∈ TB := zmem 195 (by decide +kernel) (by decide +kernel)
theorem co_J_differenceOf : w_J_differenceOf ∈ TB := zmem 196 (by decide +kernel) (by decide +kernel)
theorem ml_L_85 : Cond.methodLink n_L 85 y_L_cell ∈ TB := zmem 197 (by decide +kernel) (by decide +kernel)
theorem sm_L_cell : Cond.static y_L_cell ∈ TB := zmem 198 (by decide +kernel) (by decide +kernel)
theorem co_L_cell : w_L_cell ∈ TB := zmem 199 (by decide +kernel) (by decide +kernel)
theorem ml_L_97 : Cond.methodLink n_L 97 y_L_haul ∈ TB := zmem 200 (by decide +kernel) (by decide +kernel)
theorem sm_L_haul : Cond.static y_L_haul ∈ TB := zmem 201 (by decide +kernel) (by decide +kernel)
theorem co_L_haul : w_L_haul ∈ TB := zmem 202 (by decide +kernel) (by decide +kernel)
theorem kl_L_13 : Cond.classLink n_L 13 "java/lang/IndexOutOfBoundsException" ∈ TB := zmem 203 (by decide +kernel) (by decide +kernel)
theorem kl_L_15 : Cond.classLink n_L 15 "java/lang/IllegalStateException" ∈ TB := zmem 204 (by decide +kernel) (by decide +kernel)
theorem ml_L_7 : Cond.methodLink n_L 7 y_D_haul ∈ TB := zmem 205 (by decide +kernel) (by decide +kernel)
theorem im_D_haul : Cond.instanceMethod y_D_haul ∈ TB := zmem 206 (by decide +kernel) (by decide +kernel)
theorem se_D_haul : Cond.selects n_D y_D_haul y_D_haul ∈ TB := zmem 207 (by decide +kernel) (by decide +kernel)
theorem co_D_haul : w_D_haul ∈ TB := zmem 208 (by decide +kernel) (by decide +kernel)
theorem ml_D_43 : Cond.methodLink n_D 43 y_D_needShip ∈ TB := zmem 209 (by decide +kernel) (by decide +kernel)
theorem sm_D_needShip : Cond.static y_D_needShip ∈ TB := zmem 210 (by decide +kernel) (by decide +kernel)
theorem co_D_needShip : w_D_needShip ∈ TB := zmem 211 (by decide +kernel) (by decide +kernel)
theorem ml_D_86 : Cond.methodLink n_D 86 y_D_needIndex ∈ TB := zmem 212 (by decide +kernel) (by decide +kernel)
theorem sm_D_needIndex : Cond.static y_D_needIndex ∈ TB := zmem 213 (by decide +kernel) (by decide +kernel)
theorem co_D_needIndex : w_D_needIndex ∈ TB := zmem 214 (by decide +kernel) (by decide +kernel)
theorem kl_D_177 : Cond.classLink n_D 177 "java/lang/IndexOutOfBoundsException" ∈ TB := zmem 215 (by decide +kernel) (by decide +kernel)
theorem ins_IndexOutOfBoundsException : Cond.instantiable "java/lang/IndexOutOfBoundsException" 6 ∈ TB := zmem 216 (by decide +kernel) (by decide +kernel)
theorem ca_IndexOutOfBoundsException : Cond.castable "java/lang/IndexOutOfBoundsException" "java/lang/IndexOutOfBoundsException" ∈ TB := zmem 217 (by decide +kernel) (by decide +kernel)
theorem ins_Throwable : Cond.instantiable "java/lang/Throwable" 6 ∈ TB := zmem 254 (by decide +kernel) (by decide +kernel)
theorem ml_D_181 : Cond.methodLink n_D 181 ⟨"java/lang/IndexOutOfBoundsException", "<init>", "(Ljava/lang/String;)V"⟩ ∈ TB := zmem 257 (by decide +kernel) (by decide +kernel)
theorem arr_byte : Cond.arrayClass .byte ∈ TB := zmem 282 (by decide +kernel) (by decide +kernel)
theorem kl_D_50 : Cond.classLink n_D 50 "java/lang/IllegalStateException" ∈ TB := zmem 283 (by decide +kernel) (by decide +kernel)
theorem ins_IllegalStateException : Cond.instantiable "java/lang/IllegalStateException" 6 ∈ TB := zmem 284 (by decide +kernel) (by decide +kernel)
theorem ca_IllegalStateException : Cond.castable "java/lang/IllegalStateException" "java/lang/IllegalStateException" ∈ TB := zmem 285 (by decide +kernel) (by decide +kernel)
theorem ml_D_54 : Cond.methodLink n_D 54 ⟨"java/lang/IllegalStateException", "<init>", "(Ljava/lang/String;)V"⟩ ∈ TB := zmem 293 (by decide +kernel) (by decide +kernel)
theorem ml_D_57 : Cond.methodLink n_D 57 y_J_addHaul ∈ TB := zmem 299 (by decide +kernel) (by decide +kernel)
theorem im_J_addHaul : Cond.instanceMethod y_J_addHaul ∈ TB := zmem 300 (by decide +kernel) (by decide +kernel)
theorem se_J_addHaul : Cond.selects n_J y_J_addHaul y_J_addHaul ∈ TB := zmem 301 (by decide +kernel) (by decide +kernel)
theorem co_J_addHaul : w_J_addHaul ∈ TB := zmem 302 (by decide +kernel) (by decide +kernel)
theorem ml_J_45 : Cond.methodLink n_J 45 y_J_drawArm ∈ TB := zmem 303 (by decide +kernel) (by decide +kernel)
theorem im_J_drawArm : Cond.instanceMethod y_J_drawArm ∈ TB := zmem 305 (by decide +kernel) (by decide +kernel)
theorem co_J_drawArm : w_J_drawArm ∈ TB := zmem 306 (by decide +kernel) (by decide +kernel)
theorem ck_J_53 : Cond.constantLong n_J 53 6364136223846793005 ∈ TB := zmem 307 (by decide +kernel) (by decide +kernel)
theorem ck_J_55 : Cond.constantLong n_J 55 1442695040888963407 ∈ TB := zmem 308 (by decide +kernel) (by decide +kernel)
theorem ml_J_49 : Cond.methodLink n_J 49 y_J_addPair ∈ TB := zmem 309 (by decide +kernel) (by decide +kernel)
theorem im_J_addPair : Cond.instanceMethod y_J_addPair ∈ TB := zmem 311 (by decide +kernel) (by decide +kernel)
theorem co_J_addPair : w_J_addPair ∈ TB := zmem 312 (by decide +kernel) (by decide +kernel)
theorem ml_L_105 : Cond.methodLink n_L 105 y_L_caught ∈ TB := zmem 313 (by decide +kernel) (by decide +kernel)
theorem sm_L_caught : Cond.static y_L_caught ∈ TB := zmem 314 (by decide +kernel) (by decide +kernel)
theorem co_L_caught : w_L_caught ∈ TB := zmem 315 (by decide +kernel) (by decide +kernel)
theorem kl_L_21 : Cond.classLink n_L 21 "java/lang/IllegalArgumentException" ∈ TB := zmem 316 (by decide +kernel) (by decide +kernel)
theorem ml_L_17 : Cond.methodLink n_L 17 y_D_caught ∈ TB := zmem 317 (by decide +kernel) (by decide +kernel)
theorem im_D_caught : Cond.instanceMethod y_D_caught ∈ TB := zmem 318 (by decide +kernel) (by decide +kernel)
theorem se_D_caught : Cond.selects n_D y_D_caught y_D_caught ∈ TB := zmem 319 (by decide +kernel) (by decide +kernel)
theorem co_D_caught : w_D_caught ∈ TB := zmem 320 (by decide +kernel) (by decide +kernel)
theorem ml_D_61 : Cond.methodLink n_D 61 y_D_needHaul ∈ TB := zmem 321 (by decide +kernel) (by decide +kernel)
theorem im_D_needHaul : Cond.instanceMethod y_D_needHaul ∈ TB := zmem 323 (by decide +kernel) (by decide +kernel)
theorem co_D_needHaul : w_D_needHaul ∈ TB := zmem 324 (by decide +kernel) (by decide +kernel)
theorem ml_D_64 : Cond.methodLink n_D 64 y_D_needKind ∈ TB := zmem 325 (by decide +kernel) (by decide +kernel)
theorem sm_D_needKind : Cond.static y_D_needKind ∈ TB := zmem 326 (by decide +kernel) (by decide +kernel)
theorem co_D_needKind : w_D_needKind ∈ TB := zmem 327 (by decide +kernel) (by decide +kernel)
theorem ml_D_67 : Cond.methodLink n_D 67 y_D_needNumber ∈ TB := zmem 328 (by decide +kernel) (by decide +kernel)
theorem sm_D_needNumber : Cond.static y_D_needNumber ∈ TB := zmem 329 (by decide +kernel) (by decide +kernel)
theorem co_D_needNumber : w_D_needNumber ∈ TB := zmem 330 (by decide +kernel) (by decide +kernel)
theorem kl_D_182 : Cond.classLink n_D 182 "java/lang/IllegalArgumentException" ∈ TB := zmem 331 (by decide +kernel) (by decide +kernel)
theorem ins_IllegalArgumentException : Cond.instantiable "java/lang/IllegalArgumentException" 6 ∈ TB := zmem 332 (by decide +kernel) (by decide +kernel)
theorem ca_IllegalArgumentException : Cond.castable "java/lang/IllegalArgumentException" "java/lang/IllegalArgumentException" ∈ TB := zmem 333 (by decide +kernel) (by decide +kernel)
theorem ml_D_186 : Cond.methodLink n_D 186 ⟨"java/lang/IllegalArgumentException", "<init>", "(Ljava/lang/String;)V"⟩ ∈ TB := zmem 341 (by decide +kernel) (by decide +kernel)
theorem ml_D_71 : Cond.methodLink n_D 71 y_J_putCount ∈ TB := zmem 347 (by decide +kernel) (by decide +kernel)
theorem im_J_putCount : Cond.instanceMethod y_J_putCount ∈ TB := zmem 348 (by decide +kernel) (by decide +kernel)
theorem se_J_putCount : Cond.selects n_J y_J_putCount y_J_putCount ∈ TB := zmem 349 (by decide +kernel) (by decide +kernel)
theorem co_J_putCount : w_J_putCount ∈ TB := zmem 350 (by decide +kernel) (by decide +kernel)
theorem ml_L_109 : Cond.methodLink n_L 109 y_L_out ∈ TB := zmem 351 (by decide +kernel) (by decide +kernel)
theorem sm_L_out : Cond.static y_L_out ∈ TB := zmem 352 (by decide +kernel) (by decide +kernel)
theorem co_L_out : w_L_out ∈ TB := zmem 353 (by decide +kernel) (by decide +kernel)
theorem ml_L_23 : Cond.methodLink n_L 23 y_D_out ∈ TB := zmem 354 (by decide +kernel) (by decide +kernel)
theorem im_D_out : Cond.instanceMethod y_D_out ∈ TB := zmem 355 (by decide +kernel) (by decide +kernel)
theorem se_D_out : Cond.selects n_D y_D_out y_D_out ∈ TB := zmem 356 (by decide +kernel) (by decide +kernel)
theorem co_D_out : w_D_out ∈ TB := zmem 357 (by decide +kernel) (by decide +kernel)
theorem ml_D_75 : Cond.methodLink n_D 75 y_J_leaveOut ∈ TB := zmem 358 (by decide +kernel) (by decide +kernel)
theorem im_J_leaveOut : Cond.instanceMethod y_J_leaveOut ∈ TB := zmem 359 (by decide +kernel) (by decide +kernel)
theorem se_J_leaveOut : Cond.selects n_J y_J_leaveOut y_J_leaveOut ∈ TB := zmem 360 (by decide +kernel) (by decide +kernel)
theorem co_J_leaveOut : w_J_leaveOut ∈ TB := zmem 361 (by decide +kernel) (by decide +kernel)
theorem ml_L_113 : Cond.methodLink n_L 113 y_L_arm ∈ TB := zmem 362 (by decide +kernel) (by decide +kernel)
theorem sm_L_arm : Cond.static y_L_arm ∈ TB := zmem 363 (by decide +kernel) (by decide +kernel)
theorem co_L_arm : w_L_arm ∈ TB := zmem 364 (by decide +kernel) (by decide +kernel)
theorem ml_L_27 : Cond.methodLink n_L 27 y_D_arm ∈ TB := zmem 365 (by decide +kernel) (by decide +kernel)
theorem im_D_arm : Cond.instanceMethod y_D_arm ∈ TB := zmem 366 (by decide +kernel) (by decide +kernel)
theorem se_D_arm : Cond.selects n_D y_D_arm y_D_arm ∈ TB := zmem 367 (by decide +kernel) (by decide +kernel)
theorem co_D_arm : w_D_arm ∈ TB := zmem 368 (by decide +kernel) (by decide +kernel)
theorem ml_L_116 : Cond.methodLink n_L 116 y_L_pair ∈ TB := zmem 369 (by decide +kernel) (by decide +kernel)
theorem sm_L_pair : Cond.static y_L_pair ∈ TB := zmem 370 (by decide +kernel) (by decide +kernel)
theorem co_L_pair : w_L_pair ∈ TB := zmem 371 (by decide +kernel) (by decide +kernel)
theorem ml_L_30 : Cond.methodLink n_L 30 y_D_pair ∈ TB := zmem 372 (by decide +kernel) (by decide +kernel)
theorem im_D_pair : Cond.instanceMethod y_D_pair ∈ TB := zmem 373 (by decide +kernel) (by decide +kernel)
theorem se_D_pair : Cond.selects n_D y_D_pair y_D_pair ∈ TB := zmem 374 (by decide +kernel) (by decide +kernel)
theorem co_D_pair : w_D_pair ∈ TB := zmem 375 (by decide +kernel) (by decide +kernel)
theorem ml_D_83 : Cond.methodLink n_D 83 y_D_needPair ∈ TB := zmem 376 (by decide +kernel) (by decide +kernel)
theorem im_D_needPair : Cond.instanceMethod y_D_needPair ∈ TB := zmem 378 (by decide +kernel) (by decide +kernel)
theorem co_D_needPair : w_D_needPair ∈ TB := zmem 379 (by decide +kernel) (by decide +kernel)
theorem ml_L_124 : Cond.methodLink n_L 124 y_L_difference ∈ TB := zmem 380 (by decide +kernel) (by decide +kernel)
theorem sm_L_difference : Cond.static y_L_difference ∈ TB := zmem 381 (by decide +kernel) (by decide +kernel)
theorem co_L_difference : w_L_difference ∈ TB := zmem 382 (by decide +kernel) (by decide +kernel)
theorem ml_L_34 : Cond.methodLink n_L 34 y_D_difference ∈ TB := zmem 383 (by decide +kernel) (by decide +kernel)
theorem im_D_difference : Cond.instanceMethod y_D_difference ∈ TB := zmem 384 (by decide +kernel) (by decide +kernel)
theorem se_D_difference : Cond.selects n_D y_D_difference y_D_difference ∈ TB := zmem 385 (by decide +kernel) (by decide +kernel)
theorem co_D_difference : w_D_difference ∈ TB := zmem 386 (by decide +kernel) (by decide +kernel)
theorem ml_D_102 : Cond.methodLink n_D 102 y_J_differenceOf ∈ TB := zmem 387 (by decide +kernel) (by decide +kernel)
theorem ml_L_127 : Cond.methodLink n_L 127 y_L_kept ∈ TB := zmem 388 (by decide +kernel) (by decide +kernel)
theorem sm_L_kept : Cond.static y_L_kept ∈ TB := zmem 389 (by decide +kernel) (by decide +kernel)
theorem co_L_kept : w_L_kept ∈ TB := zmem 390 (by decide +kernel) (by decide +kernel)
theorem ml_L_37 : Cond.methodLink n_L 37 y_D_kept ∈ TB := zmem 391 (by decide +kernel) (by decide +kernel)
theorem im_D_kept : Cond.instanceMethod y_D_kept ∈ TB := zmem 392 (by decide +kernel) (by decide +kernel)
theorem se_D_kept : Cond.selects n_D y_D_kept y_D_kept ∈ TB := zmem 393 (by decide +kernel) (by decide +kernel)
theorem co_D_kept : w_D_kept ∈ TB := zmem 394 (by decide +kernel) (by decide +kernel)
theorem ml_D_106 : Cond.methodLink n_D 106 y_J_keptOf ∈ TB := zmem 395 (by decide +kernel) (by decide +kernel)
theorem im_J_keptOf : Cond.instanceMethod y_J_keptOf ∈ TB := zmem 396 (by decide +kernel) (by decide +kernel)
theorem se_J_keptOf : Cond.selects n_J y_J_keptOf y_J_keptOf ∈ TB := zmem 397 (by decide +kernel) (by decide +kernel)
theorem co_J_keptOf : w_J_keptOf ∈ TB := zmem 398 (by decide +kernel) (by decide +kernel)
theorem ml_L_130 : Cond.methodLink n_L 130 y_L_sum ∈ TB := zmem 399 (by decide +kernel) (by decide +kernel)
theorem sm_L_sum : Cond.static y_L_sum ∈ TB := zmem 400 (by decide +kernel) (by decide +kernel)
theorem co_L_sum : w_L_sum ∈ TB := zmem 401 (by decide +kernel) (by decide +kernel)
theorem ml_L_40 : Cond.methodLink n_L 40 y_D_sum ∈ TB := zmem 402 (by decide +kernel) (by decide +kernel)
theorem im_D_sum : Cond.instanceMethod y_D_sum ∈ TB := zmem 403 (by decide +kernel) (by decide +kernel)
theorem se_D_sum : Cond.selects n_D y_D_sum y_D_sum ∈ TB := zmem 404 (by decide +kernel) (by decide +kernel)
theorem co_D_sum : w_D_sum ∈ TB := zmem 405 (by decide +kernel) (by decide +kernel)
theorem ml_L_133 : Cond.methodLink n_L 133 y_L_odds ∈ TB := zmem 406 (by decide +kernel) (by decide +kernel)
theorem sm_L_odds : Cond.static y_L_odds ∈ TB := zmem 407 (by decide +kernel) (by decide +kernel)
theorem co_L_odds : w_L_odds ∈ TB := zmem 408 (by decide +kernel) (by decide +kernel)
theorem ml_L_43 : Cond.methodLink n_L 43 y_D_odds ∈ TB := zmem 409 (by decide +kernel) (by decide +kernel)
theorem im_D_odds : Cond.instanceMethod y_D_odds ∈ TB := zmem 410 (by decide +kernel) (by decide +kernel)
theorem se_D_odds : Cond.selects n_D y_D_odds y_D_odds ∈ TB := zmem 411 (by decide +kernel) (by decide +kernel)
theorem co_D_odds : w_D_odds ∈ TB := zmem 412 (by decide +kernel) (by decide +kernel)
theorem ml_D_112 : Cond.methodLink n_D 112 y_D_needPart ∈ TB := zmem 413 (by decide +kernel) (by decide +kernel)
theorem sm_D_needPart : Cond.static y_D_needPart ∈ TB := zmem 414 (by decide +kernel) (by decide +kernel)
theorem co_D_needPart : w_D_needPart ∈ TB := zmem 415 (by decide +kernel) (by decide +kernel)
theorem ml_D_115 : Cond.methodLink n_D 115 y_H_clear ∈ TB := zmem 416 (by decide +kernel) (by decide +kernel)
theorem im_H_clear : Cond.instanceMethod y_H_clear ∈ TB := zmem 417 (by decide +kernel) (by decide +kernel)
theorem se_H_clear : Cond.selects n_H y_H_clear y_H_clear ∈ TB := zmem 418 (by decide +kernel) (by decide +kernel)
theorem co_H_clear : w_H_clear ∈ TB := zmem 419 (by decide +kernel) (by decide +kernel)
theorem ml_D_118 : Cond.methodLink n_D 118 y_J_keeps ∈ TB := zmem 420 (by decide +kernel) (by decide +kernel)
theorem ml_D_122 : Cond.methodLink n_D 122 ⟨"java/lang/Math", "abs", "(I)I"⟩ ∈ TB := zmem 421 (by decide +kernel) (by decide +kernel)
theorem sm_Math_abs : Cond.static ⟨"java/lang/Math", "abs", "(I)I"⟩ ∈ TB := zmem 422 (by decide +kernel) (by decide +kernel)
theorem ml_D_127 : Cond.methodLink n_D 127 y_H_add ∈ TB := zmem 424 (by decide +kernel) (by decide +kernel)
theorem im_H_add : Cond.instanceMethod y_H_add ∈ TB := zmem 425 (by decide +kernel) (by decide +kernel)
theorem se_H_add : Cond.selects n_H y_H_add y_H_add ∈ TB := zmem 426 (by decide +kernel) (by decide +kernel)
theorem co_H_add : w_H_add ∈ TB := zmem 427 (by decide +kernel) (by decide +kernel)
theorem ml_D_131 : Cond.methodLink n_D 131 y_H_countNotAbove ∈ TB := zmem 428 (by decide +kernel) (by decide +kernel)
theorem im_H_countNotAbove : Cond.instanceMethod y_H_countNotAbove ∈ TB := zmem 429 (by decide +kernel) (by decide +kernel)
theorem se_H_countNotAbove : Cond.selects n_H y_H_countNotAbove y_H_countNotAbove ∈ TB := zmem 430 (by decide +kernel) (by decide +kernel)
theorem co_H_countNotAbove : w_H_countNotAbove ∈ TB := zmem 431 (by decide +kernel) (by decide +kernel)
theorem ml_H_31 : Cond.methodLink n_H 31 y_H_fillSums ∈ TB := zmem 432 (by decide +kernel) (by decide +kernel)
theorem im_H_fillSums : Cond.instanceMethod y_H_fillSums ∈ TB := zmem 434 (by decide +kernel) (by decide +kernel)
theorem co_H_fillSums : w_H_fillSums ∈ TB := zmem 435 (by decide +kernel) (by decide +kernel)
theorem ml_H_35 : Cond.methodLink n_H 35 y_H_addWeight ∈ TB := zmem 436 (by decide +kernel) (by decide +kernel)
theorem im_H_addWeight : Cond.instanceMethod y_H_addWeight ∈ TB := zmem 438 (by decide +kernel) (by decide +kernel)
theorem co_H_addWeight : w_H_addWeight ∈ TB := zmem 439 (by decide +kernel) (by decide +kernel)
theorem ml_H_39 : Cond.methodLink n_H 39 ⟨"java/lang/System", "arraycopy", "(Ljava/lang/Object;ILjava/lang/Object;II)V"⟩ ∈ TB := zmem 440 (by decide +kernel) (by decide +kernel)
theorem sm_System_arraycopy : Cond.static ⟨"java/lang/System", "arraycopy", "(Ljava/lang/Object;ILjava/lang/Object;II)V"⟩ ∈ TB := zmem 441 (by decide +kernel) (by decide +kernel)
theorem ml_D_135 : Cond.methodLink n_D 135 y_H_countAll ∈ TB := zmem 443 (by decide +kernel) (by decide +kernel)
theorem im_H_countAll : Cond.instanceMethod y_H_countAll ∈ TB := zmem 444 (by decide +kernel) (by decide +kernel)
theorem se_H_countAll : Cond.selects n_H y_H_countAll y_H_countAll ∈ TB := zmem 445 (by decide +kernel) (by decide +kernel)
theorem co_H_countAll : w_H_countAll ∈ TB := zmem 446 (by decide +kernel) (by decide +kernel)
theorem ml_D_138 : Cond.methodLink n_D 138 y_D_toldPart ∈ TB := zmem 447 (by decide +kernel) (by decide +kernel)
theorem sm_D_toldPart : Cond.static y_D_toldPart ∈ TB := zmem 448 (by decide +kernel) (by decide +kernel)
theorem co_D_toldPart : w_D_toldPart ∈ TB := zmem 449 (by decide +kernel) (by decide +kernel)
theorem ml_D_187 : Cond.methodLink n_D 187 ⟨"java/lang/Math", "abs", "(J)J"⟩ ∈ TB := zmem 450 (by decide +kernel) (by decide +kernel)
theorem sm_Math_absJ : Cond.static ⟨"java/lang/Math", "abs", "(J)J"⟩ ∈ TB := zmem 451 (by decide +kernel) (by decide +kernel)
theorem ml_D_190 : Cond.methodLink n_D 190 y_D_commonDivisor ∈ TB := zmem 453 (by decide +kernel) (by decide +kernel)
theorem sm_D_commonDivisor : Cond.static y_D_commonDivisor ∈ TB := zmem 454 (by decide +kernel) (by decide +kernel)
theorem co_D_commonDivisor : w_D_commonDivisor ∈ TB := zmem 455 (by decide +kernel) (by decide +kernel)
theorem ml_L_136 : Cond.methodLink n_L 136 y_L_rank ∈ TB := zmem 456 (by decide +kernel) (by decide +kernel)
theorem sm_L_rank : Cond.static y_L_rank ∈ TB := zmem 457 (by decide +kernel) (by decide +kernel)
theorem co_L_rank : w_L_rank ∈ TB := zmem 458 (by decide +kernel) (by decide +kernel)
theorem ml_L_47 : Cond.methodLink n_L 47 y_D_rank ∈ TB := zmem 459 (by decide +kernel) (by decide +kernel)
theorem im_D_rank : Cond.instanceMethod y_D_rank ∈ TB := zmem 460 (by decide +kernel) (by decide +kernel)
theorem se_D_rank : Cond.selects n_D y_D_rank y_D_rank ∈ TB := zmem 461 (by decide +kernel) (by decide +kernel)
theorem co_D_rank : w_D_rank ∈ TB := zmem 462 (by decide +kernel) (by decide +kernel)
theorem ml_D_142 : Cond.methodLink n_D 142 y_J_rankOf ∈ TB := zmem 463 (by decide +kernel) (by decide +kernel)
theorem im_J_rankOf : Cond.instanceMethod y_J_rankOf ∈ TB := zmem 464 (by decide +kernel) (by decide +kernel)
theorem se_J_rankOf : Cond.selects n_J y_J_rankOf y_J_rankOf ∈ TB := zmem 465 (by decide +kernel) (by decide +kernel)
theorem co_J_rankOf : w_J_rankOf ∈ TB := zmem 466 (by decide +kernel) (by decide +kernel)
theorem ml_J_77 : Cond.methodLink n_J 77 ⟨"java/lang/Math", "abs", "(I)I"⟩ ∈ TB := zmem 467 (by decide +kernel) (by decide +kernel)
theorem ml_L_139 : Cond.methodLink n_L 139 y_L_rankOdds ∈ TB := zmem 468 (by decide +kernel) (by decide +kernel)
theorem sm_L_rankOdds : Cond.static y_L_rankOdds ∈ TB := zmem 469 (by decide +kernel) (by decide +kernel)
theorem co_L_rankOdds : w_L_rankOdds ∈ TB := zmem 470 (by decide +kernel) (by decide +kernel)
theorem ml_L_50 : Cond.methodLink n_L 50 y_D_rankOdds ∈ TB := zmem 471 (by decide +kernel) (by decide +kernel)
theorem im_D_rankOdds : Cond.instanceMethod y_D_rankOdds ∈ TB := zmem 472 (by decide +kernel) (by decide +kernel)
theorem se_D_rankOdds : Cond.selects n_D y_D_rankOdds y_D_rankOdds ∈ TB := zmem 473 (by decide +kernel) (by decide +kernel)
theorem co_D_rankOdds : w_D_rankOdds ∈ TB := zmem 474 (by decide +kernel) (by decide +kernel)
theorem ml_L_142 : Cond.methodLink n_L 142 y_L_stopped ∈ TB := zmem 475 (by decide +kernel) (by decide +kernel)
theorem sm_L_stopped : Cond.static y_L_stopped ∈ TB := zmem 476 (by decide +kernel) (by decide +kernel)
theorem co_L_stopped : w_L_stopped ∈ TB := zmem 477 (by decide +kernel) (by decide +kernel)
theorem ml_L_53 : Cond.methodLink n_L 53 y_D_stopped ∈ TB := zmem 478 (by decide +kernel) (by decide +kernel)
theorem im_D_stopped : Cond.instanceMethod y_D_stopped ∈ TB := zmem 479 (by decide +kernel) (by decide +kernel)
theorem se_D_stopped : Cond.selects n_D y_D_stopped y_D_stopped ∈ TB := zmem 480 (by decide +kernel) (by decide +kernel)
theorem co_D_stopped : w_D_stopped ∈ TB := zmem 481 (by decide +kernel) (by decide +kernel)
theorem ml_D_145 : Cond.methodLink n_D 145 y_D_needBounds ∈ TB := zmem 482 (by decide +kernel) (by decide +kernel)
theorem sm_D_needBounds : Cond.static y_D_needBounds ∈ TB := zmem 483 (by decide +kernel) (by decide +kernel)
theorem co_D_needBounds : w_D_needBounds ∈ TB := zmem 484 (by decide +kernel) (by decide +kernel)
theorem ml_D_148 : Cond.methodLink n_D 148 y_J_keptDifference ∈ TB := zmem 485 (by decide +kernel) (by decide +kernel)
theorem ml_D_151 : Cond.methodLink n_D 151 ⟨"java/lang/Integer", "signum", "(I)I"⟩ ∈ TB := zmem 486 (by decide +kernel) (by decide +kernel)
theorem sm_Integer_signum : Cond.static ⟨"java/lang/Integer", "signum", "(I)I"⟩ ∈ TB := zmem 487 (by decide +kernel) (by decide +kernel)
theorem ml_L_145 : Cond.methodLink n_L 145 y_L_crossing ∈ TB := zmem 489 (by decide +kernel) (by decide +kernel)
theorem sm_L_crossing : Cond.static y_L_crossing ∈ TB := zmem 490 (by decide +kernel) (by decide +kernel)
theorem co_L_crossing : w_L_crossing ∈ TB := zmem 491 (by decide +kernel) (by decide +kernel)
theorem ml_L_57 : Cond.methodLink n_L 57 y_D_crossing ∈ TB := zmem 492 (by decide +kernel) (by decide +kernel)
theorem im_D_crossing : Cond.instanceMethod y_D_crossing ∈ TB := zmem 493 (by decide +kernel) (by decide +kernel)
theorem se_D_crossing : Cond.selects n_D y_D_crossing y_D_crossing ∈ TB := zmem 494 (by decide +kernel) (by decide +kernel)
theorem co_D_crossing : w_D_crossing ∈ TB := zmem 495 (by decide +kernel) (by decide +kernel)
theorem ml_D_156 : Cond.methodLink n_D 156 y_K_start ∈ TB := zmem 496 (by decide +kernel) (by decide +kernel)
theorem im_K_start : Cond.instanceMethod y_K_start ∈ TB := zmem 497 (by decide +kernel) (by decide +kernel)
theorem se_K_start : Cond.selects n_K y_K_start y_K_start ∈ TB := zmem 498 (by decide +kernel) (by decide +kernel)
theorem co_K_start : w_K_start ∈ TB := zmem 499 (by decide +kernel) (by decide +kernel)
theorem ml_D_159 : Cond.methodLink n_D 159 y_K_goOn ∈ TB := zmem 500 (by decide +kernel) (by decide +kernel)
theorem im_K_goOn : Cond.instanceMethod y_K_goOn ∈ TB := zmem 501 (by decide +kernel) (by decide +kernel)
theorem se_K_goOn : Cond.selects n_K y_K_goOn y_K_goOn ∈ TB := zmem 502 (by decide +kernel) (by decide +kernel)
theorem co_K_goOn : w_K_goOn ∈ TB := zmem 503 (by decide +kernel) (by decide +kernel)
theorem ck_K_26 : Cond.constantLong n_K 26 2 ∈ TB := zmem 504 (by decide +kernel) (by decide +kernel)
theorem ml_L_149 : Cond.methodLink n_L 149 y_L_least ∈ TB := zmem 505 (by decide +kernel) (by decide +kernel)
theorem sm_L_least : Cond.static y_L_least ∈ TB := zmem 506 (by decide +kernel) (by decide +kernel)
theorem co_L_least : w_L_least ∈ TB := zmem 507 (by decide +kernel) (by decide +kernel)
theorem ml_L_61 : Cond.methodLink n_L 61 y_D_least ∈ TB := zmem 508 (by decide +kernel) (by decide +kernel)
theorem im_D_least : Cond.instanceMethod y_D_least ∈ TB := zmem 509 (by decide +kernel) (by decide +kernel)
theorem se_D_least : Cond.selects n_D y_D_least y_D_least ∈ TB := zmem 510 (by decide +kernel) (by decide +kernel)
theorem co_D_least : w_D_least ∈ TB := zmem 511 (by decide +kernel) (by decide +kernel)
theorem ml_L_152 : Cond.methodLink n_L 152 y_L_mean ∈ TB := zmem 512 (by decide +kernel) (by decide +kernel)
theorem sm_L_mean : Cond.static y_L_mean ∈ TB := zmem 513 (by decide +kernel) (by decide +kernel)
theorem co_L_mean : w_L_mean ∈ TB := zmem 514 (by decide +kernel) (by decide +kernel)
theorem ml_L_65 : Cond.methodLink n_L 65 y_D_mean ∈ TB := zmem 515 (by decide +kernel) (by decide +kernel)
theorem im_D_mean : Cond.instanceMethod y_D_mean ∈ TB := zmem 516 (by decide +kernel) (by decide +kernel)
theorem se_D_mean : Cond.selects n_D y_D_mean y_D_mean ∈ TB := zmem 517 (by decide +kernel) (by decide +kernel)
theorem co_D_mean : w_D_mean ∈ TB := zmem 518 (by decide +kernel) (by decide +kernel)
theorem ml_L_155 : Cond.methodLink n_L 155 y_L_weight ∈ TB := zmem 519 (by decide +kernel) (by decide +kernel)
theorem sm_L_weight : Cond.static y_L_weight ∈ TB := zmem 520 (by decide +kernel) (by decide +kernel)
theorem co_L_weight : w_L_weight ∈ TB := zmem 521 (by decide +kernel) (by decide +kernel)
theorem ml_L_69 : Cond.methodLink n_L 69 y_D_weight ∈ TB := zmem 522 (by decide +kernel) (by decide +kernel)
theorem im_D_weight : Cond.instanceMethod y_D_weight ∈ TB := zmem 523 (by decide +kernel) (by decide +kernel)
theorem se_D_weight : Cond.selects n_D y_D_weight y_D_weight ∈ TB := zmem 524 (by decide +kernel) (by decide +kernel)
theorem co_D_weight : w_D_weight ∈ TB := zmem 525 (by decide +kernel) (by decide +kernel)
theorem ml_L_158 : Cond.methodLink n_L 158 y_L_joined ∈ TB := zmem 526 (by decide +kernel) (by decide +kernel)
theorem sm_L_joined : Cond.static y_L_joined ∈ TB := zmem 527 (by decide +kernel) (by decide +kernel)
theorem co_L_joined : w_L_joined ∈ TB := zmem 528 (by decide +kernel) (by decide +kernel)
theorem ml_L_72 : Cond.methodLink n_L 72 y_D_joined ∈ TB := zmem 529 (by decide +kernel) (by decide +kernel)
theorem im_D_joined : Cond.instanceMethod y_D_joined ∈ TB := zmem 530 (by decide +kernel) (by decide +kernel)
theorem se_D_joined : Cond.selects n_D y_D_joined y_D_joined ∈ TB := zmem 531 (by decide +kernel) (by decide +kernel)
theorem co_D_joined : w_D_joined ∈ TB := zmem 532 (by decide +kernel) (by decide +kernel)
theorem ml_L_161 : Cond.methodLink n_L 161 y_L_reader ∈ TB := zmem 533 (by decide +kernel) (by decide +kernel)
theorem sm_L_reader : Cond.static y_L_reader ∈ TB := zmem 534 (by decide +kernel) (by decide +kernel)
theorem co_L_reader : w_L_reader ∈ TB := zmem 535 (by decide +kernel) (by decide +kernel)
theorem ml_L_75 : Cond.methodLink n_L 75 y_D_reader ∈ TB := zmem 536 (by decide +kernel) (by decide +kernel)
theorem im_D_reader : Cond.instanceMethod y_D_reader ∈ TB := zmem 537 (by decide +kernel) (by decide +kernel)
theorem se_D_reader : Cond.selects n_D y_D_reader y_D_reader ∈ TB := zmem 538 (by decide +kernel) (by decide +kernel)
theorem co_D_reader : w_D_reader ∈ TB := zmem 539 (by decide +kernel) (by decide +kernel)
theorem ck_D_169 : Cond.constant n_D 169 100000 ∈ TB := zmem 540 (by decide +kernel) (by decide +kernel)
theorem ml_D_170 : Cond.methodLink n_D 170 y_C_putReading ∈ TB := zmem 541 (by decide +kernel) (by decide +kernel)
theorem im_C_putReading : Cond.instanceMethod y_C_putReading ∈ TB := zmem 542 (by decide +kernel) (by decide +kernel)
theorem se_C_putReading : Cond.selects n_C y_C_putReading y_C_putReading ∈ TB := zmem 543 (by decide +kernel) (by decide +kernel)
theorem co_C_putReading : w_C_putReading ∈ TB := zmem 544 (by decide +kernel) (by decide +kernel)
theorem ml_D_173 : Cond.methodLink n_D 173 y_C_differs ∈ TB := zmem 545 (by decide +kernel) (by decide +kernel)
theorem im_C_differs : Cond.instanceMethod y_C_differs ∈ TB := zmem 546 (by decide +kernel) (by decide +kernel)
theorem se_C_differs : Cond.selects n_C y_C_differs y_C_differs ∈ TB := zmem 547 (by decide +kernel) (by decide +kernel)
theorem co_C_differs : w_C_differs ∈ TB := zmem 548 (by decide +kernel) (by decide +kernel)
theorem ml_C_15 : Cond.methodLink n_C 15 ⟨"java/lang/Math", "abs", "(I)I"⟩ ∈ TB := zmem 549 (by decide +kernel) (by decide +kernel)
theorem ml_L_164 : Cond.methodLink n_L 164 y_L_unlike ∈ TB := zmem 550 (by decide +kernel) (by decide +kernel)
theorem sm_L_unlike : Cond.static y_L_unlike ∈ TB := zmem 551 (by decide +kernel) (by decide +kernel)
theorem co_L_unlike : w_L_unlike ∈ TB := zmem 552 (by decide +kernel) (by decide +kernel)
theorem ml_L_78 : Cond.methodLink n_L 78 y_D_unlike ∈ TB := zmem 553 (by decide +kernel) (by decide +kernel)
theorem im_D_unlike : Cond.instanceMethod y_D_unlike ∈ TB := zmem 554 (by decide +kernel) (by decide +kernel)
theorem se_D_unlike : Cond.selects n_D y_D_unlike y_D_unlike ∈ TB := zmem 555 (by decide +kernel) (by decide +kernel)
theorem co_D_unlike : w_D_unlike ∈ TB := zmem 556 (by decide +kernel) (by decide +kernel)
theorem ml_L_167 : Cond.methodLink n_L 167 y_L_price ∈ TB := zmem 557 (by decide +kernel) (by decide +kernel)
theorem sm_L_price : Cond.static y_L_price ∈ TB := zmem 558 (by decide +kernel) (by decide +kernel)
theorem co_L_price : w_L_price ∈ TB := zmem 559 (by decide +kernel) (by decide +kernel)
theorem ml_L_81 : Cond.methodLink n_L 81 y_D_price ∈ TB := zmem 560 (by decide +kernel) (by decide +kernel)
theorem im_D_price : Cond.instanceMethod y_D_price ∈ TB := zmem 561 (by decide +kernel) (by decide +kernel)
theorem se_D_price : Cond.selects n_D y_D_price y_D_price ∈ TB := zmem 562 (by decide +kernel) (by decide +kernel)
theorem co_D_price : w_D_price ∈ TB := zmem 563 (by decide +kernel) (by decide +kernel)
theorem kl_L_94 : Cond.classLink n_L 94 n_M ∈ TB := zmem 564 (by decide +kernel) (by decide +kernel)
theorem ins_M : Cond.instantiable n_M 17 ∈ TB := zmem 565 (by decide +kernel) (by decide +kernel)
theorem ml_L_96 : Cond.methodLink n_L 96 y_M_init ∈ TB := zmem 566 (by decide +kernel) (by decide +kernel)
theorem im_M_init : Cond.instanceMethod y_M_init ∈ TB := zmem 567 (by decide +kernel) (by decide +kernel)
theorem co_M_init : w_M_init ∈ TB := zmem 568 (by decide +kernel) (by decide +kernel)
theorem ml_M_1 : Cond.methodLink n_M 1 objectInit ∈ TB := zmem 569 (by decide +kernel) (by decide +kernel)
theorem fl_M_55 : Cond.fieldLink n_M 55 n_M "code" "I" ∈ TB := zmem 570 (by decide +kernel) (by decide +kernel)
theorem fl_M_51 : Cond.fieldLink n_M 51 n_M "x" "J" ∈ TB := zmem 571 (by decide +kernel) (by decide +kernel)
theorem fl_M_63 : Cond.fieldLink n_M 63 n_M "hauls" "I" ∈ TB := zmem 572 (by decide +kernel) (by decide +kernel)
theorem fl_M_7 : Cond.fieldLink n_M 7 n_M "ships" "[I" ∈ TB := zmem 573 (by decide +kernel) (by decide +kernel)
theorem fl_M_13 : Cond.fieldLink n_M 13 n_M "device" "[Z" ∈ TB := zmem 574 (by decide +kernel) (by decide +kernel)
theorem fl_M_17 : Cond.fieldLink n_M 17 n_M "counts" "[I" ∈ TB := zmem 575 (by decide +kernel) (by decide +kernel)
theorem fl_M_20 : Cond.fieldLink n_M 20 n_M "many" "[I" ∈ TB := zmem 576 (by decide +kernel) (by decide +kernel)
theorem fl_M_23 : Cond.fieldLink n_M 23 n_M "latest" "[I" ∈ TB := zmem 577 (by decide +kernel) (by decide +kernel)
theorem fl_M_70 : Cond.fieldLink n_M 70 n_M "pairs" "I" ∈ TB := zmem 578 (by decide +kernel) (by decide +kernel)
theorem fl_M_26 : Cond.fieldLink n_M 26 n_M "first" "[I" ∈ TB := zmem 579 (by decide +kernel) (by decide +kernel)
theorem fl_M_29 : Cond.fieldLink n_M 29 n_M "second" "[I" ∈ TB := zmem 580 (by decide +kernel) (by decide +kernel)
theorem fl_M_32 : Cond.fieldLink n_M 32 n_M "out" "[Z" ∈ TB := zmem 581 (by decide +kernel) (by decide +kernel)
theorem fl_M_35 : Cond.fieldLink n_M 35 n_M "read" "[I" ∈ TB := zmem 582 (by decide +kernel) (by decide +kernel)
theorem fl_M_38 : Cond.fieldLink n_M 38 n_M "prices" "[I" ∈ TB := zmem 583 (by decide +kernel) (by decide +kernel)
theorem fl_M_41 : Cond.fieldLink n_M 41 n_M "row" "[I" ∈ TB := zmem 584 (by decide +kernel) (by decide +kernel)
theorem fl_M_44 : Cond.fieldLink n_M 44 n_M "ways" "[J" ∈ TB := zmem 585 (by decide +kernel) (by decide +kernel)
theorem fl_M_48 : Cond.fieldLink n_M 48 n_M "next" "[J" ∈ TB := zmem 586 (by decide +kernel) (by decide +kernel)
theorem ml_L_101 : Cond.methodLink n_L 101 y_M_thrown ∈ TB := zmem 622 (by decide +kernel) (by decide +kernel)
theorem im_M_thrown : Cond.instanceMethod y_M_thrown ∈ TB := zmem 623 (by decide +kernel) (by decide +kernel)
theorem se_M_thrown : Cond.selects n_M y_M_thrown y_M_thrown ∈ TB := zmem 624 (by decide +kernel) (by decide +kernel)
theorem co_M_thrown : w_M_thrown ∈ TB := zmem 625 (by decide +kernel) (by decide +kernel)
theorem ml_L_100 : Cond.methodLink n_L 100 y_M_haul ∈ TB := zmem 626 (by decide +kernel) (by decide +kernel)
theorem im_M_haul : Cond.instanceMethod y_M_haul ∈ TB := zmem 627 (by decide +kernel) (by decide +kernel)
theorem se_M_haul : Cond.selects n_M y_M_haul y_M_haul ∈ TB := zmem 628 (by decide +kernel) (by decide +kernel)
theorem co_M_haul : w_M_haul ∈ TB := zmem 629 (by decide +kernel) (by decide +kernel)
theorem ml_M_59 : Cond.methodLink n_M 59 y_M_isIn ∈ TB := zmem 630 (by decide +kernel) (by decide +kernel)
theorem sm_M_isIn : Cond.static y_M_isIn ∈ TB := zmem 631 (by decide +kernel) (by decide +kernel)
theorem co_M_isIn : w_M_isIn ∈ TB := zmem 632 (by decide +kernel) (by decide +kernel)
theorem ck_M_66 : Cond.constantLong n_M 66 6364136223846793005 ∈ TB := zmem 633 (by decide +kernel) (by decide +kernel)
theorem ck_M_68 : Cond.constantLong n_M 68 1442695040888963407 ∈ TB := zmem 634 (by decide +kernel) (by decide +kernel)
theorem ml_L_108 : Cond.methodLink n_L 108 y_M_caught ∈ TB := zmem 635 (by decide +kernel) (by decide +kernel)
theorem im_M_caught : Cond.instanceMethod y_M_caught ∈ TB := zmem 636 (by decide +kernel) (by decide +kernel)
theorem se_M_caught : Cond.selects n_M y_M_caught y_M_caught ∈ TB := zmem 637 (by decide +kernel) (by decide +kernel)
theorem co_M_caught : w_M_caught ∈ TB := zmem 638 (by decide +kernel) (by decide +kernel)
theorem ml_L_112 : Cond.methodLink n_L 112 y_M_out ∈ TB := zmem 639 (by decide +kernel) (by decide +kernel)
theorem im_M_out : Cond.instanceMethod y_M_out ∈ TB := zmem 640 (by decide +kernel) (by decide +kernel)
theorem se_M_out : Cond.selects n_M y_M_out y_M_out ∈ TB := zmem 641 (by decide +kernel) (by decide +kernel)
theorem co_M_out : w_M_out ∈ TB := zmem 642 (by decide +kernel) (by decide +kernel)
theorem ml_L_115 : Cond.methodLink n_L 115 y_M_arm ∈ TB := zmem 643 (by decide +kernel) (by decide +kernel)
theorem im_M_arm : Cond.instanceMethod y_M_arm ∈ TB := zmem 644 (by decide +kernel) (by decide +kernel)
theorem se_M_arm : Cond.selects n_M y_M_arm y_M_arm ∈ TB := zmem 645 (by decide +kernel) (by decide +kernel)
theorem co_M_arm : w_M_arm ∈ TB := zmem 646 (by decide +kernel) (by decide +kernel)
theorem ml_L_119 : Cond.methodLink n_L 119 y_M_pair ∈ TB := zmem 647 (by decide +kernel) (by decide +kernel)
theorem im_M_pair : Cond.instanceMethod y_M_pair ∈ TB := zmem 648 (by decide +kernel) (by decide +kernel)
theorem se_M_pair : Cond.selects n_M y_M_pair y_M_pair ∈ TB := zmem 649 (by decide +kernel) (by decide +kernel)
theorem co_M_pair : w_M_pair ∈ TB := zmem 650 (by decide +kernel) (by decide +kernel)
theorem ml_L_123 : Cond.methodLink n_L 123 y_M_pairs ∈ TB := zmem 651 (by decide +kernel) (by decide +kernel)
theorem im_M_pairs : Cond.instanceMethod y_M_pairs ∈ TB := zmem 652 (by decide +kernel) (by decide +kernel)
theorem se_M_pairs : Cond.selects n_M y_M_pairs y_M_pairs ∈ TB := zmem 653 (by decide +kernel) (by decide +kernel)
theorem co_M_pairs : w_M_pairs ∈ TB := zmem 654 (by decide +kernel) (by decide +kernel)
theorem ml_L_126 : Cond.methodLink n_L 126 y_M_difference ∈ TB := zmem 655 (by decide +kernel) (by decide +kernel)
theorem im_M_difference : Cond.instanceMethod y_M_difference ∈ TB := zmem 656 (by decide +kernel) (by decide +kernel)
theorem se_M_difference : Cond.selects n_M y_M_difference y_M_difference ∈ TB := zmem 657 (by decide +kernel) (by decide +kernel)
theorem co_M_difference : w_M_difference ∈ TB := zmem 658 (by decide +kernel) (by decide +kernel)
theorem ml_M_73 : Cond.methodLink n_M 73 y_M_by ∈ TB := zmem 659 (by decide +kernel) (by decide +kernel)
theorem im_M_by : Cond.instanceMethod y_M_by ∈ TB := zmem 661 (by decide +kernel) (by decide +kernel)
theorem co_M_by : w_M_by ∈ TB := zmem 662 (by decide +kernel) (by decide +kernel)
theorem ml_L_129 : Cond.methodLink n_L 129 y_M_kept ∈ TB := zmem 663 (by decide +kernel) (by decide +kernel)
theorem im_M_kept : Cond.instanceMethod y_M_kept ∈ TB := zmem 664 (by decide +kernel) (by decide +kernel)
theorem se_M_kept : Cond.selects n_M y_M_kept y_M_kept ∈ TB := zmem 665 (by decide +kernel) (by decide +kernel)
theorem co_M_kept : w_M_kept ∈ TB := zmem 666 (by decide +kernel) (by decide +kernel)
theorem ml_M_80 : Cond.methodLink n_M 80 y_M_keptOf ∈ TB := zmem 667 (by decide +kernel) (by decide +kernel)
theorem im_M_keptOf : Cond.instanceMethod y_M_keptOf ∈ TB := zmem 669 (by decide +kernel) (by decide +kernel)
theorem co_M_keptOf : w_M_keptOf ∈ TB := zmem 670 (by decide +kernel) (by decide +kernel)
theorem ml_M_77 : Cond.methodLink n_M 77 y_M_isKept ∈ TB := zmem 671 (by decide +kernel) (by decide +kernel)
theorem im_M_isKept : Cond.instanceMethod y_M_isKept ∈ TB := zmem 673 (by decide +kernel) (by decide +kernel)
theorem co_M_isKept : w_M_isKept ∈ TB := zmem 674 (by decide +kernel) (by decide +kernel)
theorem ml_L_132 : Cond.methodLink n_L 132 y_M_sum ∈ TB := zmem 675 (by decide +kernel) (by decide +kernel)
theorem im_M_sum : Cond.instanceMethod y_M_sum ∈ TB := zmem 676 (by decide +kernel) (by decide +kernel)
theorem se_M_sum : Cond.selects n_M y_M_sum y_M_sum ∈ TB := zmem 677 (by decide +kernel) (by decide +kernel)
theorem co_M_sum : w_M_sum ∈ TB := zmem 678 (by decide +kernel) (by decide +kernel)
theorem ml_M_84 : Cond.methodLink n_M 84 y_M_sumOf ∈ TB := zmem 679 (by decide +kernel) (by decide +kernel)
theorem im_M_sumOf : Cond.instanceMethod y_M_sumOf ∈ TB := zmem 681 (by decide +kernel) (by decide +kernel)
theorem co_M_sumOf : w_M_sumOf ∈ TB := zmem 682 (by decide +kernel) (by decide +kernel)
theorem ml_L_135 : Cond.methodLink n_L 135 y_M_odds ∈ TB := zmem 683 (by decide +kernel) (by decide +kernel)
theorem im_M_odds : Cond.instanceMethod y_M_odds ∈ TB := zmem 684 (by decide +kernel) (by decide +kernel)
theorem se_M_odds : Cond.selects n_M y_M_odds y_M_odds ∈ TB := zmem 685 (by decide +kernel) (by decide +kernel)
theorem co_M_odds : w_M_odds ∈ TB := zmem 686 (by decide +kernel) (by decide +kernel)
theorem ml_M_87 : Cond.methodLink n_M 87 y_M_part ∈ TB := zmem 687 (by decide +kernel) (by decide +kernel)
theorem sm_M_part : Cond.static y_M_part ∈ TB := zmem 688 (by decide +kernel) (by decide +kernel)
theorem co_M_part : w_M_part ∈ TB := zmem 689 (by decide +kernel) (by decide +kernel)
theorem ml_L_138 : Cond.methodLink n_L 138 y_M_rank ∈ TB := zmem 690 (by decide +kernel) (by decide +kernel)
theorem im_M_rank : Cond.instanceMethod y_M_rank ∈ TB := zmem 691 (by decide +kernel) (by decide +kernel)
theorem se_M_rank : Cond.selects n_M y_M_rank y_M_rank ∈ TB := zmem 692 (by decide +kernel) (by decide +kernel)
theorem co_M_rank : w_M_rank ∈ TB := zmem 693 (by decide +kernel) (by decide +kernel)
theorem ml_M_98 : Cond.methodLink n_M 98 y_M_rankOf ∈ TB := zmem 694 (by decide +kernel) (by decide +kernel)
theorem im_M_rankOf : Cond.instanceMethod y_M_rankOf ∈ TB := zmem 696 (by decide +kernel) (by decide +kernel)
theorem co_M_rankOf : w_M_rankOf ∈ TB := zmem 697 (by decide +kernel) (by decide +kernel)
theorem ml_M_91 : Cond.methodLink n_M 91 y_M_isRanked ∈ TB := zmem 698 (by decide +kernel) (by decide +kernel)
theorem im_M_isRanked : Cond.instanceMethod y_M_isRanked ∈ TB := zmem 700 (by decide +kernel) (by decide +kernel)
theorem co_M_isRanked : w_M_isRanked ∈ TB := zmem 701 (by decide +kernel) (by decide +kernel)
theorem ml_M_94 : Cond.methodLink n_M 94 y_M_plain ∈ TB := zmem 702 (by decide +kernel) (by decide +kernel)
theorem sm_M_plain : Cond.static y_M_plain ∈ TB := zmem 703 (by decide +kernel) (by decide +kernel)
theorem co_M_plain : w_M_plain ∈ TB := zmem 704 (by decide +kernel) (by decide +kernel)
theorem ck_M_97 : Cond.constant n_M 97 100000 ∈ TB := zmem 705 (by decide +kernel) (by decide +kernel)
theorem ml_L_141 : Cond.methodLink n_L 141 y_M_rankOdds ∈ TB := zmem 706 (by decide +kernel) (by decide +kernel)
theorem im_M_rankOdds : Cond.instanceMethod y_M_rankOdds ∈ TB := zmem 707 (by decide +kernel) (by decide +kernel)
theorem se_M_rankOdds : Cond.selects n_M y_M_rankOdds y_M_rankOdds ∈ TB := zmem 708 (by decide +kernel) (by decide +kernel)
theorem co_M_rankOdds : w_M_rankOdds ∈ TB := zmem 709 (by decide +kernel) (by decide +kernel)
theorem ml_L_144 : Cond.methodLink n_L 144 y_M_stopped ∈ TB := zmem 710 (by decide +kernel) (by decide +kernel)
theorem im_M_stopped : Cond.instanceMethod y_M_stopped ∈ TB := zmem 711 (by decide +kernel) (by decide +kernel)
theorem se_M_stopped : Cond.selects n_M y_M_stopped y_M_stopped ∈ TB := zmem 712 (by decide +kernel) (by decide +kernel)
theorem co_M_stopped : w_M_stopped ∈ TB := zmem 713 (by decide +kernel) (by decide +kernel)
theorem ml_M_101 : Cond.methodLink n_M 101 y_M_isBound ∈ TB := zmem 714 (by decide +kernel) (by decide +kernel)
theorem sm_M_isBound : Cond.static y_M_isBound ∈ TB := zmem 715 (by decide +kernel) (by decide +kernel)
theorem co_M_isBound : w_M_isBound ∈ TB := zmem 716 (by decide +kernel) (by decide +kernel)
theorem ml_L_148 : Cond.methodLink n_L 148 y_M_crossing ∈ TB := zmem 717 (by decide +kernel) (by decide +kernel)
theorem im_M_crossing : Cond.instanceMethod y_M_crossing ∈ TB := zmem 718 (by decide +kernel) (by decide +kernel)
theorem se_M_crossing : Cond.selects n_M y_M_crossing y_M_crossing ∈ TB := zmem 719 (by decide +kernel) (by decide +kernel)
theorem co_M_crossing : w_M_crossing ∈ TB := zmem 720 (by decide +kernel) (by decide +kernel)
theorem ml_M_105 : Cond.methodLink n_M 105 y_M_cross ∈ TB := zmem 721 (by decide +kernel) (by decide +kernel)
theorem im_M_cross : Cond.instanceMethod y_M_cross ∈ TB := zmem 723 (by decide +kernel) (by decide +kernel)
theorem co_M_cross : w_M_cross ∈ TB := zmem 724 (by decide +kernel) (by decide +kernel)
theorem ml_L_151 : Cond.methodLink n_L 151 y_M_least ∈ TB := zmem 725 (by decide +kernel) (by decide +kernel)
theorem im_M_least : Cond.instanceMethod y_M_least ∈ TB := zmem 726 (by decide +kernel) (by decide +kernel)
theorem se_M_least : Cond.selects n_M y_M_least y_M_least ∈ TB := zmem 727 (by decide +kernel) (by decide +kernel)
theorem co_M_least : w_M_least ∈ TB := zmem 728 (by decide +kernel) (by decide +kernel)
theorem ml_L_154 : Cond.methodLink n_L 154 y_M_mean ∈ TB := zmem 729 (by decide +kernel) (by decide +kernel)
theorem im_M_mean : Cond.instanceMethod y_M_mean ∈ TB := zmem 730 (by decide +kernel) (by decide +kernel)
theorem se_M_mean : Cond.selects n_M y_M_mean y_M_mean ∈ TB := zmem 731 (by decide +kernel) (by decide +kernel)
theorem co_M_mean : w_M_mean ∈ TB := zmem 732 (by decide +kernel) (by decide +kernel)
theorem ml_M_109 : Cond.methodLink n_M 109 y_M_keptOfShip ∈ TB := zmem 733 (by decide +kernel) (by decide +kernel)
theorem im_M_keptOfShip : Cond.instanceMethod y_M_keptOfShip ∈ TB := zmem 735 (by decide +kernel) (by decide +kernel)
theorem co_M_keptOfShip : w_M_keptOfShip ∈ TB := zmem 736 (by decide +kernel) (by decide +kernel)
theorem ml_L_157 : Cond.methodLink n_L 157 y_M_weight ∈ TB := zmem 737 (by decide +kernel) (by decide +kernel)
theorem im_M_weight : Cond.instanceMethod y_M_weight ∈ TB := zmem 738 (by decide +kernel) (by decide +kernel)
theorem se_M_weight : Cond.selects n_M y_M_weight y_M_weight ∈ TB := zmem 739 (by decide +kernel) (by decide +kernel)
theorem co_M_weight : w_M_weight ∈ TB := zmem 740 (by decide +kernel) (by decide +kernel)
theorem ml_L_160 : Cond.methodLink n_L 160 y_M_joined ∈ TB := zmem 741 (by decide +kernel) (by decide +kernel)
theorem im_M_joined : Cond.instanceMethod y_M_joined ∈ TB := zmem 742 (by decide +kernel) (by decide +kernel)
theorem se_M_joined : Cond.selects n_M y_M_joined y_M_joined ∈ TB := zmem 743 (by decide +kernel) (by decide +kernel)
theorem co_M_joined : w_M_joined ∈ TB := zmem 744 (by decide +kernel) (by decide +kernel)
theorem ml_L_163 : Cond.methodLink n_L 163 y_M_reader ∈ TB := zmem 745 (by decide +kernel) (by decide +kernel)
theorem im_M_reader : Cond.instanceMethod y_M_reader ∈ TB := zmem 746 (by decide +kernel) (by decide +kernel)
theorem se_M_reader : Cond.selects n_M y_M_reader y_M_reader ∈ TB := zmem 747 (by decide +kernel) (by decide +kernel)
theorem co_M_reader : w_M_reader ∈ TB := zmem 748 (by decide +kernel) (by decide +kernel)
theorem ml_M_112 : Cond.methodLink n_M 112 y_M_areUnlike ∈ TB := zmem 749 (by decide +kernel) (by decide +kernel)
theorem im_M_areUnlike : Cond.instanceMethod y_M_areUnlike ∈ TB := zmem 751 (by decide +kernel) (by decide +kernel)
theorem co_M_areUnlike : w_M_areUnlike ∈ TB := zmem 752 (by decide +kernel) (by decide +kernel)
theorem ml_L_166 : Cond.methodLink n_L 166 y_M_unlike ∈ TB := zmem 753 (by decide +kernel) (by decide +kernel)
theorem im_M_unlike : Cond.instanceMethod y_M_unlike ∈ TB := zmem 754 (by decide +kernel) (by decide +kernel)
theorem se_M_unlike : Cond.selects n_M y_M_unlike y_M_unlike ∈ TB := zmem 755 (by decide +kernel) (by decide +kernel)
theorem co_M_unlike : w_M_unlike ∈ TB := zmem 756 (by decide +kernel) (by decide +kernel)
theorem ml_L_170 : Cond.methodLink n_L 170 y_M_price ∈ TB := zmem 757 (by decide +kernel) (by decide +kernel)
theorem im_M_price : Cond.instanceMethod y_M_price ∈ TB := zmem 758 (by decide +kernel) (by decide +kernel)
theorem se_M_price : Cond.selects n_M y_M_price y_M_price ∈ TB := zmem 759 (by decide +kernel) (by decide +kernel)
theorem co_M_price : w_M_price ∈ TB := zmem 760 (by decide +kernel) (by decide +kernel)
theorem ml_L_175 : Cond.methodLink n_L 175 y_M_lost ∈ TB := zmem 761 (by decide +kernel) (by decide +kernel)
theorem im_M_lost : Cond.instanceMethod y_M_lost ∈ TB := zmem 762 (by decide +kernel) (by decide +kernel)
theorem se_M_lost : Cond.selects n_M y_M_lost y_M_lost ∈ TB := zmem 763 (by decide +kernel) (by decide +kernel)
theorem co_M_lost : w_M_lost ∈ TB := zmem 764 (by decide +kernel) (by decide +kernel)
theorem se_J_isOf : Cond.selects n_J y_J_isOf y_J_isOf ∈ TB := zmem 0 (by decide +kernel) (by decide +kernel)
theorem se_J_deviceCount : Cond.selects n_J y_J_deviceCount y_J_deviceCount ∈ TB := zmem 1 (by decide +kernel) (by decide +kernel)
theorem se_J_plainCount : Cond.selects n_J y_J_plainCount y_J_plainCount ∈ TB := zmem 2 (by decide +kernel) (by decide +kernel)
theorem se_J_drawArm : Cond.selects n_J y_J_drawArm y_J_drawArm ∈ TB := zmem 4 (by decide +kernel) (by decide +kernel)
theorem se_J_addPair : Cond.selects n_J y_J_addPair y_J_addPair ∈ TB := zmem 5 (by decide +kernel) (by decide +kernel)
theorem se_D_needHaul : Cond.selects n_D y_D_needHaul y_D_needHaul ∈ TB := zmem 6 (by decide +kernel) (by decide +kernel)
theorem se_D_needPair : Cond.selects n_D y_D_needPair y_D_needPair ∈ TB := zmem 7 (by decide +kernel) (by decide +kernel)
theorem se_H_fillSums : Cond.selects n_H y_H_fillSums y_H_fillSums ∈ TB := zmem 8 (by decide +kernel) (by decide +kernel)
theorem se_H_addWeight : Cond.selects n_H y_H_addWeight y_H_addWeight ∈ TB := zmem 9 (by decide +kernel) (by decide +kernel)
theorem se_M_by : Cond.selects n_M y_M_by y_M_by ∈ TB := zmem 10 (by decide +kernel) (by decide +kernel)
theorem se_M_keptOf : Cond.selects n_M y_M_keptOf y_M_keptOf ∈ TB := zmem 11 (by decide +kernel) (by decide +kernel)
theorem se_M_isKept : Cond.selects n_M y_M_isKept y_M_isKept ∈ TB := zmem 12 (by decide +kernel) (by decide +kernel)
theorem se_M_sumOf : Cond.selects n_M y_M_sumOf y_M_sumOf ∈ TB := zmem 13 (by decide +kernel) (by decide +kernel)
theorem se_M_rankOf : Cond.selects n_M y_M_rankOf y_M_rankOf ∈ TB := zmem 14 (by decide +kernel) (by decide +kernel)
theorem se_M_isRanked : Cond.selects n_M y_M_isRanked y_M_isRanked ∈ TB := zmem 15 (by decide +kernel) (by decide +kernel)
theorem se_M_cross : Cond.selects n_M y_M_cross y_M_cross ∈ TB := zmem 16 (by decide +kernel) (by decide +kernel)
theorem se_M_keptOfShip : Cond.selects n_M y_M_keptOfShip y_M_keptOfShip ∈ TB := zmem 17 (by decide +kernel) (by decide +kernel)
theorem se_M_areUnlike : Cond.selects n_M y_M_areUnlike y_M_areUnlike ∈ TB := zmem 18 (by decide +kernel) (by decide +kernel)
theorem co_Object_init : Cond.code objectInit ⟨#[0xb1]⟩ 1 none ∈ TB := zmem 42 (by decide +kernel) (by decide +kernel)
end
section
/-! Methods that throw: an exception of the class E is made (one cell, six slots); nothing else changes. -/
abbrev zRx (fr lo : Nat) : Room := { frames := fr, cells := 1, slots := 6, locals := lo }
/-- the four words of a throw that speak of the heap -/
def z4 : List Cond := [.isRef (.static Bundle.tN "UNASSIGNED_STACK" Bundle.steD), .isRef (.static Bundle.tN "SUPPRESSED_SENTINEL" Bundle.listD), .laysStatic Bundle.tN "UNASSIGNED_STACK" Bundle.steD, .laysStatic Bundle.tN "SUPPRESSED_SENTINEL" Bundle.listD]
/-- they hold wherever the heap is H -/
def zT (s : State) (H : Heap) : Prop := ∀ U : State, s.WarmedH U.vm → U.heap = H → ∀ w ∈ z4, ∀ a : Array Value, w.before a U = true
theorem zT.next {s U : State} {H : Heap} (h : zT s H) (hW : s.WarmedH U.vm) : zT U H := fun V hV hH => h V (State.WarmedH.trans hW hV) hH
/-- the texts of the exceptions are there -/
def zS (U : State) : Prop := ∀ q ∈ ([(179, "there is no such one"), (52, "there are 32 hauls"), (184, "a number is not as said")] : List (Nat × String)), ∃ a : Nat, vk_R n_D q.1 q.2 a U
theorem zS.warm {s U : State} (hW : s.WarmedH U.vm) (h : zS s) : zS U := fun q hq => (h q hq).elim fun a ha => ⟨a, vk_R.warm hW ha⟩
def zX (E : String) (st : State) (o : Outcome) (t : State) : Prop :=
  ∃ (q : Addr) (ce : Cell), o = .threw q ∧ t.heap[q]? = some ce ∧ ce.vm = .none ∧ st.vm.findClass E = some ce.cls ∧ st.heap.size ≤ t.heap.size ∧ (∀ z : Nat, z < st.heap.size → t.heap[z]? = st.heap[z]?) ∧ st.WarmedH t.vm ∧ st.sameButNew ({ t with vm := st.vm } : State) [] 1 6
def zPt (D : va_G) (tys : List (ClassId × FieldType)) (av : List Value) (ws : va_W) : Array Value → State → Prop :=
  va_Pc av (fun U => zE TB U ∧ va_P D classes ws U.heap ∧ va_K D classes tys U ∧ zT U U.heap ∧ zS U)
theorem zPt_blind {D : va_G} {tys : List (ClassId × FieldType)} {av : List Value} {ws : va_W} : FrameBlind (zPt D tys av ws) := fun a U g mk q => by
  obtain ⟨q0, qE, qP, qK, qT, qS⟩ := q
  exact ⟨q0, qE.warm (U := U.calling g mk a) zTB (State.WarmedH.refl U), qP, va_K.moved (u := U) (U := U.calling g mk a) (Vm.Alike.refl U.vm) qK, qT.next (U := U.calling g mk a) (State.WarmedH.refl U), qS.warm (U := U.calling g mk a) (State.WarmedH.refl U)⟩
def zMt (l : Launch) (D : va_G) (tys : List (ClassId × FieldType)) (y : MethodName) (cw : Cond) (fr lo : Nat) (av : List Value) (ws : va_W) (E : String) : Prop :=
  MetFree l y (headSpec [cw] (zRx fr lo)) (zPt D tys av ws) (fun _ _ _ _ _ => True) (fun _ st o t => zX E st o t)
def zMQ (below : List Frame) (E : String) (s : State) : State → Prop := fun t => ∃ o, t.status = .running ∧ Ended t below o ∧ zX E s o t
abbrev zBodyX (l : Launch) (D : va_G) (tys : List (ClassId × FieldType)) (y : MethodName) (b : ByteArray) (nL : Nat) (ret : Option FieldType) (fr lo : Nat) (av : List Value) (ws : va_W) (E : String) : Prop :=
  ∀ (p : Program) (e : Env) (s : State) (m : MethodId) (below : List Frame) (meth : Method) (c : Code) (ls : Array Slot), zC p s m meth c b nL ret y.cls av.toArray TB → c.exceptionTable.toList = [] → va_P D classes ws s.heap → va_K D classes tys s → zT s s.heap → zS s → lv_has ls nL (lv_args 0 av) →
    W p l e (zRx fr lo) s m av.toArray below meth c s.heap [] 0 0 (zMQ below E s) (F0 m 0 ls [])
theorem z_ofX {l : Launch} {D : va_G} {tys : List (ClassId × FieldType)} {y : MethodName} {b : ByteArray} {nL fr lo : Nat} {ret : Option FieldType} {av : List Value} {ws : va_W} {E : String} (hy : plainName y.cls = true) (hn : (lg_sl av).length ≤ nL)
    (body : zBodyX l D tys y b nL ret fr lo av ws E) : zMt l D tys y (.code y b nL ret) fr lo av ws E := by
  refine MetFree.of_bodyS (code := b) (maxLocals := nL) (ret := ret) hy ?_ ?_
  · intro args s m h hn
    obtain ⟨meth, c, h1, h2, h3, h4, h5, h6, -, -⟩ := Cond.code_spec hn (atoms_spec (ws := [Cond.code y b nL ret]) h _ List.mem_cons_self)
    exact ⟨meth, c, h1, h2, h3, h4, h5, h6⟩
  · intro p e s m args below meth c s₁ B hml hP _
    obtain ⟨rfl, hE, hPw, hK, hT, hS⟩ := hP
    have hh0 : s₁.heap = s.heap := by rw [B.state]; rfl
    have hl := lv_entry av (n := nL) hn
    have htab : c.exceptionTable.toList = [] := by
      have hw : (Cond.code y b nL ret).before av.toArray s = true := atoms_spec (ws := [Cond.code y b nL ret]) B.pre _ List.mem_cons_self
      obtain ⟨meth9, c9, h1, h2, -, -, -, -, h7, -⟩ := Cond.code_spec B.named hw
      cases Option.some.inj (h1.symm.trans B.method)
      cases Option.some.inj (h2.symm.trans (Stand.of_body B).code)
      simpa [Array.isEmpty_iff] using h7
    have K : W p l e (zRx fr lo) s m av.toArray below meth c s₁.heap [] 0 0 (zMQ below E s) (entryFrame m av.toArray nL) := by
      rw [hh0, lg_entry_eq]
      generalize (lg_sl av ++ List.replicate (nL - (lg_sl av).length) Slot.unset).toArray = ls at hl ⊢
      exact body p e s m below meth c ls ⟨B.exec, B.bytes, B.returns, hml, findClass_of_methodNamed B.named, fun w hw => hE w hw _, hE, B.notSynchronized⟩ htab hPw hK hT hS hl
    obtain ⟨t, a1, o, b1, b2, b3⟩ := K s₁ rfl (Stand.of_body B)
    exact ⟨t, o, a1, b1, b2, b3⟩
section ZXR
variable {p : Program} {l : Launch} {e : Env} {R : Room} {s : State} {m : MethodId} {args : Array Value} {below : List Frame} {meth : Method} {c : Code} {H : Heap} {locs : List Loc} {cells slots : Nat} {Q : State → Prop}
variable {cc : ByteArray} {pc : Nat} {ls : Array Slot} {rest st0 : List Value} {D : va_G} {A : Nat → Prop} {tys : List (ClassId × FieldType)} {ws : va_W} {nL : Nat} {ret : Option FieldType} {own : String}
/-- what a state that grew keeps -/
theorem z_grown {U : State} {k n : Nat} (h : s.sameButNew ({ U with vm := s.vm } : State) [] k n) : s.heap.size ≤ U.heap.size ∧ ∀ q : Nat, q < s.heap.size → U.heap[q]? = s.heap[q]? := by
  obtain ⟨-, h2, -, -, -, h6⟩ := h
  refine ⟨h2, fun q hq => ?_⟩
  obtain ⟨c9, e1, e2, -, e4⟩ := h6 q _ (Array.getElem?_eq_getElem hq)
  have hs : c9.slots = (s.heap[q]).slots := Array.ext_getElem? fun i => e4 i (fun hm => nomatch hm)
  have h9 : c9 = s.heap[q] := by
    rw [hs] at e2
    exact e2
  have e5 : U.heap[q]? = some c9 := e1
  rw [e5, h9, Array.getElem?_eq_getElem hq]
/-- new E; dup; ldc text; invokespecial E(String); athrow -/
theorem z_throwS (hl : l.stackTraces = false) (Z : zC p s m meth c cc nL ret own args TB) (htab : c.exceptionTable.toList = []) (hT : zT s s.heap) {cls text : String} {names : List String} {ik is ic sa : Nat}
    (hcls : Bundle.fit cls = true) (hnames : ∀ n ∈ names, Bundle.fit n = true) (hk : Cond.classLink own ik cls ∈ TB) (hini : Cond.initialized cls ∈ TB) (hat : ∀ w ∈ Bundle.ownAtoms own ic cls names, w ∈ TB ∨ w ∈ z4) (hstr : vk_R own is text sa s) (hsize : ls.size = nL)
    (d0 : decode cc pc = .ok (.new ik, 3)) (d3 : decode cc (pc + 3) = .ok (.dup, 1)) (d4 : decode cc (pc + 4) = .ok (.ldc is, 2)) (d6 : decode cc (pc + 6) = .ok (.invokespecial ic, 3)) (d9 : decode cc (pc + 9) = .ok (.athrow, 1))
    (hRf : names.length + 3 < R.frames) (hRl : (rest.map fun v => v.category).sum + (13 * (names.length + 1) + 43) ≤ R.locals) (hRc : 0 + 1 ≤ R.cells) (hRs : 0 + 6 ≤ R.slots) :
    W p l e R s m args below meth c s.heap [] 0 0 (zMQ below cls s) (F0 m pc ls rest) := by
  intro T hTh X
  obtain ⟨hexec, hb, -, hml, hown, hts, -, hlocks⟩ := Z
  have htr : e.platform.stackTraces = false := (show e.platform.stackTraces = l.stackTraces by rw [X.admits.platform]).trans hl
  have h : ∀ w ∈ Bundle.ownAtoms own ic cls names, w.before args s = true := fun w hw => (hat w hw).elim (fun q => hts w q) (fun q => hT s (State.WarmedH.refl s) rfl w q args)
  have hins : (Cond.instantiable cls 6).before args s = true := h _ (by simp [Bundle.ownAtoms])
  obtain ⟨vm₁, cX, kX, hfX, hkX, -, -, X₁, st1⟩ := X.newCold hexec (own := own) (C := cls) (index := ik) (n := 6) hown (hts _ hk) hins (hts _ hini)
    (g := F0 m pc ls rest) rfl (by rw [hb]; exact d0) hRc hRs
  generalize hT1 : (T.setVm vm₁).pushCell { cls := cX, slots := kX.instanceTypes.map defaultValue, vm := .none } = T1 at X₁ st1
  have hcat : (Value.ref T.heap.size).category = 1 := rfl
  have hcellA : T1.heap[T.heap.size]? = some (freshCell cX kX) := by rw [← hT1]; exact State.heap_pushCell_size _ _
  have d3' : decode c.code (pc + 3) = .ok (.dup, 1) := by rw [hb]; exact d3
  have d4' : decode c.code (pc + 4) = .ok (.ldc is, 2) := by rw [hb]; exact d4
  obtain ⟨U, hsteps, hrun, hend, hW, hsame, ce, hce, hO⟩ := X₁.ctorThrowS hexec htr (own := own) (cls := cls) (names := names) (ic := ic) hown hcls hnames h (fun x hx => nomatch hx) hfX hkX hcellA (by rw [hTh]; exact Nat.le_refl _) (msg := .ref sa) rfl
    (g := { method := m, pc := pc + 6, locals := ls, stack := .ref sa :: .ref T.heap.size :: .ref T.heap.size :: rest, locked := none }) rfl (hsize.trans hml.symm) rfl rfl (rest := rest) rfl
    (by rw [hb]; exact d6) (by rw [hb]; exact d9) (by rw [htab]; exact fun x hx => nomatch hx) hRf (by simp only [List.map_cons, List.sum_cons, hcat]; omega) hlocks
  obtain ⟨f1, f2⟩ := z_grown hsame
  refine ⟨U, ?_, .threw T.heap.size, hrun, hend, T.heap.size, ce, rfl, hce, hO.vm, hO.cls, f1, f2, hW, hsame⟩
  refine st1 _ ?_
  show Steps p.tables e below (T1.setTop { method := m, pc := pc + 3, locals := ls, stack := .ref T.heap.size :: rest, locked := none }) _
  jvm_step X₁.here [X₁.here.top, hexec, d3', Value.category]
  exact X₁.ldcString hexec (own := own) (text := text) (index := is) (a := sa) hown hstr.1 hstr.2
    (g := { method := m, pc := pc + 4, locals := ls, stack := .ref T.heap.size :: .ref T.heap.size :: rest, locked := none }) rfl d4' _ hsteps
end ZXR
end
section
section ZXC
variable {p : Program} {l : Launch} {e : Env} {R : Room} {s : State} {m : MethodId} {args : Array Value} {below : List Frame} {meth : Method} {c : Code} {H : Heap} {locs : List Loc} {cells slots : Nat} {Q : State → Prop} {T : State}
variable {cc : ByteArray} {pc : Nat} {ls : Array Slot} {rest st0 : List Value} {D : va_G} {A : Nat → Prop} {tys : List (ClassId × FieldType)} {ws : va_W} {nL : Nat} {ret : Option FieldType} {own : String}
variable {y : MethodName} {b : ByteArray} {nY fr lo idx : Nat} {rY : Option FieldType} {As : List Value} {E : String}
/-- a call of a method that throws: its exception stands over the caller's frame -/
theorem z_xback (X : Stand p l e R s m args below meth c T locs cells slots) (hM : zMt l D tys y (.code y b nY rY) fr lo As ws E) (hpre : zPt D tys As ws As.toArray T)
    (hcode : ∀ (a : Array Value) (U : State), s.WarmedH U.vm → (Cond.code y b nY rY).before a U = true) (hini : ∀ (a : Array Value) (U : State), s.WarmedH U.vm → (Cond.initialized y.cls).before a U = true)
    (hR : fr + 1 ≤ R.frames ∧ 8 + (nY + 11) + lo ≤ R.locals) (hc : cells + 1 ≤ R.cells) (hs : slots + 6 ≤ R.slots) {g : JFrame} (hg : g.method = m) (hsize : g.locals.size = c.maxLocals) {ig : Instr} {len : Nat} (hdg : decode c.code g.pc = .ok (ig, len))
    (hW : 2 * g.monitorRoom + (g.stack.map fun v => v.category).sum ≤ 8) {mk : MethodId} (hn : T.methodNamed? y = some mk) :
    ∃ (q : Addr) (ce : Cell) (T' : State), Stand p l e R s m args below meth c T' locs (cells + 1) (slots + 6) ∧ T'.heap[q]? = some ce ∧ ce.vm = .none ∧ T.vm.findClass E = some ce.cls ∧ T.heap.size ≤ T'.heap.size ∧ (∀ z : Nat, z < T.heap.size → T'.heap[z]? = T.heap[z]?) ∧
      Steps p.tables e below (doInvoke e (T.setTop g) [] mk As.toArray).1 ((T'.setTop g).pushFrame (.throwing q)) := by
  have h2 : (Cond.code y b nY rY).before As.toArray T = true := hcode _ _ X.warmed
  have h1 : (headSpec [Cond.code y b nY rY] (zRx fr lo)).pre.before As.toArray T = true := atoms_intro fun w hw => by rw [List.mem_singleton.mp hw]; exact h2
  have h3 : (Cond.initialized y.cls).before As.toArray T = true := hini _ _ X.warmed
  obtain ⟨methY, cY, hmY, hcY, -, hlY, -, -, -, -⟩ := Cond.code_spec hn h2
  obtain ⟨kY, hkY, -⟩ := className_of_methodNamed hn
  have hinitY : kY.init = .initialized := Cond.initialized_spec (findClass_of_methodNamed hn) hkY h3
  have h : At T g.method c below := by rw [hg]; exact X.here
  have hloc : 8 + (nY + 11) + (headSpec [Cond.code y b nY rY] (zRx fr lo)).room.locals ≤ R.locals := hR.2
  have happ : (headSpec [Cond.code y b nY rY] (zRx fr lo)).appliesLoose y e.platform (T.calling g mk As.toArray) = true :=
    Spec.appliesLoose_calling (g := g) h hdg hn hkY hinitY
      (X.room_calling (g := g) (R' := (headSpec [Cond.code y b nY rY] (zRx fr lo)).room) hsize hmY hcY hR.1 (by rw [hlY]; omega) hc hs) h1
  obtain ⟨mid, hmid⟩ := h.above
  have hfr : (T.setTop g).frames = (.java g :: mid) ++ below := by rw [State.frames_setTop' g h.top, hmid]; rfl
  obtain ⟨o, s₂, hsteps, -, hend, hq⟩ := Steps.callFree hM p X.admits X.cas X.clock (acts := []) hfr happ (zPt_blind _ T g mk hpre) trivial
  rw [State.frames_setTop' g h.top] at hend
  have hq' : zX E (T.calling g mk As.toArray) o s₂ := hq
  obtain ⟨q, ce, rfl, hce, hcv, hcl, hz, hkeep, hW₂, hsm⟩ := hq'
  obtain ⟨e2, q2, q3, q4, q5, q6⟩ := id hsm
  have e3 : s₂ = ({ (T.calling g mk As.toArray).setFrames s₂.frames with heap := s₂.heap, slotsUsed := s₂.slotsUsed } : State).setVm s₂.vm := by
    have e9 : s₂ = ({ s₂ with vm := (T.calling g mk As.toArray).vm } : State).setVm s₂.vm := rfl
    rw [e2] at e9
    exact e9
  obtain ⟨g₀, hg0⟩ := Option.isSome_iff_exists.mp h.top
  obtain ⟨r, hr⟩ := State.topJava?_eq_some.mp hg0
  have hr' : (({ T with heap := s₂.heap, slotsUsed := s₂.slotsUsed } : State).setVm s₂.vm).frames = .java g₀ :: r := hr
  have hf₂ : s₂.frames = .throwing q :: .java g :: T.frames.tail := hend
  have hW' : T.WarmedH s₂.vm := hW₂
  have hs₂ : s₂ = ((({ T with heap := s₂.heap, slotsUsed := s₂.slotsUsed } : State).setVm s₂.vm).setTop g).pushFrame (.throwing q) := by
    refine e3.trans ?_
    rw [hf₂, State.calling_eq h.top, State.setFrames_setFrames, State.pushFrame, State.frames_setTop _ hr', State.setTop_of_frames _ hr', State.setFrames_setFrames, hr]
    rfl
  have hsame : T.sameButNew ({ T with heap := s₂.heap, slotsUsed := s₂.slotsUsed } : State) [] 1 6 := by
    refine ⟨?_, q2, q3, q4, q5, q6⟩
    obtain ⟨t, ht, -⟩ := State.frames_cons hr
    show ({ T with heap := s₂.heap, slotsUsed := s₂.slotsUsed } : State) = { T.setFrames T.frames with heap := s₂.heap, slotsUsed := s₂.slotsUsed }
    rw [State.setFrames_self ht]
  subst hg
  have hall := X.same.trans (hsame.setVm s.vm)
  rw [List.append_nil] at hall
  refine ⟨q, ce, (({ T with heap := s₂.heap, slotsUsed := s₂.slotsUsed } : State).setVm s₂.vm),
    ⟨X.admits, X.cas, X.clock, X.frames, X.room, X.hears, X.method, X.code, (X.here.setHeapUsed s₂.heap s₂.slotsUsed).setVm hW'.alike, X.tail, State.WarmedH.trans X.warmed hW', X.limits, X.bytes, hall⟩,
    hce, hcv, hcl, hz, hkeep, ?_⟩
  rw [← hs₂]
  exact hsteps
/-- the frame g with q thrown over it -/
def zWx (p : Program) (l : Launch) (e : Env) (R : Room) (s : State) (m : MethodId) (args : Array Value) (below : List Frame) (meth : Method) (c : Code) (H : Heap) (locs : List Loc) (cells slots : Nat) (Q : State → Prop) (g : JFrame) (q : Addr) : Prop :=
  ∀ T : State, T.heap = H → Stand p l e R s m args below meth c T locs cells slots → ∃ t, Steps p.tables e below ((T.setTop g).pushFrame (.throwing q)) t ∧ Q t
theorem zpreT (Z : zC p s m meth c cc nL ret own args TB) (hP : va_P D classes ws H) (hK : va_K D classes tys s) (hT : zT s H) (hS : zS s) : ∀ U : State, U.heap = H → s.WarmedH U.vm → zPt D tys As ws As.toArray U :=
  fun U hU hW => ⟨rfl, zE.warm zTB hW Z.2.2.2.2.2.2.1, by rw [hU]; exact hP, va_K.moved hW.alike hK, by rw [hU]; exact hT.next hW, hS.warm hW⟩
theorem z_xS (Z : zC p s m meth c cc nL ret own args TB) (hM : zMt l D tys y (.code y b nY rY) fr lo As ws E) (hw : zwS TB own idx y b nY rY) (hd : zdY y As.length) (hR : fr + 1 ≤ R.frames ∧ 8 + (nY + 11) + lo ≤ R.locals) (hP : va_P D classes ws H) (hK : va_K D classes tys s) (hT : zT s H) (hS : zS s)
    (hsize : ls.size = nL) (hstack : st0 = As.reverse ++ rest) (hroom : (rest.map fun v => v.category).sum ≤ 8) (hdg : decode cc pc = .ok (.invokestatic idx, 3)) (hf : cells + 1 ≤ R.cells ∧ slots + 6 ≤ R.slots)
    (kx : ∀ (q : Addr) (ce : Cell) (H1 : Heap), H.size ≤ H1.size → (∀ z : Nat, z < H.size → H1[z]? = H[z]?) → H1[q]? = some ce → ce.vm = .none → s.vm.findClass E = some ce.cls → zWx p l e R s m args below meth c H1 locs (cells + 1) (slots + 6) Q (F0 m pc ls rest) q) :
    W p l e R s m args below meth c H locs cells slots Q (F0 m pc ls st0) := by
  intro T hTh X
  obtain ⟨hexec, hb, -, hml, hown, hts, hE, -⟩ := id Z
  have hcode : ∀ (a : Array Value) (U : State), s.WarmedH U.vm → (Cond.code y b nY rY).before a U = true := fun a U hW => zE.warm zTB hW hE _ hw.2.2.2 a
  have hini : ∀ (a : Array Value) (U : State), s.WarmedH U.vm → (Cond.initialized y.cls).before a U = true := fun a U hW => zE.warm zTB hW hE _ hw.2.2.1 a
  have hcode0 : (Cond.code y b nY rY).before args s = true := hts _ hw.2.2.2
  obtain ⟨mk, hnamed⟩ := Cond.code_named hcode0
  obtain ⟨methM, cM, hmethM, -, -, -, -, -, -, hsigM⟩ := Cond.code_spec hnamed hcode0
  have hstatic : methM.isStatic = true := Cond.static_spec hnamed hmethM (hts _ hw.2.1)
  obtain ⟨kP, hkP, -⟩ := className_of_methodNamed hnamed
  have hinitP : kP.init = .initialized := Cond.initialized_spec (findClass_of_methodNamed hnamed) hkP (hts _ hw.2.2.1)
  have hlen : ∀ sig, parseMethodDescriptor y.desc = some sig → As.length = sig.parameters.length := fun sig h => by
    have h2 := hd.2.2
    rw [h] at h2
    exact (Option.some.inj h2).symm
  obtain ⟨vm₁, X₁, hstep₁⟩ := X.invokestatic hexec hown (hts _ hw.1) hnamed hmethM hstatic hkP hinitP ⟨hd.1, hd.2.1⟩ (g := F0 m pc ls st0) rfl (argsL := As) (rest := rest) (hlen _ hsigM) hstack (by rw [hb]; exact hdg)
  obtain ⟨q, ce, T', X', hce, hcv, hcl, hz, hk, hsteps⟩ := z_xback X₁ hM (zpreT Z hP hK hT hS (T.setVm vm₁) hTh X₁.warmed) hcode hini hR hf.1 hf.2 (g := { (F0 m pc ls st0) with stack := rest }) rfl (hsize.trans hml.symm) (by rw [hb]; exact hdg) (lv_room (m := m) (pc := pc) (ls := ls) (rest := rest) hroom) (X₁.named hnamed)
  have hcl' : s.vm.findClass E = some ce.cls := by
    rw [X₁.warmed.alike.findClass] at hcl
    exact hcl
  obtain ⟨t2, a1, b1⟩ := kx q ce T'.heap (by rw [← hTh]; exact hz) (fun z h => by rw [hk z (by rw [show (T.setVm vm₁).heap = T.heap from rfl, hTh]; exact h), show (T.setVm vm₁).heap = T.heap from rfl, hTh]) hce hcv hcl' T' rfl X'
  exact ⟨t2, (hstep₁ _ fun acts => by rw [doInvoke_state]; exact hsteps).trans a1, b1⟩
theorem z_xV {b0 q0 ci : Nat} {qc : vw_C} {fs : List Value} (Z : zC p s m meth c cc nL ret own args TB) (hM : zMt l D tys y (.code y b nY rY) fr lo (.ref b0 :: As) ws E) (hw : zwV TB own idx y b nY rY) (hd : zdY y As.length) (hR : fr + 1 ≤ R.frames ∧ 8 + (nY + 11) + lo ≤ R.locals) (hP : va_P D classes ws H) (hK : va_K D classes tys s) (hT : zT s H) (hS : zS s)
    (hcl0 : classes[ci]? = some qc) (hcq : qc.1 = y.cls) (he : ws[q0]? = some (b0, .inr (ci, fs)))
    (hsize : ls.size = nL) (hstack : st0 = As.reverse ++ .ref b0 :: rest) (hroom : (rest.map fun v => v.category).sum ≤ 8) (hdg : decode cc pc = .ok (.invokevirtual idx, 3)) (hf : cells + 1 ≤ R.cells ∧ slots + 6 ≤ R.slots)
    (kx : ∀ (q : Addr) (ce : Cell) (H1 : Heap), H.size ≤ H1.size → (∀ z : Nat, z < H.size → H1[z]? = H[z]?) → H1[q]? = some ce → ce.vm = .none → s.vm.findClass E = some ce.cls → zWx p l e R s m args below meth c H1 locs (cells + 1) (slots + 6) Q (F0 m pc ls rest) q) :
    W p l e R s m args below meth c H locs cells slots Q (F0 m pc ls st0) := by
  intro T hTh X
  obtain ⟨hexec, hb, -, hml, hown, hts, hE, -⟩ := id Z
  have hcode : ∀ (a : Array Value) (U : State), s.WarmedH U.vm → (Cond.code y b nY rY).before a U = true := fun a U hW => zE.warm zTB hW hE _ hw.2.2.2.2 a
  have hini : ∀ (a : Array Value) (U : State), s.WarmedH U.vm → (Cond.initialized y.cls).before a U = true := fun a U hW => zE.warm zTB hW hE _ hw.2.2.2.1 a
  have hcode0 : (Cond.code y b nY rY).before args s = true := hts _ hw.2.2.2.2
  obtain ⟨cellB, hcB, hoB, hclB⟩ := va_recv hK hP hcl0 he
  rw [hcq] at hclB
  obtain ⟨mk, methM, hnamed, hmethM, hstM, habM⟩ := Cond.instanceMethod_spec (hts _ hw.2.1)
  obtain ⟨methM', cM, hmethM', -, -, -, -, -, -, hsigM⟩ := Cond.code_spec hnamed hcode0
  cases hmethM.symm.trans hmethM'
  obtain ⟨c2, r2, m2, q1, q2, q3, q4, kP, hkP, hkPi⟩ := Cond.selects_spec (hts _ hw.2.2.1)
  cases hclB.symm.trans q1
  cases (State.methodFound?_of_named hnamed ⟨hd.1, hd.2.1⟩).symm.trans q2
  cases hnamed.symm.trans q3
  have hselP : selectMethod e.platform s.vm cellB.cls mk = .method mk := by rw [Launch.admits_selectMethod X.admits]; exact q4
  have hlen : ∀ sig, parseMethodDescriptor y.desc = some sig → As.length = sig.parameters.length := fun sig h => by
    have h2 := hd.2.2
    rw [h] at h2
    exact (Option.some.inj h2).symm
  obtain ⟨vm₁, X₁, hstep₁⟩ := X.invokevirtual hexec hown (hts _ hw.1) hnamed hmethM hstM hkP hkPi ⟨hd.1, hd.2.1⟩ (a := b0) (cell := cellB) (by rw [hTh]; exact hcB)
    (fun z h => by rw [h] at hoB; cases hoB) hselP hmethM habM hkP hkPi (g := F0 m pc ls st0) rfl (argsL := As) (rest := rest) (hlen _ hsigM) hstack (by rw [hb]; exact hdg)
  obtain ⟨q, ce, T', X', hce, hcv, hcl, hz, hk, hsteps⟩ := z_xback X₁ hM (zpreT Z hP hK hT hS (T.setVm vm₁) hTh X₁.warmed) hcode hini hR hf.1 hf.2 (g := { (F0 m pc ls st0) with stack := rest }) rfl (hsize.trans hml.symm) (by rw [hb]; exact hdg) (lv_room (m := m) (pc := pc) (ls := ls) (rest := rest) hroom) (X₁.named hnamed)
  have hcl' : s.vm.findClass E = some ce.cls := by
    rw [X₁.warmed.alike.findClass] at hcl
    exact hcl
  obtain ⟨t2, a1, b1⟩ := kx q ce T'.heap (by rw [← hTh]; exact hz) (fun z h => by rw [hk z (by rw [show (T.setVm vm₁).heap = T.heap from rfl, hTh]; exact h), show (T.setVm vm₁).heap = T.heap from rfl, hTh]) hce hcv hcl' T' rfl X'
  exact ⟨t2, (hstep₁ _ fun acts => by rw [doInvoke_state]; exact hsteps).trans a1, b1⟩
/-- not caught here: the method throws it on -/
theorem z_xout {q : Addr} {ce : Cell} {H1 : Heap} (Z : zC p s m meth c cc nL ret own args TB) (htab : c.exceptionTable.toList = []) (hz : s.heap.size ≤ H1.size) (hk : ∀ z : Nat, z < s.heap.size → H1[z]? = s.heap[z]?) (hce : H1[q]? = some ce) (hcv : ce.vm = .none) (hcl : s.vm.findClass E = some ce.cls) :
    zWx p l e R s m args below meth c H1 [] 1 6 (zMQ below E s) (F0 m pc ls rest) q := by
  intro T hTh X
  obtain ⟨st1, hrun, hend, hW, hsm⟩ := X.leaveThrown q (g := F0 m pc ls rest) rfl rfl rfl (by rw [htab]; exact fun x hx => nomatch hx) Z.2.2.2.2.2.2.2
  have hh : (T.setFrames (.throwing q :: below)).heap = H1 := hTh
  exact ⟨_, st1, .threw q, hrun, hend, q, ce, rfl, by rw [hh]; exact hce, hcv, hcl, by rw [hh]; exact hz, fun z h => by rw [hh]; exact hk z h, hW, hsm⟩
end ZXC
end
section
/-! Catching: the rows of a method's own table, their classes linked or not yet. -/
/-- how the search goes on past a row that names another class, or ends at one that takes the object -/
theorem zg_row {Q : Handler → Pre} {E : CtlPost} {e : Env} {d : Bool} {acts : List Action} {s : State} {f : JFrame} {a : Addr} {x : ExceptionTableEntry} {t : List ExceptionTableEntry} {k : ClassId} {cell : Cell} (hx : covers x f.pc = true) (h0 : x.catchType ≠ 0)
    (hl : s.vm.ClassLinks e.platform f.method.cls x.catchType k) (hcell : s.heap[a]? = some cell) (hobj : ∀ j, cell.vm ≠ .statics j) (hk : ∃ j, s.vm.classes[cell.cls]? = some j) (hc : ∃ j, s.vm.classes[k]? = some j) :
    wp (findHandler.go f a (x :: t)) Q E e d acts s ↔ if s.vm.assignable cell.cls k = true then Q (.found x.handlerPc) d acts (s.setVm (s.vm.noted f.method.cls x.catchType (.cls k))) else wp (findHandler.go f a t) Q E e d acts (s.setVm (s.vm.noted f.method.cls x.catchType (.cls k))) := by
  simp only [covers] at hx
  obtain ⟨ha, ht⟩ := (resolveClass_links e.toSetting hl).op (op := VmOp.resolveClass f.method.cls x.catchType) rfl
  have hal : s.vm.Alike (s.vm.noted f.method.cls x.catchType (.cls k)) := (Vm.Alike.refl s.vm).noted _ _ _
  obtain ⟨k1, hk1⟩ := hk
  obtain ⟨k2, hk2⟩ := hc
  obtain ⟨k1', hk1', -⟩ := hal.2.2 _ _ hk1
  obtain ⟨k2', hk2', -⟩ := hal.2.2 _ _ hk2
  have hasg : (s.vm.noted f.method.cls x.catchType (.cls k)).assignable cell.cls k = s.vm.assignable cell.cls k := by rw [hal.assignable]
  by_cases hf : s.vm.assignable cell.cls k = true
  · rw [if_pos hf]
    rw [hf] at hasg
    simp [findHandler.go, hx, h0, ha, ht, hcell, hobj, hk1', hk2', hasg, VmOp.dirties, VmOp.acts]
  · rw [if_neg hf]
    have hf' : s.vm.assignable cell.cls k = false := by simpa using hf
    rw [hf'] at hasg
    simp [findHandler.go, hx, h0, ha, ht, hcell, hobj, hk1', hk2', hasg, VmOp.dirties, VmOp.acts]
/-- the rows ahead cover the pc and name classes that don't take the object; the row x takes it -/
theorem zg_find {e : Env} {s₀ : State} {f : JFrame} {a : Addr} {cell : Cell} (hobj : ∀ j, cell.vm ≠ .statics j) (hk0 : ∃ j, s₀.vm.classes[cell.cls]? = some j)
    (x : ExceptionTableEntry) (suf : List ExceptionTableEntry) (hx : covers x f.pc = true) (hx0 : x.catchType ≠ 0) {kx : ClassId} (hlx : s₀.vm.ClassLinks e.platform f.method.cls x.catchType kx) (hfit : s₀.vm.assignable cell.cls kx = true) :
    ∀ (pre : List ExceptionTableEntry) (S : State), s₀.WarmedH S.vm → S.heap[a]? = some cell → (∀ z ∈ pre, covers z f.pc = true ∧ z.catchType ≠ 0 ∧ ∃ k, s₀.vm.ClassLinks e.platform f.method.cls z.catchType k ∧ s₀.vm.assignable cell.cls k = false) →
      ∃ vm', s₀.WarmedH vm' ∧ ∀ (Q : Handler → Pre) (E : CtlPost) (d : Bool) (acts : List Action), wp (findHandler.go f a (pre ++ x :: suf)) Q E e d acts S ↔ Q (.found x.handlerPc) d acts (S.setVm vm') := by
  obtain ⟨k0, hk0⟩ := hk0
  intro pre
  induction pre with
  | nil =>
    intro S hW hcell _
    obtain ⟨k0', hk0', -⟩ := hW.alike.2.2 _ _ hk0
    obtain ⟨dk, _, _, kt, hd, _, _, _, _, hkt, _, hopen⟩ := hlx.here
    obtain ⟨kt', hkt', -⟩ := hW.alike.2.2 _ _ hkt
    refine ⟨_, hW.noted hd hopen (State.rightAt_cls hlx), fun Q E d acts => ?_⟩
    rw [List.nil_append, zg_row hx hx0 (hW.classLinks hlx) hcell hobj ⟨k0', hk0'⟩ ⟨kt', hkt'⟩, if_pos (by rw [hW.alike.assignable]; exact hfit)]
  | cons z zs ih =>
    intro S hW hcell hpass
    obtain ⟨k0', hk0', -⟩ := hW.alike.2.2 _ _ hk0
    obtain ⟨hcov, hz0, k, hl, hno⟩ := hpass z List.mem_cons_self
    obtain ⟨dk, _, _, kt, hd, _, _, _, _, hkt, _, hopen⟩ := hl.here
    obtain ⟨kt', hkt', -⟩ := hW.alike.2.2 _ _ hkt
    obtain ⟨vm', hW', hq⟩ := ih (S.setVm (S.vm.noted f.method.cls z.catchType (.cls k))) (hW.noted hd hopen (State.rightAt_cls hl)) hcell (fun y hy => hpass y (List.mem_cons_of_mem _ hy))
    refine ⟨vm', hW', fun Q E d acts => ?_⟩
    rw [List.cons_append, zg_row hcov hz0 (hW.classLinks hl) hcell hobj ⟨k0', hk0'⟩ ⟨kt', hkt'⟩, if_neg (by rw [hW.alike.assignable, hno]; decide)]
    exact hq Q E d acts
/-- from the thrown object to the handler -/
theorem zg_caught {tb : Tables} {e : Env} {s target : State} {g : JFrame} {c : Code} {below : List Frame} {a : Addr} (h : At s g.method c below) {pc : Nat} {vm' : Vm}
    (hfind : ∀ (Q : Handler → Pre) (E : CtlPost) (d : Bool) (acts : List Action), wp (findHandler g a) Q E e d acts ((s.setTop g).pushFrame (.throwing a)) ↔ Q (.found pc) d acts (((s.setTop g).pushFrame (.throwing a)).setVm vm'))
    (hrest : Steps tb e below ((s.setVm vm').setTop { g with pc := pc, stack := [.ref a] }) target) :
    Steps tb e below ((s.setTop g).pushFrame (.throwing a)) target := by
  obtain ⟨hgo, hw⟩ := h.throwing a
  have hst : ∀ r, (stepThrowing e ((s.setTop g).pushFrame (.throwing a)) a (.java g :: r)).1 = (((s.setTop g).pushFrame (.throwing a)).setVm vm').setFrames (.java { g with pc := pc, stack := [.ref a] } :: r) := by
    intro r
    simp only [stepThrowing, searchFrame, vmDo]
    generalize hr : Sem.go _ e false [] ((s.setTop g).pushFrame (.throwing a)) = res
    obtain ⟨as, rfl, ha⟩ := Sem.eq_ok_of hr (a := Handler.found pc) (s' := ((s.setTop g).pushFrame (.throwing a)).setVm vm') (acts' := []) (by simp [hfind _ _ _ _])
    rfl
  refine Steps.head hgo hw ?_
  rw [stepThread_throwing (frames_entered h.top _), hst]
  obtain ⟨g₀, hg⟩ := Option.isSome_iff_exists.mp h.top
  obtain ⟨r, hr⟩ := State.topJava?_eq_some.mp hg
  have hr' : (s.setVm vm').frames = .java g₀ :: r := hr
  rw [State.setTop_of_frames _ hr'] at hrest
  have hmove : ∀ (u : State) (F G : List Frame), ((u.setFrames F).setVm vm').setFrames G = (u.setVm vm').setFrames G := by
    intro u F G
    have h1 : (u.setFrames F).setVm vm' = (u.setVm vm').setFrames F := rfl
    rw [h1, State.setFrames_setFrames]
  rw [hr, List.tail_cons, State.pushFrame, hmove, State.setTop_of_frames _ hr, hmove]
  exact hrest
section ZXK
variable {p : Program} {l : Launch} {e : Env} {R : Room} {s : State} {m : MethodId} {args : Array Value} {below : List Frame} {meth : Method} {c : Code} {H : Heap} {locs : List Loc} {cells slots : Nat} {Q : State → Prop}
variable {cc : ByteArray} {pc : Nat} {ls : Array Slot} {rest st0 : List Value} {nL : Nat} {ret : Option FieldType} {own : String} {E name : String}
/-- caught by the row x; the rows ahead name classes that E isn't of -/
theorem z_xcatch {q : Addr} {ce : Cell} (Z : zC p s m meth c cc nL ret own args TB) (pre : List ExceptionTableEntry) (x : ExceptionTableEntry) (suf : List ExceptionTableEntry) (hsplit : c.exceptionTable.toList = pre ++ x :: suf)
    (hpass : ∀ z ∈ pre, covers z pc = true ∧ z.catchType ≠ 0 ∧ ∃ nm : String, Cond.classLink own z.catchType nm ∈ TB ∧ (Cond.not (.castable E nm)).before args s = true) (hx : covers x pc = true) (hx0 : x.catchType ≠ 0) (hlx : Cond.classLink own x.catchType name ∈ TB) (hcast : Cond.castable E name ∈ TB)
    (hce : H[q]? = some ce) (hcv : ce.vm = .none) (hcl : s.vm.findClass E = some ce.cls)
    (kk : W p l e R s m args below meth c H locs cells slots Q (F0 m x.handlerPc ls [.ref q])) : zWx p l e R s m args below meth c H locs cells slots Q (F0 m pc ls rest) q := by
  intro T hTh X
  obtain ⟨hexec, hb, -, hml, hown, hts, hE, -⟩ := id Z
  have hpl : e.platform.magicAccessors = ({} : Platform).magicAccessors := by rw [X.admits.platform]
  obtain ⟨c3, c4, hc3, hc4, hasg⟩ := Cond.castable_spec (hts _ hcast)
  cases Option.some.inj (hc3.symm.trans hcl)
  obtain ⟨c5, hc5, hcl5⟩ := Cond.classLink_spec hown (hts _ hlx) e.platform hpl
  cases Option.some.inj (hc4.symm.trans hc5)
  have hk0 : ∃ j, s.vm.classes[ce.cls]? = some j := by obtain ⟨k9, h9, -⟩ := Vm.findClass_spec hcl; exact ⟨k9, h9⟩
  obtain ⟨vm', hW', hq⟩ := zg_find (e := e) (s₀ := s) (f := F0 m pc ls rest) (a := q) (cell := ce) (fun j => by rw [hcv]; exact fun h => nomatch h) hk0 x suf hx hx0 hcl5 hasg pre ((T.setTop (F0 m pc ls rest)).pushFrame (.throwing q)) X.warmed (by rw [Stand.throwing_heap, hTh]; exact hce)
    (fun z hz => by
      obtain ⟨h1, h2, nm, h3, h4⟩ := hpass z hz
      obtain ⟨c6, hc6, hcl6⟩ := Cond.classLink_spec hown (hts _ h3) e.platform hpl
      have hv := Cond.holds_not_iff.mp h4
      simp only [Cond.value, hcl, hc6] at hv
      exact ⟨h1, h2, c6, hcl6, Option.some.inj hv⟩)
  obtain ⟨t, a1, b1⟩ := kk (T.setVm vm') hTh (X.noted hW')
  refine ⟨t, zg_caught (g := F0 m pc ls rest) X.here (fun Q9 E9 d9 ac9 => ?_) a1, b1⟩
  rw [W.findHandler_eq (meth := meth) (code := c) X.method' X.code, hsplit]
  exact hq Q9 E9 d9 ac9
end ZXK
end
section
/-! The one world: the class's cells, the reference's, the law's row of one long. Arrays of natural numbers. -/
abbrev zN (f : Nat → Nat) : Nat → Int32 := fun j => iZ ((f j : Nat) : Int)
abbrev zLN (f : Nat → Nat) : Nat → Int64 := fun j => lZ ((f j : Nat) : Int)
def nu (f : Nat → Nat) (k v : Nat) : Nat → Nat := fun j => if j = k then v else f j
theorem nu_s (f : Nat → Nat) (k v : Nat) : nu f k v k = v := if_pos rfl
theorem nu_n (f : Nat → Nat) {k j : Nat} (v : Nat) (h : j ≠ k) : nu f k v j = f j := if_neg h
theorem zN_u (f : Nat → Nat) (k v : Nat) : zA (zu (fun j => ((f j : Nat) : Int)) k ((v : Nat) : Int)) = zN (nu f k v) := funext fun j => by
  show iZ (if j = k then ((v : Nat) : Int) else ((f j : Nat) : Int)) = iZ (((if j = k then v else f j : Nat)) : Int)
  by_cases h : j = k
  · rw [if_pos h, if_pos h]
  · rw [if_neg h, if_neg h]
theorem zLN_u (f : Nat → Nat) (k v : Nat) : zL (zu (fun j => ((f j : Nat) : Int)) k ((v : Nat) : Int)) = zLN (nu f k v) := funext fun j => by
  show lZ (if j = k then ((v : Nat) : Int) else ((f j : Nat) : Int)) = lZ (((if j = k then v else f j : Nat)) : Int)
  by_cases h : j = k
  · rw [if_pos h, if_pos h]
  · rw [if_neg h, if_neg h]
section ZNR
variable {p : Program} {l : Launch} {e : Env} {R : Room} {s : State} {m : MethodId} {args : Array Value} {below : List Frame} {meth : Method} {c : Code} {H : Heap} {locs : List Loc} {cells slots : Nat} {Q : State → Prop}
variable {cc : ByteArray} {pc : Nat} {ls : Array Slot} {rest : List Value} {D : va_G} {cl : List vw_C} {A : Nat → Prop} {a : Nat} {tys : List (ClassId × FieldType)} {ws : va_W} {H0 : Heap}
theorem z_ialdN (hx : p.tables.exec = Jvm.exec) (hb : c.code = cc) (hK : va_K D cl tys s) (hP : va_P D cl ws H) (q0 t0 : Nat) {cA : ClassId} {n : Nat} {f : Nat → Nat} (ha : ws[q0]? = some (a, .inl (cA, n, .inl (zN f)))) (ht : tys[t0]? = some (cA, .int)) {i : Int} (k : Nat) (hi : i = (k : Int) ∧ k < n ∧ n < 2147483648) (hdg : decode cc pc = .ok (.iaload, 1))
    (kk : W p l e R s m args below meth c H locs cells slots Q (F0 m (pc + 1) ls (.int (iZ ((f k : Nat) : Int)) :: rest))) : W p l e R s m args below meth c H locs cells slots Q (F0 m pc ls (.int (iZ i) :: .ref a :: rest)) := z_iald hx hb hK hP q0 t0 (f := fun j => ((f j : Nat) : Int)) ha ht k hi hdg kk
theorem z_laldN (hx : p.tables.exec = Jvm.exec) (hb : c.code = cc) (hK : va_K D cl tys s) (hP : va_P D cl ws H) (q0 t0 : Nat) {cA : ClassId} {n : Nat} {f : Nat → Nat} (ha : ws[q0]? = some (a, .inl (cA, n, .inr (.inl (zLN f))))) (ht : tys[t0]? = some (cA, .long)) {i : Int} (k : Nat) (hi : i = (k : Int) ∧ k < n ∧ n < 2147483648) (hdg : decode cc pc = .ok (.laload, 1))
    (kk : W p l e R s m args below meth c H locs cells slots Q (F0 m (pc + 1) ls (.long (lZ ((f k : Nat) : Int)) :: rest))) : W p l e R s m args below meth c H locs cells slots Q (F0 m pc ls (.int (iZ i) :: .ref a :: rest)) := z_lald hx hb hK hP q0 t0 (f := fun j => ((f j : Nat) : Int)) ha ht k hi hdg kk
theorem z_iastN (hx : p.tables.exec = Jvm.exec) (hb : c.code = cc) (hK : va_K D cl tys s) (hP : va_P D cl ws H) (hD : va_D A ws) (hS : va_S A H0 H locs) (q0 t0 : Nat) {cA : ClassId} {n : Nat} {f : Nat → Nat} (ha : ws[q0]? = some (a, .inl (cA, n, .inl (zN f)))) (ht : tys[t0]? = some (cA, .int)) {i : Int} {v : Nat} (k : Nat) (hi : i = (k : Int) ∧ k < n ∧ n < 2147483648) (hdg : decode cc pc = .ok (.iastore, 1))
    (kk : ∀ (H1 : Heap) (locs1 : List Loc), va_P D cl (ws.set q0 (a, .inl (cA, n, .inl (zN (nu f k v))))) H1 → va_D A (ws.set q0 (a, .inl (cA, n, .inl (zN (nu f k v))))) → va_S A H0 H1 locs1 → W p l e R s m args below meth c H1 locs1 cells slots Q (F0 m (pc + 1) ls rest)) : W p l e R s m args below meth c H locs cells slots Q (F0 m pc ls (.int (iZ ((v : Nat) : Int)) :: .int (iZ i) :: .ref a :: rest)) := by
  refine z_iast hx hb hK hP hD hS q0 t0 (f := fun j => ((f j : Nat) : Int)) ha ht k hi hdg ?_
  rw [zN_u]
  exact kk
theorem z_lastN (hx : p.tables.exec = Jvm.exec) (hb : c.code = cc) (hK : va_K D cl tys s) (hP : va_P D cl ws H) (hD : va_D A ws) (hS : va_S A H0 H locs) (q0 t0 : Nat) {cA : ClassId} {n : Nat} {f : Nat → Nat} (ha : ws[q0]? = some (a, .inl (cA, n, .inr (.inl (zLN f))))) (ht : tys[t0]? = some (cA, .long)) {i : Int} {v : Nat} (k : Nat) (hi : i = (k : Int) ∧ k < n ∧ n < 2147483648) (hdg : decode cc pc = .ok (.lastore, 1))
    (kk : ∀ (H1 : Heap) (locs1 : List Loc), va_P D cl (ws.set q0 (a, .inl (cA, n, .inr (.inl (zLN (nu f k v)))))) H1 → va_D A (ws.set q0 (a, .inl (cA, n, .inr (.inl (zLN (nu f k v)))))) → va_S A H0 H1 locs1 → W p l e R s m args below meth c H1 locs1 cells slots Q (F0 m (pc + 1) ls rest)) : W p l e R s m args below meth c H locs cells slots Q (F0 m pc ls (.long (lZ ((v : Nat) : Int)) :: .int (iZ i) :: .ref a :: rest)) := by
  refine z_last hx hb hK hP hD hS q0 t0 (f := fun j => ((f j : Nat) : Int)) ha ht k hi hdg ?_
  rw [zLN_u]
  exact kk
theorem z_iaddN (hx : p.tables.exec = Jvm.exec) (hb : c.code = cc) {u v : Nat} (hdg : decode cc pc = .ok (.iadd, 1)) (k : W p l e R s m args below meth c H locs cells slots Q (F0 m (pc + 1) ls (.int (iZ ((u + v : Nat) : Int)) :: rest))) : W p l e R s m args below meth c H locs cells slots Q (F0 m pc ls (.int (iZ ((v : Nat) : Int)) :: .int (iZ ((u : Nat) : Int)) :: rest)) := z_iadd hx hb hdg k
theorem z_imulN (hx : p.tables.exec = Jvm.exec) (hb : c.code = cc) {u v : Nat} (hdg : decode cc pc = .ok (.imul, 1)) (k : W p l e R s m args below meth c H locs cells slots Q (F0 m (pc + 1) ls (.int (iZ ((u * v : Nat) : Int)) :: rest))) : W p l e R s m args below meth c H locs cells slots Q (F0 m pc ls (.int (iZ ((v : Nat) : Int)) :: .int (iZ ((u : Nat) : Int)) :: rest)) := z_imul hx hb hdg k
theorem z_laddN (hx : p.tables.exec = Jvm.exec) (hb : c.code = cc) {u v : Nat} (hdg : decode cc pc = .ok (.ladd, 1)) (k : W p l e R s m args below meth c H locs cells slots Q (F0 m (pc + 1) ls (.long (lZ ((u + v : Nat) : Int)) :: rest))) : W p l e R s m args below meth c H locs cells slots Q (F0 m pc ls (.long (lZ ((v : Nat) : Int)) :: .long (lZ ((u : Nat) : Int)) :: rest)) := z_ladd hx hb hdg k
theorem z_lmulN (hx : p.tables.exec = Jvm.exec) (hb : c.code = cc) {u v : Nat} (hdg : decode cc pc = .ok (.lmul, 1)) (k : W p l e R s m args below meth c H locs cells slots Q (F0 m (pc + 1) ls (.long (lZ ((u * v : Nat) : Int)) :: rest))) : W p l e R s m args below meth c H locs cells slots Q (F0 m pc ls (.long (lZ ((v : Nat) : Int)) :: .long (lZ ((u : Nat) : Int)) :: rest)) := z_lmul hx hb hdg k
/-- the top of the stack, said otherwise -/
theorem z_topZ {a b : Int} (h : a = b) (k : W p l e R s m args below meth c H locs cells slots Q (F0 m pc ls (.int (iZ b) :: rest))) : W p l e R s m args below meth c H locs cells slots Q (F0 m pc ls (.int (iZ a) :: rest)) := by rw [h]; exact k
theorem z_topB {a : Int} {b : Bool} (h : iZ a = bI b) (k : W p l e R s m args below meth c H locs cells slots Q (F0 m pc ls (.int (bI b) :: rest))) : W p l e R s m args below meth c H locs cells slots Q (F0 m pc ls (.int (iZ a) :: rest)) := by rw [h]; exact k
theorem z_topI {a b : Int32} (h : a = b) (k : W p l e R s m args below meth c H locs cells slots Q (F0 m pc ls (.int b :: rest))) : W p l e R s m args below meth c H locs cells slots Q (F0 m pc ls (.int a :: rest)) := by rw [h]; exact k
theorem z_topL {a b : Int64} (h : a = b) (k : W p l e R s m args below meth c H locs cells slots Q (F0 m pc ls (.long b :: rest))) : W p l e R s m args below meth c H locs cells slots Q (F0 m pc ls (.long a :: rest)) := by rw [h]; exact k
end ZNR
theorem iZ_inc (u n : Nat) : iZ ((u : Nat) : Int) + Int32.ofInt ((n : Nat) : Int) = iZ ((u + n : Nat) : Int) := iZ_add _ _
/-- the journal: the state of the draw, how many hauls and pairs, the open hauls, the ships out, the arms, the counts, the pairs' hauls and ships -/
abbrev SJ : Type := Int64 × Nat × Nat × (Nat → Int) × (Nat → Bool) × (Nat → Bool) × (Nat → Nat) × (Nat → Nat) × (Nat → Nat) × (Nat → Nat)
abbrev jx (J : SJ) : Int64 := J.1
abbrev jn (J : SJ) : Nat := J.2.1
abbrev jk (J : SJ) : Nat := J.2.2.1
abbrev jop (J : SJ) : Nat → Int := J.2.2.2.1
abbrev jou (J : SJ) : Nat → Bool := J.2.2.2.2.1
abbrev jdv (J : SJ) : Nat → Bool := J.2.2.2.2.2.1
abbrev jct (J : SJ) : Nat → Nat := J.2.2.2.2.2.2.1
abbrev jdh (J : SJ) : Nat → Nat := J.2.2.2.2.2.2.2.1
abbrev jph (J : SJ) : Nat → Nat := J.2.2.2.2.2.2.2.2.1
abbrev jsp (J : SJ) : Nat → Nat := J.2.2.2.2.2.2.2.2.2
/-- the choices' rows: weights, size, chosen sum, low, high, spare -/
abbrev SH : Type := (Nat → Int) × Nat × Int × (Nat → Int) × (Nat → Int) × (Nat → Int)
/-- the walk: ways, top, crossed, all -/
abbrev SK : Type := (Nat → Nat) × Nat × Nat × Nat
/-- the reference's own: code, ships, many, latest, first, second, row, ways, next -/
abbrev SM : Type := Nat × (Nat → Nat) × (Nat → Nat) × (Nat → Nat) × (Nat → Nat) × (Nat → Nat) × (Nat → Int) × (Nat → Nat) × (Nat → Nat)
abbrev wdC (ad : Nat → Nat) (cI cZ cL : ClassId) (J : SJ) (rd : Nat → Int) (pr : Nat → Nat) (G : SH) (K : SK) (tl : va_W) : va_W :=
  (ad 0, .inr (0, [.ref (ad 1), .ref (ad 9), .ref (ad 11), .ref (ad 16), .ref (ad 18)])) ::
  (ad 1, .inr (1, [.long (jx J), .int (iZ ((jn J : Nat) : Int)), .int (iZ ((jk J : Nat) : Int)), .ref (ad 2), .ref (ad 3), .ref (ad 4), .ref (ad 5), .ref (ad 6), .ref (ad 7), .ref (ad 8)])) ::
  (ad 2, .inl (cI, 4, .inl (zA (jop J)))) :: (ad 3, .inl (cZ, 4, .inl (zB (jou J)))) :: (ad 4, .inl (cZ, 32, .inl (zB (jdv J)))) :: (ad 5, .inl (cI, 96, .inl (zN (jct J)))) ::
  (ad 6, .inl (cI, 16, .inl (zN (jdh J)))) :: (ad 7, .inl (cI, 16, .inl (zN (jph J)))) :: (ad 8, .inl (cI, 16, .inl (zN (jsp J)))) ::
  (ad 9, .inr (2, [.ref (ad 10)])) :: (ad 10, .inl (cI, 64, .inl (zA rd))) ::
  (ad 11, .inr (3, [.ref (ad 12), .int (iZ ((G.2.1 : Nat) : Int)), .int (iZ G.2.2.1), .ref (ad 13), .ref (ad 14), .ref (ad 15)])) :: (ad 12, .inl (cI, 16, .inl (zA G.1))) ::
  (ad 13, .inl (cI, 256, .inl (zA G.2.2.2.1))) :: (ad 14, .inl (cI, 256, .inl (zA G.2.2.2.2.1))) :: (ad 15, .inl (cI, 256, .inl (zA G.2.2.2.2.2))) ::
  (ad 16, .inr (4, [.ref (ad 17), .int (iZ ((K.2.1 : Nat) : Int)), .long (lZ ((K.2.2.1 : Nat) : Int)), .long (lZ ((K.2.2.2 : Nat) : Int))])) :: (ad 17, .inl (cL, 33, .inr (.inl (zLN K.1)))) ::
  (ad 18, .inl (cI, 3, .inl (zN pr))) :: tl
abbrev wdM (ad : Nat → Nat) (cI cZ cL : ClassId) (J : SJ) (rd : Nat → Int) (pr : Nat → Nat) (M : SM) (ov : Nat → Int64) : va_W :=
  [(ad 19, .inr (5, [.int (iZ ((M.1 : Nat) : Int)), .long (jx J), .int (iZ ((jn J : Nat) : Int)), .ref (ad 20), .ref (ad 21), .ref (ad 22), .ref (ad 23), .ref (ad 24), .int (iZ ((jk J : Nat) : Int)), .ref (ad 25), .ref (ad 26), .ref (ad 27), .ref (ad 28), .ref (ad 29), .ref (ad 30), .ref (ad 31), .ref (ad 32)])),
   (ad 20, .inl (cI, 32, .inl (zN M.2.1))), (ad 21, .inl (cZ, 32, .inl (zB (jdv J)))), (ad 22, .inl (cI, 96, .inl (zN (jct J)))), (ad 23, .inl (cI, 4, .inl (zN M.2.2.1))), (ad 24, .inl (cI, 4, .inl (zN M.2.2.2.1))),
   (ad 25, .inl (cI, 16, .inl (zN M.2.2.2.2.1))), (ad 26, .inl (cI, 16, .inl (zN M.2.2.2.2.2.1))), (ad 27, .inl (cZ, 4, .inl (zB (jou J)))), (ad 28, .inl (cI, 64, .inl (zA rd))), (ad 29, .inl (cI, 3, .inl (zN pr))),
   (ad 30, .inl (cI, 16, .inl (zA M.2.2.2.2.2.2.1))), (ad 31, .inl (cL, 35, .inr (.inl (zLN M.2.2.2.2.2.2.2.1)))), (ad 32, .inl (cL, 35, .inr (.inl (zLN M.2.2.2.2.2.2.2.2)))), (ad 33, .inl (cL, 1, .inr (.inl ov)))]
abbrev tysW (cI cZ cL : ClassId) : List (ClassId × FieldType) := [(cI, .int), (cZ, .boolean), (cL, .long)]
end
section
/-! More words: how many parameters; Math, System; constants as integers. -/
theorem zd_D_init : zdY y_D_init 1 := by decide +kernel
theorem zd_D_haul : zdY y_D_haul 1 := by decide +kernel
theorem zd_D_caught : zdY y_D_caught 3 := by decide +kernel
theorem zd_D_out : zdY y_D_out 2 := by decide +kernel
theorem zd_D_arm : zdY y_D_arm 1 := by decide +kernel
theorem zd_D_pair : zdY y_D_pair 2 := by decide +kernel
theorem zd_D_pairs : zdY y_D_pairs 0 := by decide +kernel
theorem zd_D_difference : zdY y_D_difference 2 := by decide +kernel
theorem zd_D_kept : zdY y_D_kept 1 := by decide +kernel
theorem zd_D_sum : zdY y_D_sum 1 := by decide +kernel
theorem zd_D_odds : zdY y_D_odds 2 := by decide +kernel
theorem zd_D_rank : zdY y_D_rank 2 := by decide +kernel
theorem zd_D_rankOdds : zdY y_D_rankOdds 2 := by decide +kernel
theorem zd_D_stopped : zdY y_D_stopped 3 := by decide +kernel
theorem zd_D_crossing : zdY y_D_crossing 4 := by decide +kernel
theorem zd_D_least : zdY y_D_least 4 := by decide +kernel
theorem zd_D_mean : zdY y_D_mean 3 := by decide +kernel
theorem zd_D_weight : zdY y_D_weight 3 := by decide +kernel
theorem zd_D_joined : zdY y_D_joined 2 := by decide +kernel
theorem zd_D_reader : zdY y_D_reader 3 := by decide +kernel
theorem zd_D_unlike : zdY y_D_unlike 1 := by decide +kernel
theorem zd_D_price : zdY y_D_price 2 := by decide +kernel
theorem zd_D_lost : zdY y_D_lost 0 := by decide +kernel
theorem zd_D_needIndex : zdY y_D_needIndex 2 := by decide +kernel
theorem zd_D_needShip : zdY y_D_needShip 1 := by decide +kernel
theorem zd_D_needKind : zdY y_D_needKind 1 := by decide +kernel
theorem zd_D_needPart : zdY y_D_needPart 1 := by decide +kernel
theorem zd_D_needHaul : zdY y_D_needHaul 1 := by decide +kernel
theorem zd_D_needPair : zdY y_D_needPair 1 := by decide +kernel
theorem zd_D_needNumber : zdY y_D_needNumber 3 := by decide +kernel
theorem zd_D_needBounds : zdY y_D_needBounds 2 := by decide +kernel
theorem zd_D_toldPart : zdY y_D_toldPart 3 := by decide +kernel
theorem zd_D_commonDivisor : zdY y_D_commonDivisor 2 := by decide +kernel
theorem zd_J_init : zdY y_J_init 1 := by decide +kernel
theorem zd_J_addHaul : zdY y_J_addHaul 1 := by decide +kernel
theorem zd_J_drawArm : zdY y_J_drawArm 0 := by decide +kernel
theorem zd_J_addPair : zdY y_J_addPair 3 := by decide +kernel
theorem zd_J_putCount : zdY y_J_putCount 3 := by decide +kernel
theorem zd_J_leaveOut : zdY y_J_leaveOut 2 := by decide +kernel
theorem zd_J_deviceCount : zdY y_J_deviceCount 2 := by decide +kernel
theorem zd_J_plainCount : zdY y_J_plainCount 2 := by decide +kernel
theorem zd_J_differenceOf : zdY y_J_differenceOf 2 := by decide +kernel
theorem zd_J_keeps : zdY y_J_keeps 2 := by decide +kernel
theorem zd_J_keptDifference : zdY y_J_keptDifference 2 := by decide +kernel
theorem zd_J_isOf : zdY y_J_isOf 2 := by decide +kernel
theorem zd_J_keptOf : zdY y_J_keptOf 2 := by decide +kernel
theorem zd_J_sumOf : zdY y_J_sumOf 2 := by decide +kernel
theorem zd_J_rankOf : zdY y_J_rankOf 2 := by decide +kernel
theorem zd_C_init : zdY y_C_init 0 := by decide +kernel
theorem zd_C_putReading : zdY y_C_putReading 3 := by decide +kernel
theorem zd_C_differs : zdY y_C_differs 1 := by decide +kernel
theorem zd_H_init : zdY y_H_init 0 := by decide +kernel
theorem zd_H_clear : zdY y_H_clear 0 := by decide +kernel
theorem zd_H_add : zdY y_H_add 2 := by decide +kernel
theorem zd_H_countAll : zdY y_H_countAll 0 := by decide +kernel
theorem zd_H_countNotAbove : zdY y_H_countNotAbove 0 := by decide +kernel
theorem zd_H_fillSums : zdY y_H_fillSums 3 := by decide +kernel
theorem zd_H_addWeight : zdY y_H_addWeight 3 := by decide +kernel
theorem zd_K_init : zdY y_K_init 0 := by decide +kernel
theorem zd_K_start : zdY y_K_start 2 := by decide +kernel
theorem zd_K_goOn : zdY y_K_goOn 0 := by decide +kernel
theorem zd_M_init : zdY y_M_init 1 := by decide +kernel
theorem zd_M_thrown : zdY y_M_thrown 0 := by decide +kernel
theorem zd_M_isIn : zdY y_M_isIn 2 := by decide +kernel
theorem zd_M_haul : zdY y_M_haul 1 := by decide +kernel
theorem zd_M_caught : zdY y_M_caught 3 := by decide +kernel
theorem zd_M_out : zdY y_M_out 2 := by decide +kernel
theorem zd_M_arm : zdY y_M_arm 1 := by decide +kernel
theorem zd_M_pair : zdY y_M_pair 2 := by decide +kernel
theorem zd_M_pairs : zdY y_M_pairs 0 := by decide +kernel
theorem zd_M_by : zdY y_M_by 2 := by decide +kernel
theorem zd_M_isKept : zdY y_M_isKept 2 := by decide +kernel
theorem zd_M_difference : zdY y_M_difference 2 := by decide +kernel
theorem zd_M_keptOf : zdY y_M_keptOf 1 := by decide +kernel
theorem zd_M_kept : zdY y_M_kept 1 := by decide +kernel
theorem zd_M_sumOf : zdY y_M_sumOf 1 := by decide +kernel
theorem zd_M_sum : zdY y_M_sum 1 := by decide +kernel
theorem zd_M_part : zdY y_M_part 3 := by decide +kernel
theorem zd_M_odds : zdY y_M_odds 2 := by decide +kernel
theorem zd_M_plain : zdY y_M_plain 1 := by decide +kernel
theorem zd_M_isRanked : zdY y_M_isRanked 2 := by decide +kernel
theorem zd_M_rankOf : zdY y_M_rankOf 2 := by decide +kernel
theorem zd_M_rank : zdY y_M_rank 2 := by decide +kernel
theorem zd_M_rankOdds : zdY y_M_rankOdds 2 := by decide +kernel
theorem zd_M_isBound : zdY y_M_isBound 1 := by decide +kernel
theorem zd_M_stopped : zdY y_M_stopped 3 := by decide +kernel
theorem zd_M_cross : zdY y_M_cross 3 := by decide +kernel
theorem zd_M_crossing : zdY y_M_crossing 4 := by decide +kernel
theorem zd_M_least : zdY y_M_least 4 := by decide +kernel
theorem zd_M_keptOfShip : zdY y_M_keptOfShip 2 := by decide +kernel
theorem zd_M_mean : zdY y_M_mean 3 := by decide +kernel
theorem zd_M_weight : zdY y_M_weight 3 := by decide +kernel
theorem zd_M_joined : zdY y_M_joined 2 := by decide +kernel
theorem zd_M_areUnlike : zdY y_M_areUnlike 1 := by decide +kernel
theorem zd_M_reader : zdY y_M_reader 3 := by decide +kernel
theorem zd_M_unlike : zdY y_M_unlike 1 := by decide +kernel
theorem zd_M_price : zdY y_M_price 2 := by decide +kernel
theorem zd_M_lost : zdY y_M_lost 0 := by decide +kernel
theorem zd_L_cell : zdY y_L_cell 2 := by decide +kernel
theorem zd_L_haul : zdY y_L_haul 3 := by decide +kernel
theorem zd_L_caught : zdY y_L_caught 5 := by decide +kernel
theorem zd_L_out : zdY y_L_out 4 := by decide +kernel
theorem zd_L_arm : zdY y_L_arm 3 := by decide +kernel
theorem zd_L_pair : zdY y_L_pair 4 := by decide +kernel
theorem zd_L_difference : zdY y_L_difference 4 := by decide +kernel
theorem zd_L_kept : zdY y_L_kept 3 := by decide +kernel
theorem zd_L_sum : zdY y_L_sum 3 := by decide +kernel
theorem zd_L_odds : zdY y_L_odds 4 := by decide +kernel
theorem zd_L_rank : zdY y_L_rank 4 := by decide +kernel
theorem zd_L_rankOdds : zdY y_L_rankOdds 4 := by decide +kernel
theorem zd_L_stopped : zdY y_L_stopped 5 := by decide +kernel
theorem zd_L_crossing : zdY y_L_crossing 6 := by decide +kernel
theorem zd_L_least : zdY y_L_least 6 := by decide +kernel
theorem zd_L_mean : zdY y_L_mean 5 := by decide +kernel
theorem zd_L_weight : zdY y_L_weight 5 := by decide +kernel
theorem zd_L_joined : zdY y_L_joined 4 := by decide +kernel
theorem zd_L_reader : zdY y_L_reader 5 := by decide +kernel
theorem zd_L_unlike : zdY y_L_unlike 3 := by decide +kernel
theorem zd_L_price : zdY y_L_price 3 := by decide +kernel
theorem zd_L_law : zdY y_L_law 1 := by decide +kernel
theorem sm_Math_abs9 : Cond.static Lib.Math.abs.name ∈ TB := zmem 422 (by decide +kernel) (by decide +kernel)
theorem co_Math_abs9 : Cond.code Lib.Math.abs.name Lib.Math.abs.code 1 (some .int) ∈ TB := zmem 423 (by decide +kernel) (by decide +kernel)
theorem sm_Math_absJ9 : Cond.static Lib.MathLoose.abs_long.x ∈ TB := zmem 451 (by decide +kernel) (by decide +kernel)
theorem co_Math_absJ9 : Cond.code Lib.MathLoose.abs_long.x Lib.MathLoose.abs_long.code 2 (some .long) ∈ TB := zmem 452 (by decide +kernel) (by decide +kernel)
theorem ck9_J_53 : Cond.constantLong n_J 53 (6364136223846793005 : Int64) ∈ TB := zmem 307 (by decide +kernel) (by decide +kernel)
theorem ck9_J_55 : Cond.constantLong n_J 55 (1442695040888963407 : Int64) ∈ TB := zmem 308 (by decide +kernel) (by decide +kernel)
theorem ml9_D_122 : Cond.methodLink n_D 122 Lib.Math.abs.name ∈ TB := zmem 421 (by decide +kernel) (by decide +kernel)
theorem ml9_H_39 : Cond.methodLink n_H 39 arraycopyName ∈ TB := zmem 440 (by decide +kernel) (by decide +kernel)
theorem ml9_D_187 : Cond.methodLink n_D 187 Lib.MathLoose.abs_long.x ∈ TB := zmem 450 (by decide +kernel) (by decide +kernel)
theorem ml9_J_77 : Cond.methodLink n_J 77 Lib.Math.abs.name ∈ TB := zmem 467 (by decide +kernel) (by decide +kernel)
theorem ck9_K_26 : Cond.constantLong n_K 26 (lZ ((2 : Nat) : Int)) ∈ TB := zmem 504 (by decide +kernel) (by decide +kernel)
theorem ck9_D_169 : Cond.constant n_D 169 (iZ ((100000 : Nat) : Int)) ∈ TB := zmem 540 (by decide +kernel) (by decide +kernel)
theorem ml9_C_15 : Cond.methodLink n_C 15 Lib.Math.abs.name ∈ TB := zmem 549 (by decide +kernel) (by decide +kernel)
theorem ck9_M_66 : Cond.constantLong n_M 66 (6364136223846793005 : Int64) ∈ TB := zmem 633 (by decide +kernel) (by decide +kernel)
theorem ck9_M_68 : Cond.constantLong n_M 68 (1442695040888963407 : Int64) ∈ TB := zmem 634 (by decide +kernel) (by decide +kernel)
theorem ck9_M_97 : Cond.constant n_M 97 (iZ ((100000 : Nat) : Int)) ∈ TB := zmem 705 (by decide +kernel) (by decide +kernel)
theorem sm_arraycopy9 : Cond.static arraycopyName ∈ TB := zmem 441 (by decide +kernel) (by decide +kernel)
theorem nv_arraycopy9 : Cond.native arraycopyName ∈ TB := zmem 442 (by decide +kernel) (by decide +kernel)
theorem z_abs {a : Int} (h : -2147483648 < a ∧ a < 2147483648) : (if 0 ≤ iZ a then iZ a else 0 - iZ a) = iZ ((a.natAbs : Nat) : Int) := by
  rw [show (0 : Int32) = iZ 0 from rfl]
  by_cases q : 0 ≤ a
  · rw [if_pos ((iZ_le z0 (by omega)).mpr q), show ((a.natAbs : Nat) : Int) = a by omega]
  · rw [if_neg (fun z => q ((iZ_le z0 (by omega)).mp z)), iZ_sub, show ((a.natAbs : Nat) : Int) = 0 - a by omega]
theorem z_absL {a : Int} (h : -9223372036854775808 < a ∧ a < 9223372036854775808) : (if 0 < lZ a then lZ a else -lZ a) = lZ ((a.natAbs : Nat) : Int) := by
  rw [show (0 : Int64) = lZ 0 from rfl]
  by_cases q : 0 < a
  · rw [if_pos ((lZ_lt (a := 0) (by omega) (by omega)).mpr q), show ((a.natAbs : Nat) : Int) = a by omega]
  · rw [if_neg (fun z => q ((lZ_lt (a := 0) (by omega) (by omega)).mp z)), lZ_neg, show ((a.natAbs : Nat) : Int) = -a by omega]
end
section
/-! The journal's reading methods. -/
/-- what holds of a journal at all times -/
def JI (J : SJ) : Prop := jn J ≤ 32 ∧ 2 * jk J ≤ jn J ∧ (∀ p, p < jk J → jdh J p < jn J ∧ jph J p < jn J ∧ jsp J p < 4) ∧ (∀ j, jct J j ≤ 1000)
def sDC (J : SJ) (p kd : Nat) : Nat := jct J (jdh J p * 3 + kd)
def sPC (J : SJ) (p kd : Nat) : Nat := jct J (jph J p * 3 + kd)
def sDf (J : SJ) (p kd : Nat) : Int := ((sDC J p kd : Nat) : Int) - ((sPC J p kd : Nat) : Int)
def sKp (J : SJ) (p kd : Nat) : Bool := !(decide (sDC J p kd = 0) && decide (sPC J p kd = 0)) && !(jou J (jsp J p))
def sKd (J : SJ) (p kd : Nat) : Int := if sKp J p kd = true then sDf J p kd else 0
def sOf (J : SJ) (p sh : Nat) : Bool := decide (sh = 4) || decide (jsp J p = sh)
def sKO (J : SJ) (sh kd : Nat) : Nat → Nat
  | 0 => 0
  | i + 1 => sKO J sh kd i + (if (sOf J i sh && sKp J i kd) = true then 1 else 0)
def sSO (J : SJ) (sh kd : Nat) : Nat → Int
  | 0 => 0
  | i + 1 => sSO J sh kd i + (if sOf J i sh = true then sKd J i kd else 0)
def sR1 (J : SJ) (p kd : Nat) (i : Nat) : Nat := if (sKd J i kd).natAbs = (sKd J p kd).natAbs then 1 else if 0 < (sKd J i kd).natAbs ∧ (sKd J i kd).natAbs < (sKd J p kd).natAbs then 2 else 0
def sRs (J : SJ) (p kd : Nat) : Nat → Nat
  | 0 => 1
  | i + 1 => sRs J p kd i + sR1 J p kd i
def sRk (J : SJ) (p kd : Nat) : Nat := if (sKd J p kd).natAbs = 0 then 0 else sRs J p kd (jk J)
theorem sDC_le {J : SJ} (hI : JI J) (p kd : Nat) : sDC J p kd ≤ 1000 := hI.2.2.2 _
theorem sPC_le {J : SJ} (hI : JI J) (p kd : Nat) : sPC J p kd ≤ 1000 := hI.2.2.2 _
theorem sDf_b {J : SJ} (hI : JI J) (p kd : Nat) : -1000 ≤ sDf J p kd ∧ sDf J p kd ≤ 1000 := by
  have h1 := sDC_le hI p kd
  have h2 := sPC_le hI p kd
  unfold sDf
  omega
theorem sKd_b {J : SJ} (hI : JI J) (p kd : Nat) : -1000 ≤ sKd J p kd ∧ sKd J p kd ≤ 1000 := by
  have h := sDf_b hI p kd
  unfold sKd
  split <;> omega
theorem sKO_le {J : SJ} (sh kd i : Nat) : sKO J sh kd i ≤ i := by
  induction i with
  | zero => exact Nat.le_refl 0
  | succ i ih =>
    show sKO J sh kd i + _ ≤ i + 1
    split <;> omega
theorem sSO_b {J : SJ} (hI : JI J) (sh kd i : Nat) : -(1000 * (i : Int)) ≤ sSO J sh kd i ∧ sSO J sh kd i ≤ 1000 * (i : Int) := by
  induction i with
  | zero => exact ⟨by show -(1000 * ((0 : Nat) : Int)) ≤ 0; omega, by show (0 : Int) ≤ 1000 * ((0 : Nat) : Int); omega⟩
  | succ i ih =>
    have h := sKd_b hI i kd
    show -(1000 * ((i + 1 : Nat) : Int)) ≤ sSO J sh kd i + _ ∧ sSO J sh kd i + _ ≤ 1000 * ((i + 1 : Nat) : Int)
    split <;> omega
theorem sR1_le (J : SJ) (p kd i : Nat) : sR1 J p kd i ≤ 2 := by
  unfold sR1
  split
  · omega
  · split <;> omega
theorem sRs_le (J : SJ) (p kd i : Nat) : sRs J p kd i ≤ 1 + 2 * i := by
  induction i with
  | zero => exact Nat.le_refl 1
  | succ i ih =>
    have h := sR1_le J p kd i
    show sRs J p kd i + sR1 J p kd i ≤ _
    omega
theorem bret {a b : Bool} (h : a = b) : some (Value.int (bI a)) = some (Value.int (bI b)) := by rw [h]
theorem iretN {a b : Nat} (h : a = b) : some (Value.int (iZ ((a : Nat) : Int))) = some (Value.int (iZ ((b : Nat) : Int))) := by rw [h]
theorem iretZ {a b : Int} (h : a = b) : some (Value.int (iZ a)) = some (Value.int (iZ b)) := by rw [h]
set_option maxHeartbeats 4000000 in
set_option maxRecDepth 100000 in
theorem k_J_deviceCount {l : Launch} {D : va_G} {ad : Nat → Nat} {cI cZ cL : ClassId} {J : SJ} {rd : Nat → Int} {pr : Nat → Nat} {G : SH} {K : SK} {tl : va_W} (hI : JI J) {pp kd : Nat} (hp : pp < jk J) (hkd : kd < 3) : zMr l TB D classes (tysW cI cZ cL) y_J_deviceCount w_J_deviceCount 0 0 [.ref (ad 1), .int (iZ ((pp : Nat) : Int)), .int (iZ ((kd : Nat) : Int))] (wdC ad cI cZ cL J rd pr G K tl) (some (.int (iZ ((sDC J pp kd : Nat) : Int)))) := by
  refine z_ofR (by decide) (Nat.le_of_ble_eq_true rfl) ?_
  intro p e s m below meth c ls Z hP hK hl
  obtain ⟨hx, hb, hr, hml, hown, hts, hE, hlocks⟩ := id Z
  have hl : lv_has ls 3 [(0, .ref (ad 1)), (1, .int (iZ ((pp : Nat) : Int))), (2, .int (iZ ((kd : Nat) : Int)))] := hl
  obtain ⟨hn32, hk2, hpr, hct⟩ := id hI
  have hp9 := hpr pp hp
  refine lv_aload_n hx hb d_J_deviceCount_0 rfl (lv_at hl 0 rfl) ?_
  refine va_get (D := D) (ci := 1) (v := .ref (ad 5)) (C := n_J) (T := f_J) (N := 10) hx hb hts in_J hown hK hP 1 rfl rfl 6 (by decide) (hts _ fl_J_33) (fun _ h9 => h9) rfl d_J_deviceCount_1 ?_
  refine lv_aload_n hx hb d_J_deviceCount_4 rfl (lv_at hl 0 rfl) ?_
  refine va_get (D := D) (ci := 1) (v := .ref (ad 6)) (C := n_J) (T := f_J) (N := 10) hx hb hts in_J hown hK hP 1 rfl rfl 7 (by decide) (hts _ fl_J_36) (fun _ h9 => h9) rfl d_J_deviceCount_5 ?_
  refine lv_iload_n hx hb d_J_deviceCount_8 rfl (lv_at hl 1 rfl) ?_
  refine z_ialdN (f := jdh J) hx hb hK hP 6 0 rfl rfl (pp) (by omega) d_J_deviceCount_9 ?_
  refine lv_iconst (v := iZ ((3 : Nat) : Int)) hx hb d_J_deviceCount_10 (by decide) ?_
  refine z_imulN (u := (jdh J) (pp)) (v := 3) hx hb d_J_deviceCount_11 ?_
  refine lv_iload_n hx hb d_J_deviceCount_12 rfl (lv_at hl 2 rfl) ?_
  refine z_iaddN (u := ((jdh J) (pp)) * 3) (v := kd) hx hb d_J_deviceCount_13 ?_
  refine z_ialdN (f := jct J) hx hb hK hP 5 0 rfl rfl ((((jdh J) (pp)) * 3) + kd) (by omega) d_J_deviceCount_14 ?_
  exact z_iretR Z d_J_deviceCount_15 (rfl)

set_option maxHeartbeats 4000000 in
set_option maxRecDepth 100000 in
theorem k_J_plainCount {l : Launch} {D : va_G} {ad : Nat → Nat} {cI cZ cL : ClassId} {J : SJ} {rd : Nat → Int} {pr : Nat → Nat} {G : SH} {K : SK} {tl : va_W} (hI : JI J) {pp kd : Nat} (hp : pp < jk J) (hkd : kd < 3) : zMr l TB D classes (tysW cI cZ cL) y_J_plainCount w_J_plainCount 0 0 [.ref (ad 1), .int (iZ ((pp : Nat) : Int)), .int (iZ ((kd : Nat) : Int))] (wdC ad cI cZ cL J rd pr G K tl) (some (.int (iZ ((sPC J pp kd : Nat) : Int)))) := by
  refine z_ofR (by decide) (Nat.le_of_ble_eq_true rfl) ?_
  intro p e s m below meth c ls Z hP hK hl
  obtain ⟨hx, hb, hr, hml, hown, hts, hE, hlocks⟩ := id Z
  have hl : lv_has ls 3 [(0, .ref (ad 1)), (1, .int (iZ ((pp : Nat) : Int))), (2, .int (iZ ((kd : Nat) : Int)))] := hl
  obtain ⟨hn32, hk2, hpr, hct⟩ := id hI
  have hp9 := hpr pp hp
  refine lv_aload_n hx hb d_J_plainCount_0 rfl (lv_at hl 0 rfl) ?_
  refine va_get (D := D) (ci := 1) (v := .ref (ad 5)) (C := n_J) (T := f_J) (N := 10) hx hb hts in_J hown hK hP 1 rfl rfl 6 (by decide) (hts _ fl_J_33) (fun _ h9 => h9) rfl d_J_plainCount_1 ?_
  refine lv_aload_n hx hb d_J_plainCount_4 rfl (lv_at hl 0 rfl) ?_
  refine va_get (D := D) (ci := 1) (v := .ref (ad 7)) (C := n_J) (T := f_J) (N := 10) hx hb hts in_J hown hK hP 1 rfl rfl 8 (by decide) (hts _ fl_J_39) (fun _ h9 => h9) rfl d_J_plainCount_5 ?_
  refine lv_iload_n hx hb d_J_plainCount_8 rfl (lv_at hl 1 rfl) ?_
  refine z_ialdN (f := jph J) hx hb hK hP 7 0 rfl rfl (pp) (by omega) d_J_plainCount_9 ?_
  refine lv_iconst (v := iZ ((3 : Nat) : Int)) hx hb d_J_plainCount_10 (by decide) ?_
  refine z_imulN (u := (jph J) (pp)) (v := 3) hx hb d_J_plainCount_11 ?_
  refine lv_iload_n hx hb d_J_plainCount_12 rfl (lv_at hl 2 rfl) ?_
  refine z_iaddN (u := ((jph J) (pp)) * 3) (v := kd) hx hb d_J_plainCount_13 ?_
  refine z_ialdN (f := jct J) hx hb hK hP 5 0 rfl rfl ((((jph J) (pp)) * 3) + kd) (by omega) d_J_plainCount_14 ?_
  exact z_iretR Z d_J_plainCount_15 (rfl)

set_option maxHeartbeats 4000000 in
set_option maxRecDepth 100000 in
theorem k_J_differenceOf {l : Launch} {D : va_G} {ad : Nat → Nat} {cI cZ cL : ClassId} {J : SJ} {rd : Nat → Int} {pr : Nat → Nat} {G : SH} {K : SK} {tl : va_W} (hI : JI J) {pp kd : Nat} (hp : pp < jk J) (hkd : kd < 3) : zMr l TB D classes (tysW cI cZ cL) y_J_differenceOf w_J_differenceOf 1 22 [.ref (ad 1), .int (iZ ((pp : Nat) : Int)), .int (iZ ((kd : Nat) : Int))] (wdC ad cI cZ cL J rd pr G K tl) (some (.int (iZ (sDf J pp kd)))) := by
  refine z_ofR (by decide) (Nat.le_of_ble_eq_true rfl) ?_
  intro p e s m below meth c ls Z hP hK hl
  obtain ⟨hx, hb, hr, hml, hown, hts, hE, hlocks⟩ := id Z
  have hl : lv_has ls 3 [(0, .ref (ad 1)), (1, .int (iZ ((pp : Nat) : Int))), (2, .int (iZ ((kd : Nat) : Int)))] := hl
  refine lv_aload_n hx hb d_J_differenceOf_0 rfl (lv_at hl 0 rfl) ?_
  refine lv_iload_n hx hb d_J_differenceOf_1 rfl (lv_at hl 1 rfl) ?_
  refine lv_iload_n hx hb d_J_differenceOf_2 rfl (lv_at hl 2 rfl) ?_
  refine z_callVR (As := [.int (iZ ((pp : Nat) : Int)), .int (iZ ((kd : Nat) : Int))]) (rest := []) zTB Z (k_J_deviceCount hI (pp := pp) (kd := kd) (by omega) (by omega)) ⟨ml_J_57, im_J_deviceCount, se_J_deviceCount, ini_J, co_J_deviceCount⟩ zd_J_deviceCount ⟨Nat.le_of_ble_eq_true rfl, Nat.le_of_ble_eq_true rfl⟩ hP hK (ci := 1) (q0 := 1) rfl rfl rfl hl.1 rfl (Nat.le_of_ble_eq_true rfl) d_J_differenceOf_3 ⟨Nat.zero_le _, Nat.zero_le _⟩ ?_
  refine W.eq (g2 := F0 m 6 ls [.int (iZ ((sDC J pp kd : Nat) : Int))]) rfl ?_
  refine lv_aload_n hx hb d_J_differenceOf_6 rfl (lv_at hl 0 rfl) ?_
  refine lv_iload_n hx hb d_J_differenceOf_7 rfl (lv_at hl 1 rfl) ?_
  refine lv_iload_n hx hb d_J_differenceOf_8 rfl (lv_at hl 2 rfl) ?_
  refine z_callVR (As := [.int (iZ ((pp : Nat) : Int)), .int (iZ ((kd : Nat) : Int))]) (rest := [.int (iZ ((sDC J pp kd : Nat) : Int))]) zTB Z (k_J_plainCount hI (pp := pp) (kd := kd) (by omega) (by omega)) ⟨ml_J_61, im_J_plainCount, se_J_plainCount, ini_J, co_J_plainCount⟩ zd_J_plainCount ⟨Nat.le_of_ble_eq_true rfl, Nat.le_of_ble_eq_true rfl⟩ hP hK (ci := 1) (q0 := 1) rfl rfl rfl hl.1 rfl (Nat.le_of_ble_eq_true rfl) d_J_differenceOf_9 ⟨Nat.zero_le _, Nat.zero_le _⟩ ?_
  refine W.eq (g2 := F0 m 12 ls [.int (iZ ((sPC J pp kd : Nat) : Int)), .int (iZ ((sDC J pp kd : Nat) : Int))]) rfl ?_
  refine z_isub (a := ((sDC J pp kd : Nat) : Int)) (b := ((sPC J pp kd : Nat) : Int)) hx hb d_J_differenceOf_12 ?_
  exact z_iretR Z d_J_differenceOf_13 (rfl)

set_option maxHeartbeats 4000000 in
set_option maxRecDepth 100000 in
theorem k_J_keeps {l : Launch} {D : va_G} {ad : Nat → Nat} {cI cZ cL : ClassId} {J : SJ} {rd : Nat → Int} {pr : Nat → Nat} {G : SH} {K : SK} {tl : va_W} (hI : JI J) {pp kd : Nat} (hp : pp < jk J) (hkd : kd < 3) : zMr l TB D classes (tysW cI cZ cL) y_J_keeps w_J_keeps 1 22 [.ref (ad 1), .int (iZ ((pp : Nat) : Int)), .int (iZ ((kd : Nat) : Int))] (wdC ad cI cZ cL J rd pr G K tl) (some (.int (bI (sKp J pp kd)))) := by
  refine z_ofR (by decide) (Nat.le_of_ble_eq_true rfl) ?_
  intro p e s m below meth c ls Z hP hK hl
  obtain ⟨hx, hb, hr, hml, hown, hts, hE, hlocks⟩ := id Z
  have hl : lv_has ls 4 [(0, .ref (ad 1)), (1, .int (iZ ((pp : Nat) : Int))), (2, .int (iZ ((kd : Nat) : Int)))] := hl
  obtain ⟨hn32, hk2, hpr, hct⟩ := id hI
  have hp9 := hpr pp hp
  have h1 := sDC_le hI pp kd
  have h2 := sPC_le hI pp kd
  refine lv_aload_n hx hb d_J_keeps_0 rfl (lv_at hl 0 rfl) ?_
  refine lv_iload_n hx hb d_J_keeps_1 rfl (lv_at hl 1 rfl) ?_
  refine lv_iload_n hx hb d_J_keeps_2 rfl (lv_at hl 2 rfl) ?_
  refine z_callVR (As := [.int (iZ ((pp : Nat) : Int)), .int (iZ ((kd : Nat) : Int))]) (rest := []) zTB Z (k_J_deviceCount hI (pp := pp) (kd := kd) (by omega) (by omega)) ⟨ml_J_57, im_J_deviceCount, se_J_deviceCount, ini_J, co_J_deviceCount⟩ zd_J_deviceCount ⟨Nat.le_of_ble_eq_true rfl, Nat.le_of_ble_eq_true rfl⟩ hP hK (ci := 1) (q0 := 1) rfl rfl rfl hl.1 rfl (Nat.le_of_ble_eq_true rfl) d_J_keeps_3 ⟨Nat.zero_le _, Nat.zero_le _⟩ ?_
  refine W.eq (g2 := F0 m 6 ls [.int (iZ ((sDC J pp kd : Nat) : Int))]) rfl ?_
  refine z_if_ne (a := ((sDC J pp kd : Nat) : Int)) (tgt := 22) hx hb (by omega) d_J_keeps_6 (by decide) (fun q6 => ?_) (fun q6 => ?_)
  · skip
    refine lv_iconst (v := iZ ((0 : Nat) : Int)) hx hb d_J_keeps_22 (by decide) ?_
    refine lv_istore_n (lv' := [(3, .int (iZ ((0 : Nat) : Int))), (0, .ref (ad 1)), (1, .int (iZ ((pp : Nat) : Int))), (2, .int (iZ ((kd : Nat) : Int)))]) hx hb d_J_keeps_23 rfl hl (by decide) rfl (fun ls hl => ?_)
    refine lv_iload_n hx hb d_J_keeps_24 rfl (lv_at hl 0 rfl) ?_
    refine z_if_ne (a := ((0 : Nat) : Int)) (tgt := 46) hx hb (by omega) d_J_keeps_25 (by decide) (fun q25 => ?_) (fun q25 => ?_)
    · skip
      exfalso; omega
    · skip
      refine lv_aload_n hx hb d_J_keeps_28 rfl (lv_at hl 1 rfl) ?_
      refine va_get (D := D) (ci := 1) (v := .ref (ad 3)) (C := n_J) (T := f_J) (N := 10) hx hb hts in_J hown hK hP 1 rfl rfl 4 (by decide) (hts _ fl_J_26) (fun _ h9 => h9) rfl d_J_keeps_29 ?_
      refine lv_aload_n hx hb d_J_keeps_32 rfl (lv_at hl 1 rfl) ?_
      refine va_get (D := D) (ci := 1) (v := .ref (ad 8)) (C := n_J) (T := f_J) (N := 10) hx hb hts in_J hown hK hP 1 rfl rfl 9 (by decide) (hts _ fl_J_42) (fun _ h9 => h9) rfl d_J_keeps_33 ?_
      refine lv_iload_n hx hb d_J_keeps_36 rfl (lv_at hl 2 rfl) ?_
      refine z_ialdN (f := jsp J) hx hb hK hP 8 0 rfl rfl (pp) (by omega) d_J_keeps_37 ?_
      refine z_zald (f := jou J) hx hb hK hP 3 1 rfl rfl ((jsp J) (pp)) (by omega) d_J_keeps_38 ?_
      refine z_if_neB (b := (jou J) ((jsp J) (pp))) (tgt := 46) hx hb d_J_keeps_39 (by decide) (fun q39 => ?_) (fun q39 => ?_)
      · skip
        refine lv_iconst (v := iZ ((0 : Nat) : Int)) hx hb d_J_keeps_46 (by decide) ?_
        refine W.eq (g2 := F0 m 47 ls [.int (bI false)]) rfl ?_
        exact z_zretR Z d_J_keeps_47 (bret (by simp_all [sKp]))
      · skip
        refine lv_iconst (v := iZ ((1 : Nat) : Int)) hx hb d_J_keeps_42 (by decide) ?_
        refine lv_goto (tgt := 47) hx hb d_J_keeps_43 (by decide) ?_
        refine W.eq (g2 := F0 m 47 ls [.int (bI true)]) rfl ?_
        exact z_zretR Z d_J_keeps_47 (bret (by simp_all [sKp]))
  · skip
    refine lv_aload_n hx hb d_J_keeps_9 rfl (lv_at hl 0 rfl) ?_
    refine lv_iload_n hx hb d_J_keeps_10 rfl (lv_at hl 1 rfl) ?_
    refine lv_iload_n hx hb d_J_keeps_11 rfl (lv_at hl 2 rfl) ?_
    refine z_callVR (As := [.int (iZ ((pp : Nat) : Int)), .int (iZ ((kd : Nat) : Int))]) (rest := []) zTB Z (k_J_plainCount hI (pp := pp) (kd := kd) (by omega) (by omega)) ⟨ml_J_61, im_J_plainCount, se_J_plainCount, ini_J, co_J_plainCount⟩ zd_J_plainCount ⟨Nat.le_of_ble_eq_true rfl, Nat.le_of_ble_eq_true rfl⟩ hP hK (ci := 1) (q0 := 1) rfl rfl rfl hl.1 rfl (Nat.le_of_ble_eq_true rfl) d_J_keeps_12 ⟨Nat.zero_le _, Nat.zero_le _⟩ ?_
    refine W.eq (g2 := F0 m 15 ls [.int (iZ ((sPC J pp kd : Nat) : Int))]) rfl ?_
    refine z_if_ne (a := ((sPC J pp kd : Nat) : Int)) (tgt := 22) hx hb (by omega) d_J_keeps_15 (by decide) (fun q15 => ?_) (fun q15 => ?_)
    · skip
      refine lv_iconst (v := iZ ((0 : Nat) : Int)) hx hb d_J_keeps_22 (by decide) ?_
      refine lv_istore_n (lv' := [(3, .int (iZ ((0 : Nat) : Int))), (0, .ref (ad 1)), (1, .int (iZ ((pp : Nat) : Int))), (2, .int (iZ ((kd : Nat) : Int)))]) hx hb d_J_keeps_23 rfl hl (by decide) rfl (fun ls hl => ?_)
      refine lv_iload_n hx hb d_J_keeps_24 rfl (lv_at hl 0 rfl) ?_
      refine z_if_ne (a := ((0 : Nat) : Int)) (tgt := 46) hx hb (by omega) d_J_keeps_25 (by decide) (fun q25 => ?_) (fun q25 => ?_)
      · skip
        exfalso; omega
      · skip
        refine lv_aload_n hx hb d_J_keeps_28 rfl (lv_at hl 1 rfl) ?_
        refine va_get (D := D) (ci := 1) (v := .ref (ad 3)) (C := n_J) (T := f_J) (N := 10) hx hb hts in_J hown hK hP 1 rfl rfl 4 (by decide) (hts _ fl_J_26) (fun _ h9 => h9) rfl d_J_keeps_29 ?_
        refine lv_aload_n hx hb d_J_keeps_32 rfl (lv_at hl 1 rfl) ?_
        refine va_get (D := D) (ci := 1) (v := .ref (ad 8)) (C := n_J) (T := f_J) (N := 10) hx hb hts in_J hown hK hP 1 rfl rfl 9 (by decide) (hts _ fl_J_42) (fun _ h9 => h9) rfl d_J_keeps_33 ?_
        refine lv_iload_n hx hb d_J_keeps_36 rfl (lv_at hl 2 rfl) ?_
        refine z_ialdN (f := jsp J) hx hb hK hP 8 0 rfl rfl (pp) (by omega) d_J_keeps_37 ?_
        refine z_zald (f := jou J) hx hb hK hP 3 1 rfl rfl ((jsp J) (pp)) (by omega) d_J_keeps_38 ?_
        refine z_if_neB (b := (jou J) ((jsp J) (pp))) (tgt := 46) hx hb d_J_keeps_39 (by decide) (fun q39 => ?_) (fun q39 => ?_)
        · skip
          refine lv_iconst (v := iZ ((0 : Nat) : Int)) hx hb d_J_keeps_46 (by decide) ?_
          refine W.eq (g2 := F0 m 47 ls [.int (bI false)]) rfl ?_
          exact z_zretR Z d_J_keeps_47 (bret (by simp_all [sKp]))
        · skip
          refine lv_iconst (v := iZ ((1 : Nat) : Int)) hx hb d_J_keeps_42 (by decide) ?_
          refine lv_goto (tgt := 47) hx hb d_J_keeps_43 (by decide) ?_
          refine W.eq (g2 := F0 m 47 ls [.int (bI true)]) rfl ?_
          exact z_zretR Z d_J_keeps_47 (bret (by simp_all [sKp]))
    · skip
      refine lv_iconst (v := iZ ((1 : Nat) : Int)) hx hb d_J_keeps_18 (by decide) ?_
      refine lv_goto (tgt := 23) hx hb d_J_keeps_19 (by decide) ?_
      refine lv_istore_n (lv' := [(3, .int (iZ ((1 : Nat) : Int))), (0, .ref (ad 1)), (1, .int (iZ ((pp : Nat) : Int))), (2, .int (iZ ((kd : Nat) : Int)))]) hx hb d_J_keeps_23 rfl hl (by decide) rfl (fun ls hl => ?_)
      refine lv_iload_n hx hb d_J_keeps_24 rfl (lv_at hl 0 rfl) ?_
      refine z_if_ne (a := ((1 : Nat) : Int)) (tgt := 46) hx hb (by omega) d_J_keeps_25 (by decide) (fun q25 => ?_) (fun q25 => ?_)
      · skip
        refine lv_iconst (v := iZ ((0 : Nat) : Int)) hx hb d_J_keeps_46 (by decide) ?_
        refine W.eq (g2 := F0 m 47 ls [.int (bI false)]) rfl ?_
        exact z_zretR Z d_J_keeps_47 (bret (by simp_all [sKp]))
      · skip
        exfalso; omega

set_option maxHeartbeats 4000000 in
set_option maxRecDepth 100000 in
theorem k_J_keptDifference {l : Launch} {D : va_G} {ad : Nat → Nat} {cI cZ cL : ClassId} {J : SJ} {rd : Nat → Int} {pr : Nat → Nat} {G : SH} {K : SK} {tl : va_W} (hI : JI J) {pp kd : Nat} (hp : pp < jk J) (hkd : kd < 3) : zMr l TB D classes (tysW cI cZ cL) y_J_keptDifference w_J_keptDifference 2 45 [.ref (ad 1), .int (iZ ((pp : Nat) : Int)), .int (iZ ((kd : Nat) : Int))] (wdC ad cI cZ cL J rd pr G K tl) (some (.int (iZ (sKd J pp kd)))) := by
  refine z_ofR (by decide) (Nat.le_of_ble_eq_true rfl) ?_
  intro p e s m below meth c ls Z hP hK hl
  obtain ⟨hx, hb, hr, hml, hown, hts, hE, hlocks⟩ := id Z
  have hl : lv_has ls 3 [(0, .ref (ad 1)), (1, .int (iZ ((pp : Nat) : Int))), (2, .int (iZ ((kd : Nat) : Int)))] := hl
  refine lv_aload_n hx hb d_J_keptDifference_0 rfl (lv_at hl 0 rfl) ?_
  refine lv_iload_n hx hb d_J_keptDifference_1 rfl (lv_at hl 1 rfl) ?_
  refine lv_iload_n hx hb d_J_keptDifference_2 rfl (lv_at hl 2 rfl) ?_
  refine z_callVR (As := [.int (iZ ((pp : Nat) : Int)), .int (iZ ((kd : Nat) : Int))]) (rest := []) zTB Z (k_J_keeps hI (pp := pp) (kd := kd) (by omega) (by omega)) ⟨ml_J_64, im_J_keeps, se_J_keeps, ini_J, co_J_keeps⟩ zd_J_keeps ⟨Nat.le_of_ble_eq_true rfl, Nat.le_of_ble_eq_true rfl⟩ hP hK (ci := 1) (q0 := 1) rfl rfl rfl hl.1 rfl (Nat.le_of_ble_eq_true rfl) d_J_keptDifference_3 ⟨Nat.zero_le _, Nat.zero_le _⟩ ?_
  refine W.eq (g2 := F0 m 6 ls [.int (bI (sKp J pp kd))]) rfl ?_
  refine z_if_eqB (b := sKp J pp kd) (tgt := 18) hx hb d_J_keptDifference_6 (by decide) (fun q6 => ?_) (fun q6 => ?_)
  · skip
    refine lv_iconst (v := iZ ((0 : Nat) : Int)) hx hb d_J_keptDifference_18 (by decide) ?_
    exact z_iretR Z d_J_keptDifference_19 (iretZ (by simp [sKd, q6]))
  · skip
    refine lv_aload_n hx hb d_J_keptDifference_9 rfl (lv_at hl 0 rfl) ?_
    refine lv_iload_n hx hb d_J_keptDifference_10 rfl (lv_at hl 1 rfl) ?_
    refine lv_iload_n hx hb d_J_keptDifference_11 rfl (lv_at hl 2 rfl) ?_
    refine z_callVR (As := [.int (iZ ((pp : Nat) : Int)), .int (iZ ((kd : Nat) : Int))]) (rest := []) zTB Z (k_J_differenceOf hI (pp := pp) (kd := kd) (by omega) (by omega)) ⟨ml_J_68, im_J_differenceOf, se_J_differenceOf, ini_J, co_J_differenceOf⟩ zd_J_differenceOf ⟨Nat.le_of_ble_eq_true rfl, Nat.le_of_ble_eq_true rfl⟩ hP hK (ci := 1) (q0 := 1) rfl rfl rfl hl.1 rfl (Nat.le_of_ble_eq_true rfl) d_J_keptDifference_12 ⟨Nat.zero_le _, Nat.zero_le _⟩ ?_
    refine W.eq (g2 := F0 m 15 ls [.int (iZ (sDf J pp kd))]) rfl ?_
    refine lv_goto (tgt := 19) hx hb d_J_keptDifference_15 (by decide) ?_
    exact z_iretR Z d_J_keptDifference_19 (iretZ (by simp [sKd, q6]))

set_option maxHeartbeats 4000000 in
set_option maxRecDepth 100000 in
theorem k_J_isOf {l : Launch} {D : va_G} {ad : Nat → Nat} {cI cZ cL : ClassId} {J : SJ} {rd : Nat → Int} {pr : Nat → Nat} {G : SH} {K : SK} {tl : va_W} (hI : JI J) {pp sh : Nat} (hp : pp < jk J) (hsh : sh ≤ 4) : zMr l TB D classes (tysW cI cZ cL) y_J_isOf w_J_isOf 0 0 [.ref (ad 1), .int (iZ ((pp : Nat) : Int)), .int (iZ ((sh : Nat) : Int))] (wdC ad cI cZ cL J rd pr G K tl) (some (.int (bI (sOf J pp sh)))) := by
  refine z_ofR (by decide) (Nat.le_of_ble_eq_true rfl) ?_
  intro p e s m below meth c ls Z hP hK hl
  obtain ⟨hx, hb, hr, hml, hown, hts, hE, hlocks⟩ := id Z
  have hl : lv_has ls 3 [(0, .ref (ad 1)), (1, .int (iZ ((pp : Nat) : Int))), (2, .int (iZ ((sh : Nat) : Int)))] := hl
  obtain ⟨hn32, hk2, hpr, hct⟩ := id hI
  have hp9 := hpr pp hp
  refine lv_iload_n hx hb d_J_isOf_0 rfl (lv_at hl 2 rfl) ?_
  refine lv_iconst (v := iZ ((4 : Nat) : Int)) hx hb d_J_isOf_1 (by decide) ?_
  refine z_icmp_eq (a := ((sh : Nat) : Int)) (b := ((4 : Nat) : Int)) (tgt := 15) hx hb (by omega) d_J_isOf_2 (by decide) (fun q2 => ?_) (fun q2 => ?_)
  · skip
    refine lv_iconst (v := iZ ((1 : Nat) : Int)) hx hb d_J_isOf_15 (by decide) ?_
    refine lv_goto (tgt := 20) hx hb d_J_isOf_16 (by decide) ?_
    refine W.eq (g2 := F0 m 20 ls [.int (bI true)]) rfl ?_
    exact z_zretR Z d_J_isOf_20 (bret (by simp_all [sOf] <;> omega))
  · skip
    refine lv_aload_n hx hb d_J_isOf_5 rfl (lv_at hl 0 rfl) ?_
    refine va_get (D := D) (ci := 1) (v := .ref (ad 8)) (C := n_J) (T := f_J) (N := 10) hx hb hts in_J hown hK hP 1 rfl rfl 9 (by decide) (hts _ fl_J_42) (fun _ h9 => h9) rfl d_J_isOf_6 ?_
    refine lv_iload_n hx hb d_J_isOf_9 rfl (lv_at hl 1 rfl) ?_
    refine z_ialdN (f := jsp J) hx hb hK hP 8 0 rfl rfl (pp) (by omega) d_J_isOf_10 ?_
    refine lv_iload_n hx hb d_J_isOf_11 rfl (lv_at hl 2 rfl) ?_
    refine z_icmp_ne (a := (((jsp J) (pp) : Nat) : Int)) (b := ((sh : Nat) : Int)) (tgt := 19) hx hb (by omega) d_J_isOf_12 (by decide) (fun q12 => ?_) (fun q12 => ?_)
    · skip
      refine lv_iconst (v := iZ ((0 : Nat) : Int)) hx hb d_J_isOf_19 (by decide) ?_
      refine W.eq (g2 := F0 m 20 ls [.int (bI false)]) rfl ?_
      exact z_zretR Z d_J_isOf_20 (bret (by simp_all [sOf] <;> omega))
    · skip
      refine lv_iconst (v := iZ ((1 : Nat) : Int)) hx hb d_J_isOf_15 (by decide) ?_
      refine lv_goto (tgt := 20) hx hb d_J_isOf_16 (by decide) ?_
      refine W.eq (g2 := F0 m 20 ls [.int (bI true)]) rfl ?_
      exact z_zretR Z d_J_isOf_20 (bret (by simp_all [sOf] <;> omega))

set_option maxHeartbeats 4000000 in
set_option maxRecDepth 100000 in
theorem k_J_keptOf {l : Launch} {D : va_G} {ad : Nat → Nat} {cI cZ cL : ClassId} {J : SJ} {rd : Nat → Int} {pr : Nat → Nat} {G : SH} {K : SK} {tl : va_W} (hI : JI J) {sh kd : Nat} (hsh : sh ≤ 4) (hkd : kd < 3) : zMr l TB D classes (tysW cI cZ cL) y_J_keptOf w_J_keptOf 2 45 [.ref (ad 1), .int (iZ ((sh : Nat) : Int)), .int (iZ ((kd : Nat) : Int))] (wdC ad cI cZ cL J rd pr G K tl) (some (.int (iZ ((sKO J sh kd (jk J) : Nat) : Int)))) := by
  refine z_ofR (by decide) (Nat.le_of_ble_eq_true rfl) ?_
  intro p e s m below meth c ls Z hP hK hl
  obtain ⟨hx, hb, hr, hml, hown, hts, hE, hlocks⟩ := id Z
  have hl : lv_has ls 5 [(0, .ref (ad 1)), (1, .int (iZ ((sh : Nat) : Int))), (2, .int (iZ ((kd : Nat) : Int)))] := hl
  obtain ⟨hn32, hk2, hpr, hct⟩ := id hI
  refine lv_iconst (v := iZ ((0 : Nat) : Int)) hx hb d_J_keptOf_0 (by decide) ?_
  refine lv_istore_n (lv' := [(3, .int (iZ ((0 : Nat) : Int))), (0, .ref (ad 1)), (1, .int (iZ ((sh : Nat) : Int))), (2, .int (iZ ((kd : Nat) : Int)))]) hx hb d_J_keptOf_1 rfl hl (by decide) rfl (fun ls hl => ?_)
  refine lv_iconst (v := iZ ((0 : Nat) : Int)) hx hb d_J_keptOf_2 (by decide) ?_
  refine lv_istore (lv' := [(4, .int (iZ ((0 : Nat) : Int))), (3, .int (iZ ((0 : Nat) : Int))), (0, .ref (ad 1)), (1, .int (iZ ((sh : Nat) : Int))), (2, .int (iZ ((kd : Nat) : Int)))]) hx hb d_J_keptOf_3 hl (by decide) rfl (fun ls hl => ?_)
  have L5 : ∀ (N5 : Nat) (i : Nat) (ls : Array Slot), (i ≤ jk J) → jk J - i < N5 → lv_has ls 5 [(0, .ref (ad 1)), (1, .int (iZ ((sh : Nat) : Int))), (2, .int (iZ ((kd : Nat) : Int))), (3, .int (iZ ((sKO J sh kd i : Nat) : Int))), (4, .int (iZ ((i : Nat) : Int)))] → W p l e (zRm 2 45) s m ([.ref (ad 1), .int (iZ ((sh : Nat) : Int)), .int (iZ ((kd : Nat) : Int))] : List Value).toArray below meth c s.heap [] 0 0 (MQ below (zQr (some (.int (iZ ((sKO J sh kd (jk J) : Nat) : Int))))) ([.ref (ad 1), .int (iZ ((sh : Nat) : Int)), .int (iZ ((kd : Nat) : Int))] : List Value).toArray s 0 0 (fun _ => False)) (F0 m 5 ls []) := by
    intro N5
    induction N5 with
    | zero =>
      intro i ls hi hN5 hl
      exact absurd hN5 (Nat.not_lt_zero _)
    | succ N5 ih5 =>
      intro i ls hi hN5 hl
      have hle := sKO_le (J := J) sh kd i
      refine lv_iload hx hb d_J_keptOf_5 (lv_at hl 4 rfl) ?_
      refine lv_aload_n hx hb d_J_keptOf_7 rfl (lv_at hl 0 rfl) ?_
      refine va_get (D := D) (ci := 1) (v := .int (iZ ((jk J : Nat) : Int))) (C := n_J) (T := f_J) (N := 10) hx hb hts in_J hown hK hP 1 rfl rfl 2 (by decide) (hts _ fl_J_19) (fun _ h9 => h9) rfl d_J_keptOf_8 ?_
      refine z_icmp_ge (a := ((i : Nat) : Int)) (b := ((jk J : Nat) : Int)) (tgt := 43) hx hb (by omega) d_J_keptOf_11 (by decide) (fun q11 => ?_) (fun q11 => ?_)
      · skip
        refine lv_iload_n hx hb d_J_keptOf_43 rfl (lv_at hl 3 rfl) ?_
        exact z_iretR Z d_J_keptOf_44 (iretN (by rw [show i = jk J by omega]))
      · skip
        refine lv_aload_n hx hb d_J_keptOf_14 rfl (lv_at hl 0 rfl) ?_
        refine lv_iload hx hb d_J_keptOf_15 (lv_at hl 4 rfl) ?_
        refine lv_iload_n hx hb d_J_keptOf_17 rfl (lv_at hl 1 rfl) ?_
        refine z_callVR (As := [.int (iZ ((i : Nat) : Int)), .int (iZ ((sh : Nat) : Int))]) (rest := []) zTB Z (k_J_isOf hI (pp := i) (sh := sh) (by omega) (by omega)) ⟨ml_J_71, im_J_isOf, se_J_isOf, ini_J, co_J_isOf⟩ zd_J_isOf ⟨Nat.le_of_ble_eq_true rfl, Nat.le_of_ble_eq_true rfl⟩ hP hK (ci := 1) (q0 := 1) rfl rfl rfl hl.1 rfl (Nat.le_of_ble_eq_true rfl) d_J_keptOf_18 ⟨Nat.zero_le _, Nat.zero_le _⟩ ?_
        refine W.eq (g2 := F0 m 21 ls [.int (bI (sOf J i sh))]) rfl ?_
        refine z_if_eqB (b := sOf J i sh) (tgt := 37) hx hb d_J_keptOf_21 (by decide) (fun q21 => ?_) (fun q21 => ?_)
        · skip
          refine lv_iinc (v := iZ ((i + 1 : Nat) : Int)) (lv' := [(4, .int (iZ ((i + 1 : Nat) : Int))), (0, .ref (ad 1)), (1, .int (iZ ((sh : Nat) : Int))), (2, .int (iZ ((kd : Nat) : Int))), (3, .int (iZ ((sKO J sh kd i : Nat) : Int)))]) hx hb d_J_keptOf_37 hl (k := 4) rfl (iZ_inc (i) 1) (by decide) rfl (fun ls hl => ?_)
          refine lv_goto (tgt := 5) hx hb d_J_keptOf_40 (by decide) ?_
          exact ih5 (i + 1) ls (by omega) (by omega) (lv_sub hl [1, 2, 3, 4, 0] (by rw [show (sKO J sh kd (i + 1)) = (sKO J sh kd i) from by simp [sKO, q11, q21]]; rfl))
        · skip
          refine lv_aload_n hx hb d_J_keptOf_24 rfl (lv_at hl 0 rfl) ?_
          refine lv_iload hx hb d_J_keptOf_25 (lv_at hl 4 rfl) ?_
          refine lv_iload_n hx hb d_J_keptOf_27 rfl (lv_at hl 2 rfl) ?_
          refine z_callVR (As := [.int (iZ ((i : Nat) : Int)), .int (iZ ((kd : Nat) : Int))]) (rest := []) zTB Z (k_J_keeps hI (pp := i) (kd := kd) (by omega) (by omega)) ⟨ml_J_64, im_J_keeps, se_J_keeps, ini_J, co_J_keeps⟩ zd_J_keeps ⟨Nat.le_of_ble_eq_true rfl, Nat.le_of_ble_eq_true rfl⟩ hP hK (ci := 1) (q0 := 1) rfl rfl rfl hl.1 rfl (Nat.le_of_ble_eq_true rfl) d_J_keptOf_28 ⟨Nat.zero_le _, Nat.zero_le _⟩ ?_
          refine W.eq (g2 := F0 m 31 ls [.int (bI (sKp J i kd))]) rfl ?_
          refine z_if_eqB (b := sKp J i kd) (tgt := 37) hx hb d_J_keptOf_31 (by decide) (fun q31 => ?_) (fun q31 => ?_)
          · skip
            refine lv_iinc (v := iZ ((i + 1 : Nat) : Int)) (lv' := [(4, .int (iZ ((i + 1 : Nat) : Int))), (0, .ref (ad 1)), (1, .int (iZ ((sh : Nat) : Int))), (2, .int (iZ ((kd : Nat) : Int))), (3, .int (iZ ((sKO J sh kd i : Nat) : Int)))]) hx hb d_J_keptOf_37 hl (k := 4) rfl (iZ_inc (i) 1) (by decide) rfl (fun ls hl => ?_)
            refine lv_goto (tgt := 5) hx hb d_J_keptOf_40 (by decide) ?_
            exact ih5 (i + 1) ls (by omega) (by omega) (lv_sub hl [1, 2, 3, 4, 0] (by rw [show (sKO J sh kd (i + 1)) = (sKO J sh kd i) from by simp [sKO, q11, q21, q31]]; rfl))
          · skip
            refine lv_iinc (v := iZ ((sKO J sh kd i + 1 : Nat) : Int)) (lv' := [(3, .int (iZ ((sKO J sh kd i + 1 : Nat) : Int))), (0, .ref (ad 1)), (1, .int (iZ ((sh : Nat) : Int))), (2, .int (iZ ((kd : Nat) : Int))), (4, .int (iZ ((i : Nat) : Int)))]) hx hb d_J_keptOf_34 hl (k := 3) rfl (iZ_inc (sKO J sh kd i) 1) (by decide) rfl (fun ls hl => ?_)
            refine lv_iinc (v := iZ ((i + 1 : Nat) : Int)) (lv' := [(4, .int (iZ ((i + 1 : Nat) : Int))), (3, .int (iZ ((sKO J sh kd i + 1 : Nat) : Int))), (0, .ref (ad 1)), (1, .int (iZ ((sh : Nat) : Int))), (2, .int (iZ ((kd : Nat) : Int)))]) hx hb d_J_keptOf_37 hl (k := 4) rfl (iZ_inc (i) 1) (by decide) rfl (fun ls hl => ?_)
            refine lv_goto (tgt := 5) hx hb d_J_keptOf_40 (by decide) ?_
            exact ih5 (i + 1) ls (by omega) (by omega) (lv_sub hl [2, 3, 4, 1, 0] (by rw [show (sKO J sh kd (i + 1)) = (sKO J sh kd i + 1) from by simp [sKO, q11, q21, q31]]; rfl))
  exact L5 (jk J - 0 + 1) 0 ls (Nat.zero_le _) (by omega) (lv_sub hl [2, 3, 4, 1, 0] rfl)

set_option maxHeartbeats 4000000 in
set_option maxRecDepth 100000 in
theorem k_J_sumOf {l : Launch} {D : va_G} {ad : Nat → Nat} {cI cZ cL : ClassId} {J : SJ} {rd : Nat → Int} {pr : Nat → Nat} {G : SH} {K : SK} {tl : va_W} (hI : JI J) {sh kd : Nat} (hsh : sh ≤ 4) (hkd : kd < 3) : zMr l TB D classes (tysW cI cZ cL) y_J_sumOf w_J_sumOf 3 67 [.ref (ad 1), .int (iZ ((sh : Nat) : Int)), .int (iZ ((kd : Nat) : Int))] (wdC ad cI cZ cL J rd pr G K tl) (some (.int (iZ (sSO J sh kd (jk J))))) := by
  refine z_ofR (by decide) (Nat.le_of_ble_eq_true rfl) ?_
  intro p e s m below meth c ls Z hP hK hl
  obtain ⟨hx, hb, hr, hml, hown, hts, hE, hlocks⟩ := id Z
  have hl : lv_has ls 5 [(0, .ref (ad 1)), (1, .int (iZ ((sh : Nat) : Int))), (2, .int (iZ ((kd : Nat) : Int)))] := hl
  obtain ⟨hn32, hk2, hpr, hct⟩ := id hI
  refine lv_iconst (v := iZ ((0 : Nat) : Int)) hx hb d_J_sumOf_0 (by decide) ?_
  refine lv_istore_n (lv' := [(3, .int (iZ ((0 : Nat) : Int))), (0, .ref (ad 1)), (1, .int (iZ ((sh : Nat) : Int))), (2, .int (iZ ((kd : Nat) : Int)))]) hx hb d_J_sumOf_1 rfl hl (by decide) rfl (fun ls hl => ?_)
  refine lv_iconst (v := iZ ((0 : Nat) : Int)) hx hb d_J_sumOf_2 (by decide) ?_
  refine lv_istore (lv' := [(4, .int (iZ ((0 : Nat) : Int))), (3, .int (iZ ((0 : Nat) : Int))), (0, .ref (ad 1)), (1, .int (iZ ((sh : Nat) : Int))), (2, .int (iZ ((kd : Nat) : Int)))]) hx hb d_J_sumOf_3 hl (by decide) rfl (fun ls hl => ?_)
  have L5 : ∀ (N5 : Nat) (i : Nat) (ls : Array Slot), (i ≤ jk J) → jk J - i < N5 → lv_has ls 5 [(0, .ref (ad 1)), (1, .int (iZ ((sh : Nat) : Int))), (2, .int (iZ ((kd : Nat) : Int))), (3, .int (iZ (sSO J sh kd i))), (4, .int (iZ ((i : Nat) : Int)))] → W p l e (zRm 3 67) s m ([.ref (ad 1), .int (iZ ((sh : Nat) : Int)), .int (iZ ((kd : Nat) : Int))] : List Value).toArray below meth c s.heap [] 0 0 (MQ below (zQr (some (.int (iZ (sSO J sh kd (jk J)))))) ([.ref (ad 1), .int (iZ ((sh : Nat) : Int)), .int (iZ ((kd : Nat) : Int))] : List Value).toArray s 0 0 (fun _ => False)) (F0 m 5 ls []) := by
    intro N5
    induction N5 with
    | zero =>
      intro i ls hi hN5 hl
      exact absurd hN5 (Nat.not_lt_zero _)
    | succ N5 ih5 =>
      intro i ls hi hN5 hl
      have hle := sSO_b hI sh kd i
      refine lv_iload hx hb d_J_sumOf_5 (lv_at hl 4 rfl) ?_
      refine lv_aload_n hx hb d_J_sumOf_7 rfl (lv_at hl 0 rfl) ?_
      refine va_get (D := D) (ci := 1) (v := .int (iZ ((jk J : Nat) : Int))) (C := n_J) (T := f_J) (N := 10) hx hb hts in_J hown hK hP 1 rfl rfl 2 (by decide) (hts _ fl_J_19) (fun _ h9 => h9) rfl d_J_sumOf_8 ?_
      refine z_icmp_ge (a := ((i : Nat) : Int)) (b := ((jk J : Nat) : Int)) (tgt := 40) hx hb (by omega) d_J_sumOf_11 (by decide) (fun q11 => ?_) (fun q11 => ?_)
      · skip
        refine lv_iload_n hx hb d_J_sumOf_40 rfl (lv_at hl 3 rfl) ?_
        exact z_iretR Z d_J_sumOf_41 (iretZ (by rw [show i = jk J by omega]))
      · skip
        refine lv_aload_n hx hb d_J_sumOf_14 rfl (lv_at hl 0 rfl) ?_
        refine lv_iload hx hb d_J_sumOf_15 (lv_at hl 4 rfl) ?_
        refine lv_iload_n hx hb d_J_sumOf_17 rfl (lv_at hl 1 rfl) ?_
        refine z_callVR (As := [.int (iZ ((i : Nat) : Int)), .int (iZ ((sh : Nat) : Int))]) (rest := []) zTB Z (k_J_isOf hI (pp := i) (sh := sh) (by omega) (by omega)) ⟨ml_J_71, im_J_isOf, se_J_isOf, ini_J, co_J_isOf⟩ zd_J_isOf ⟨Nat.le_of_ble_eq_true rfl, Nat.le_of_ble_eq_true rfl⟩ hP hK (ci := 1) (q0 := 1) rfl rfl rfl hl.1 rfl (Nat.le_of_ble_eq_true rfl) d_J_sumOf_18 ⟨Nat.zero_le _, Nat.zero_le _⟩ ?_
        refine W.eq (g2 := F0 m 21 ls [.int (bI (sOf J i sh))]) rfl ?_
        refine z_if_eqB (b := sOf J i sh) (tgt := 34) hx hb d_J_sumOf_21 (by decide) (fun q21 => ?_) (fun q21 => ?_)
        · skip
          refine lv_iinc (v := iZ ((i + 1 : Nat) : Int)) (lv' := [(4, .int (iZ ((i + 1 : Nat) : Int))), (0, .ref (ad 1)), (1, .int (iZ ((sh : Nat) : Int))), (2, .int (iZ ((kd : Nat) : Int))), (3, .int (iZ (sSO J sh kd i)))]) hx hb d_J_sumOf_34 hl (k := 4) rfl (iZ_inc (i) 1) (by decide) rfl (fun ls hl => ?_)
          refine lv_goto (tgt := 5) hx hb d_J_sumOf_37 (by decide) ?_
          exact ih5 (i + 1) ls (by omega) (by omega) (lv_sub hl [1, 2, 3, 4, 0] (by rw [show (sSO J sh kd (i + 1)) = (sSO J sh kd i) from by simp [sSO, q11, q21]]; rfl))
        · skip
          refine lv_iload_n hx hb d_J_sumOf_24 rfl (lv_at hl 3 rfl) ?_
          refine lv_aload_n hx hb d_J_sumOf_25 rfl (lv_at hl 0 rfl) ?_
          refine lv_iload hx hb d_J_sumOf_26 (lv_at hl 4 rfl) ?_
          refine lv_iload_n hx hb d_J_sumOf_28 rfl (lv_at hl 2 rfl) ?_
          refine z_callVR (As := [.int (iZ ((i : Nat) : Int)), .int (iZ ((kd : Nat) : Int))]) (rest := [.int (iZ (sSO J sh kd i))]) zTB Z (k_J_keptDifference hI (pp := i) (kd := kd) (by omega) (by omega)) ⟨ml_J_74, im_J_keptDifference, se_J_keptDifference, ini_J, co_J_keptDifference⟩ zd_J_keptDifference ⟨Nat.le_of_ble_eq_true rfl, Nat.le_of_ble_eq_true rfl⟩ hP hK (ci := 1) (q0 := 1) rfl rfl rfl hl.1 rfl (Nat.le_of_ble_eq_true rfl) d_J_sumOf_29 ⟨Nat.zero_le _, Nat.zero_le _⟩ ?_
          refine W.eq (g2 := F0 m 32 ls [.int (iZ (sKd J i kd)), .int (iZ (sSO J sh kd i))]) rfl ?_
          refine z_iadd (a := sSO J sh kd i) (b := sKd J i kd) hx hb d_J_sumOf_32 ?_
          refine lv_istore_n (lv' := [(3, .int (iZ ((sSO J sh kd i) + (sKd J i kd)))), (0, .ref (ad 1)), (1, .int (iZ ((sh : Nat) : Int))), (2, .int (iZ ((kd : Nat) : Int))), (4, .int (iZ ((i : Nat) : Int)))]) hx hb d_J_sumOf_33 rfl hl (by decide) rfl (fun ls hl => ?_)
          refine lv_iinc (v := iZ ((i + 1 : Nat) : Int)) (lv' := [(4, .int (iZ ((i + 1 : Nat) : Int))), (3, .int (iZ ((sSO J sh kd i) + (sKd J i kd)))), (0, .ref (ad 1)), (1, .int (iZ ((sh : Nat) : Int))), (2, .int (iZ ((kd : Nat) : Int)))]) hx hb d_J_sumOf_34 hl (k := 4) rfl (iZ_inc (i) 1) (by decide) rfl (fun ls hl => ?_)
          refine lv_goto (tgt := 5) hx hb d_J_sumOf_37 (by decide) ?_
          exact ih5 (i + 1) ls (by omega) (by omega) (lv_sub hl [2, 3, 4, 1, 0] (by rw [show (sSO J sh kd (i + 1)) = ((sSO J sh kd i) + (sKd J i kd)) from by simp [sSO, q11, q21]]; rfl))
  exact L5 (jk J - 0 + 1) 0 ls (Nat.zero_le _) (by omega) (lv_sub hl [2, 3, 4, 1, 0] rfl)

set_option maxHeartbeats 4000000 in
set_option maxRecDepth 100000 in
theorem k_J_rankOf {l : Launch} {D : va_G} {ad : Nat → Nat} {cI cZ cL : ClassId} {J : SJ} {rd : Nat → Int} {pr : Nat → Nat} {G : SH} {K : SK} {tl : va_W} (hI : JI J) {pp kd : Nat} (hp : pp < jk J) (hkd : kd < 3) : zMr l TB D classes (tysW cI cZ cL) y_J_rankOf w_J_rankOf 3 67 [.ref (ad 1), .int (iZ ((pp : Nat) : Int)), .int (iZ ((kd : Nat) : Int))] (wdC ad cI cZ cL J rd pr G K tl) (some (.int (iZ ((sRk J pp kd : Nat) : Int)))) := by
  refine z_ofR (by decide) (Nat.le_of_ble_eq_true rfl) ?_
  intro p e s m below meth c ls Z hP hK hl
  obtain ⟨hx, hb, hr, hml, hown, hts, hE, hlocks⟩ := id Z
  have hl : lv_has ls 7 [(0, .ref (ad 1)), (1, .int (iZ ((pp : Nat) : Int))), (2, .int (iZ ((kd : Nat) : Int)))] := hl
  obtain ⟨hn32, hk2, hpr, hct⟩ := id hI
  have hb0 := sKd_b hI pp kd
  refine lv_aload_n hx hb d_J_rankOf_0 rfl (lv_at hl 0 rfl) ?_
  refine lv_iload_n hx hb d_J_rankOf_1 rfl (lv_at hl 1 rfl) ?_
  refine lv_iload_n hx hb d_J_rankOf_2 rfl (lv_at hl 2 rfl) ?_
  refine z_callVR (As := [.int (iZ ((pp : Nat) : Int)), .int (iZ ((kd : Nat) : Int))]) (rest := []) zTB Z (k_J_keptDifference hI (pp := pp) (kd := kd) (by omega) (by omega)) ⟨ml_J_74, im_J_keptDifference, se_J_keptDifference, ini_J, co_J_keptDifference⟩ zd_J_keptDifference ⟨Nat.le_of_ble_eq_true rfl, Nat.le_of_ble_eq_true rfl⟩ hP hK (ci := 1) (q0 := 1) rfl rfl rfl hl.1 rfl (Nat.le_of_ble_eq_true rfl) d_J_rankOf_3 ⟨Nat.zero_le _, Nat.zero_le _⟩ ?_
  refine W.eq (g2 := F0 m 6 ls [.int (iZ (sKd J pp kd))]) rfl ?_
  refine va_mabs hx hb (Z.2.2.2.1.trans hl.1.symm) hown (hts _ ml9_J_77) (hts _ sm_Math_abs9) (hts _ ini_Math) (hts _ co_Math_abs9) (Nat.le_of_ble_eq_true rfl) (Nat.le_of_ble_eq_true rfl) (Nat.zero_le _) (Nat.zero_le _) d_J_rankOf_6 ?_
  refine z_topI (b := iZ (((sKd J pp kd).natAbs : Nat) : Int)) (z_abs (by omega)) ?_
  refine W.eq (g2 := F0 m 9 ls [.int (iZ (((sKd J pp kd).natAbs : Nat) : Int))]) rfl ?_
  refine lv_istore_n (lv' := [(3, .int (iZ (((sKd J pp kd).natAbs : Nat) : Int))), (0, .ref (ad 1)), (1, .int (iZ ((pp : Nat) : Int))), (2, .int (iZ ((kd : Nat) : Int)))]) hx hb d_J_rankOf_9 rfl hl (by decide) rfl (fun ls hl => ?_)
  refine lv_iload_n hx hb d_J_rankOf_10 rfl (lv_at hl 0 rfl) ?_
  refine z_if_ne (a := (((sKd J pp kd).natAbs : Nat) : Int)) (tgt := 16) hx hb (by omega) d_J_rankOf_11 (by decide) (fun q11 => ?_) (fun q11 => ?_)
  · skip
    refine lv_iconst (v := iZ ((1 : Nat) : Int)) hx hb d_J_rankOf_16 (by decide) ?_
    refine lv_istore (lv' := [(4, .int (iZ ((1 : Nat) : Int))), (3, .int (iZ (((sKd J pp kd).natAbs : Nat) : Int))), (0, .ref (ad 1)), (1, .int (iZ ((pp : Nat) : Int))), (2, .int (iZ ((kd : Nat) : Int)))]) hx hb d_J_rankOf_17 hl (by decide) rfl (fun ls hl => ?_)
    refine lv_iconst (v := iZ ((0 : Nat) : Int)) hx hb d_J_rankOf_19 (by decide) ?_
    refine lv_istore (lv' := [(5, .int (iZ ((0 : Nat) : Int))), (4, .int (iZ ((1 : Nat) : Int))), (3, .int (iZ (((sKd J pp kd).natAbs : Nat) : Int))), (0, .ref (ad 1)), (1, .int (iZ ((pp : Nat) : Int))), (2, .int (iZ ((kd : Nat) : Int)))]) hx hb d_J_rankOf_20 hl (by decide) rfl (fun ls hl => ?_)
    have L22 : ∀ (N22 : Nat) (i : Nat) (ls : Array Slot), (i ≤ jk J) → jk J - i < N22 → lv_has ls 7 [(0, .ref (ad 1)), (1, .int (iZ ((pp : Nat) : Int))), (2, .int (iZ ((kd : Nat) : Int))), (3, .int (iZ (((sKd J pp kd).natAbs : Nat) : Int))), (4, .int (iZ ((sRs J pp kd i : Nat) : Int))), (5, .int (iZ ((i : Nat) : Int)))] → W p l e (zRm 3 67) s m ([.ref (ad 1), .int (iZ ((pp : Nat) : Int)), .int (iZ ((kd : Nat) : Int))] : List Value).toArray below meth c s.heap [] 0 0 (MQ below (zQr (some (.int (iZ ((sRk J pp kd : Nat) : Int))))) ([.ref (ad 1), .int (iZ ((pp : Nat) : Int)), .int (iZ ((kd : Nat) : Int))] : List Value).toArray s 0 0 (fun _ => False)) (F0 m 22 ls []) := by
      intro N22
      induction N22 with
      | zero =>
        intro i ls hi hN22 hl
        exact absurd hN22 (Nat.not_lt_zero _)
      | succ N22 ih22 =>
        intro i ls hi hN22 hl
        have hle := sRs_le J pp kd i
        have hb1 := sKd_b hI i kd
        refine lv_iload hx hb d_J_rankOf_22 (lv_at hl 5 rfl) ?_
        refine lv_aload_n hx hb d_J_rankOf_24 rfl (lv_at hl 0 rfl) ?_
        refine va_get (D := D) (ci := 1) (v := .int (iZ ((jk J : Nat) : Int))) (C := n_J) (T := f_J) (N := 10) hx hb hts in_J hown hK hP 1 rfl rfl 2 (by decide) (hts _ fl_J_19) (fun _ h9 => h9) rfl d_J_rankOf_25 ?_
        refine z_icmp_ge (a := ((i : Nat) : Int)) (b := ((jk J : Nat) : Int)) (tgt := 75) hx hb (by omega) d_J_rankOf_28 (by decide) (fun q28 => ?_) (fun q28 => ?_)
        · skip
          refine lv_iload hx hb d_J_rankOf_75 (lv_at hl 4 rfl) ?_
          exact z_iretR Z d_J_rankOf_77 (iretN (by unfold sRk; rw [if_neg (by omega), show i = jk J by omega]))
        · skip
          refine lv_aload_n hx hb d_J_rankOf_31 rfl (lv_at hl 0 rfl) ?_
          refine lv_iload hx hb d_J_rankOf_32 (lv_at hl 5 rfl) ?_
          refine lv_iload_n hx hb d_J_rankOf_34 rfl (lv_at hl 2 rfl) ?_
          refine z_callVR (As := [.int (iZ ((i : Nat) : Int)), .int (iZ ((kd : Nat) : Int))]) (rest := []) zTB Z (k_J_keptDifference hI (pp := i) (kd := kd) (by omega) (by omega)) ⟨ml_J_74, im_J_keptDifference, se_J_keptDifference, ini_J, co_J_keptDifference⟩ zd_J_keptDifference ⟨Nat.le_of_ble_eq_true rfl, Nat.le_of_ble_eq_true rfl⟩ hP hK (ci := 1) (q0 := 1) rfl rfl rfl hl.1 rfl (Nat.le_of_ble_eq_true rfl) d_J_rankOf_35 ⟨Nat.zero_le _, Nat.zero_le _⟩ ?_
          refine W.eq (g2 := F0 m 38 ls [.int (iZ (sKd J i kd))]) rfl ?_
          refine va_mabs hx hb (Z.2.2.2.1.trans hl.1.symm) hown (hts _ ml9_J_77) (hts _ sm_Math_abs9) (hts _ ini_Math) (hts _ co_Math_abs9) (Nat.le_of_ble_eq_true rfl) (Nat.le_of_ble_eq_true rfl) (Nat.zero_le _) (Nat.zero_le _) d_J_rankOf_38 ?_
          refine z_topI (b := iZ (((sKd J i kd).natAbs : Nat) : Int)) (z_abs (by omega)) ?_
          refine W.eq (g2 := F0 m 41 ls [.int (iZ (((sKd J i kd).natAbs : Nat) : Int))]) rfl ?_
          refine lv_istore (lv' := [(6, .int (iZ (((sKd J i kd).natAbs : Nat) : Int))), (0, .ref (ad 1)), (1, .int (iZ ((pp : Nat) : Int))), (2, .int (iZ ((kd : Nat) : Int))), (3, .int (iZ (((sKd J pp kd).natAbs : Nat) : Int))), (4, .int (iZ ((sRs J pp kd i : Nat) : Int))), (5, .int (iZ ((i : Nat) : Int)))]) hx hb d_J_rankOf_41 hl (by decide) rfl (fun ls hl => ?_)
          refine lv_iload hx hb d_J_rankOf_43 (lv_at hl 0 rfl) ?_
          refine lv_iload_n hx hb d_J_rankOf_45 rfl (lv_at hl 4 rfl) ?_
          refine z_icmp_ne (a := (((sKd J i kd).natAbs : Nat) : Int)) (b := (((sKd J pp kd).natAbs : Nat) : Int)) (tgt := 55) hx hb (by omega) d_J_rankOf_46 (by decide) (fun q46 => ?_) (fun q46 => ?_)
          · skip
            refine lv_iload hx hb d_J_rankOf_55 (lv_at hl 0 rfl) ?_
            refine z_if_le (a := (((sKd J i kd).natAbs : Nat) : Int)) (tgt := 69) hx hb (by omega) d_J_rankOf_57 (by decide) (fun q57 => ?_) (fun q57 => ?_)
            · skip
              refine lv_iinc (v := iZ ((i + 1 : Nat) : Int)) (lv' := [(5, .int (iZ ((i + 1 : Nat) : Int))), (6, .int (iZ (((sKd J i kd).natAbs : Nat) : Int))), (0, .ref (ad 1)), (1, .int (iZ ((pp : Nat) : Int))), (2, .int (iZ ((kd : Nat) : Int))), (3, .int (iZ (((sKd J pp kd).natAbs : Nat) : Int))), (4, .int (iZ ((sRs J pp kd i : Nat) : Int)))]) hx hb d_J_rankOf_69 hl (k := 6) rfl (iZ_inc (i) 1) (by decide) rfl (fun ls hl => ?_)
              refine lv_goto (tgt := 22) hx hb d_J_rankOf_72 (by decide) ?_
              exact ih22 (i + 1) ls (by omega) (by omega) (lv_sub hl [2, 3, 4, 5, 6, 0] (by rw [show (sRs J pp kd (i + 1)) = (sRs J pp kd i) from by show sRs J pp kd i + sR1 J pp kd i = _; unfold sR1; split <;> first | omega | (split <;> omega)]; rfl))
            · skip
              refine lv_iload hx hb d_J_rankOf_60 (lv_at hl 0 rfl) ?_
              refine lv_iload_n hx hb d_J_rankOf_62 rfl (lv_at hl 4 rfl) ?_
              refine z_icmp_ge (a := (((sKd J i kd).natAbs : Nat) : Int)) (b := (((sKd J pp kd).natAbs : Nat) : Int)) (tgt := 69) hx hb (by omega) d_J_rankOf_63 (by decide) (fun q63 => ?_) (fun q63 => ?_)
              · skip
                refine lv_iinc (v := iZ ((i + 1 : Nat) : Int)) (lv' := [(5, .int (iZ ((i + 1 : Nat) : Int))), (6, .int (iZ (((sKd J i kd).natAbs : Nat) : Int))), (0, .ref (ad 1)), (1, .int (iZ ((pp : Nat) : Int))), (2, .int (iZ ((kd : Nat) : Int))), (3, .int (iZ (((sKd J pp kd).natAbs : Nat) : Int))), (4, .int (iZ ((sRs J pp kd i : Nat) : Int)))]) hx hb d_J_rankOf_69 hl (k := 6) rfl (iZ_inc (i) 1) (by decide) rfl (fun ls hl => ?_)
                refine lv_goto (tgt := 22) hx hb d_J_rankOf_72 (by decide) ?_
                exact ih22 (i + 1) ls (by omega) (by omega) (lv_sub hl [2, 3, 4, 5, 6, 0] (by rw [show (sRs J pp kd (i + 1)) = (sRs J pp kd i) from by show sRs J pp kd i + sR1 J pp kd i = _; unfold sR1; split <;> first | omega | (split <;> omega)]; rfl))
              · skip
                refine lv_iinc (v := iZ ((sRs J pp kd i + 2 : Nat) : Int)) (lv' := [(4, .int (iZ ((sRs J pp kd i + 2 : Nat) : Int))), (6, .int (iZ (((sKd J i kd).natAbs : Nat) : Int))), (0, .ref (ad 1)), (1, .int (iZ ((pp : Nat) : Int))), (2, .int (iZ ((kd : Nat) : Int))), (3, .int (iZ (((sKd J pp kd).natAbs : Nat) : Int))), (5, .int (iZ ((i : Nat) : Int)))]) hx hb d_J_rankOf_66 hl (k := 5) rfl (iZ_inc (sRs J pp kd i) 2) (by decide) rfl (fun ls hl => ?_)
                refine lv_iinc (v := iZ ((i + 1 : Nat) : Int)) (lv' := [(5, .int (iZ ((i + 1 : Nat) : Int))), (4, .int (iZ ((sRs J pp kd i + 2 : Nat) : Int))), (6, .int (iZ (((sKd J i kd).natAbs : Nat) : Int))), (0, .ref (ad 1)), (1, .int (iZ ((pp : Nat) : Int))), (2, .int (iZ ((kd : Nat) : Int))), (3, .int (iZ (((sKd J pp kd).natAbs : Nat) : Int)))]) hx hb d_J_rankOf_69 hl (k := 6) rfl (iZ_inc (i) 1) (by decide) rfl (fun ls hl => ?_)
                refine lv_goto (tgt := 22) hx hb d_J_rankOf_72 (by decide) ?_
                exact ih22 (i + 1) ls (by omega) (by omega) (lv_sub hl [3, 4, 5, 6, 1, 0] (by rw [show (sRs J pp kd (i + 1)) = (sRs J pp kd i + 2) from by show sRs J pp kd i + sR1 J pp kd i = _; unfold sR1; split <;> first | omega | (split <;> omega)]; rfl))
          · skip
            refine lv_iinc (v := iZ ((sRs J pp kd i + 1 : Nat) : Int)) (lv' := [(4, .int (iZ ((sRs J pp kd i + 1 : Nat) : Int))), (6, .int (iZ (((sKd J i kd).natAbs : Nat) : Int))), (0, .ref (ad 1)), (1, .int (iZ ((pp : Nat) : Int))), (2, .int (iZ ((kd : Nat) : Int))), (3, .int (iZ (((sKd J pp kd).natAbs : Nat) : Int))), (5, .int (iZ ((i : Nat) : Int)))]) hx hb d_J_rankOf_49 hl (k := 5) rfl (iZ_inc (sRs J pp kd i) 1) (by decide) rfl (fun ls hl => ?_)
            refine lv_goto (tgt := 69) hx hb d_J_rankOf_52 (by decide) ?_
            refine lv_iinc (v := iZ ((i + 1 : Nat) : Int)) (lv' := [(5, .int (iZ ((i + 1 : Nat) : Int))), (4, .int (iZ ((sRs J pp kd i + 1 : Nat) : Int))), (6, .int (iZ (((sKd J i kd).natAbs : Nat) : Int))), (0, .ref (ad 1)), (1, .int (iZ ((pp : Nat) : Int))), (2, .int (iZ ((kd : Nat) : Int))), (3, .int (iZ (((sKd J pp kd).natAbs : Nat) : Int)))]) hx hb d_J_rankOf_69 hl (k := 6) rfl (iZ_inc (i) 1) (by decide) rfl (fun ls hl => ?_)
            refine lv_goto (tgt := 22) hx hb d_J_rankOf_72 (by decide) ?_
            exact ih22 (i + 1) ls (by omega) (by omega) (lv_sub hl [3, 4, 5, 6, 1, 0] (by rw [show (sRs J pp kd (i + 1)) = (sRs J pp kd i + 1) from by show sRs J pp kd i + sR1 J pp kd i = _; unfold sR1; split <;> first | omega | (split <;> omega)]; rfl))
    exact L22 (jk J - 0 + 1) 0 ls (Nat.zero_le _) (by omega) (lv_sub hl [3, 4, 5, 2, 1, 0] rfl)
  · skip
    refine lv_iconst (v := iZ ((0 : Nat) : Int)) hx hb d_J_rankOf_14 (by decide) ?_
    exact z_iretR Z d_J_rankOf_15 (iretN (by unfold sRk; rw [if_pos (by omega)]))
end
section
/-! Division of longs; the tests of the face; Euclid's way. -/
theorem lZ_lN (u : Nat) : lZ ((u : Nat) : Int) = lN u := Int64.ofInt_eq_ofNat
theorem lZ_div {a b : Int} (ha : z64 a) (hb : z64 b) (h0 : 0 < b) : lZ a / lZ b = lZ (a.tdiv b) := by
  refine Int64.toInt_inj.mp ?_
  rw [Int64.toInt_div_of_ne_right _ _ (fun e => absurd ((lZ_eq hb (by omega)).mp (e.trans (show (-1 : Int64) = lZ (-1) from rfl))) (by omega)), lZ_t ha, lZ_t hb, lZ_t]
  have h1 := Int.natAbs_tdiv_le_natAbs a b
  by_cases q : a.tdiv b = 9223372036854775808
  · exfalso
    have h2 : 0 ≤ a := by
      rcases Int.lt_or_le a 0 with g | g
      · have h3 : a.tdiv b ≤ 0 := by
          have h4 := Int.neg_tdiv (a := a) (b := b)
          have h5 : 0 ≤ (-a).tdiv b := Int.tdiv_nonneg (by omega) (by omega)
          omega
        omega
      · exact g
    omega
  · omega
section ZDV
variable {p : Program} {l : Launch} {e : Env} {R : Room} {s : State} {m : MethodId} {args : Array Value} {below : List Frame} {meth : Method} {c : Code} {H : Heap} {locs : List Loc} {cells slots : Nat} {Q : State → Prop}
variable {cc : ByteArray} {pc : Nat} {ls : Array Slot} {rest : List Value}
theorem z_lremN (hx : p.tables.exec = Jvm.exec) (hb : c.code = cc) {u v : Nat} (h : 0 < v ∧ u < 9223372036854775808 ∧ v < 9223372036854775808) (hdg : decode cc pc = .ok (.lrem, 1)) (k : W p l e R s m args below meth c H locs cells slots Q (F0 m (pc + 1) ls (.long (lZ ((u % v : Nat) : Int)) :: rest))) : W p l e R s m args below meth c H locs cells slots Q (F0 m pc ls (.long (lZ ((v : Nat) : Int)) :: .long (lZ ((u : Nat) : Int)) :: rest)) := by
  refine lv_lrem hx hb hdg (fun e => ?_) ?_
  · exact absurd ((lZ_eq (b := 0) (by omega) (by omega)).mp e) (by omega)
  · rw [show lZ ((u : Nat) : Int) - lZ ((u : Nat) : Int) / lZ ((v : Nat) : Int) * lZ ((v : Nat) : Int) = lZ ((u % v : Nat) : Int) from by rw [lZ_lN, lZ_lN, lZ_lN]; exact pk_lRem (by omega) h.1 (by omega)]
    exact k
theorem z_ldiv (hx : p.tables.exec = Jvm.exec) (hb : c.code = cc) {a b : Int} (h : 0 < b ∧ z64 a ∧ z64 b) (hdg : decode cc pc = .ok (.ldiv, 1)) (k : W p l e R s m args below meth c H locs cells slots Q (F0 m (pc + 1) ls (.long (lZ (a.tdiv b)) :: rest))) : W p l e R s m args below meth c H locs cells slots Q (F0 m pc ls (.long (lZ b) :: .long (lZ a) :: rest)) := by
  refine lv_ldiv hx hb hdg (fun e => ?_) ?_
  · exact absurd ((lZ_eq (b := 0) h.2.2 (by omega)).mp e) (by omega)
  · rw [lZ_div h.2.1 h.2.2 h.1]
    exact k
end ZDV
theorem gc_half {a b : Nat} (h : b ≤ a) (hb : 0 < b) : 2 * (b * (a % b)) ≤ a * b := by
  have h1 : a % b < b := Nat.mod_lt a hb
  have h2 : b + a % b ≤ a := by
    have h3 := Nat.div_add_mod a b
    have h4 : 1 ≤ a / b := Nat.div_pos h hb
    have h5 : b * 1 ≤ b * (a / b) := Nat.mul_le_mul_left b h4
    omega
  have h6 : 2 * (a % b) ≤ a := by omega
  calc 2 * (b * (a % b)) = b * (2 * (a % b)) := by rw [Nat.mul_left_comm]
    _ ≤ b * a := Nat.mul_le_mul_left b h6
    _ = a * b := Nat.mul_comm b a
theorem gc_step (a b : Nat) : Nat.gcd b (a % b) = Nat.gcd a b := by
  rw [Nat.gcd_comm a b, Nat.gcd_rec b a, Nat.gcd_comm]
/-- the loop's fact: both numbers' product falls by half from the second division on -/
def gcI (C : Nat) (i lg sm : Nat) : Prop := 0 < lg ∧ (i = 0 ∨ sm < lg) ∧ lg * sm * 2 ^ (i - 1) ≤ C
theorem gcI_s {C i lg sm : Nat} (h : gcI C i lg sm) (h0 : 0 < sm) : gcI C (i + 1) sm (lg % sm) := by
  obtain ⟨h1, h2, h3⟩ := h
  refine ⟨h0, Or.inr (Nat.mod_lt lg h0), ?_⟩
  show sm * (lg % sm) * 2 ^ (i + 1 - 1) ≤ C
  rcases h2 with h2 | h2
  · subst h2
    refine Nat.le_trans ?_ h3
    show sm * (lg % sm) * 1 ≤ lg * sm * 1
    rw [Nat.mul_one, Nat.mul_one, Nat.mul_comm lg sm]
    exact Nat.mul_le_mul_left sm (Nat.mod_le lg sm)
  · cases i with
    | zero =>
      refine Nat.le_trans ?_ h3
      show sm * (lg % sm) * 1 ≤ lg * sm * 1
      rw [Nat.mul_one, Nat.mul_one, Nat.mul_comm lg sm]
      exact Nat.mul_le_mul_left sm (Nat.mod_le lg sm)
    | succ i =>
      refine Nat.le_trans ?_ h3
      have h4 := gc_half (Nat.le_of_lt h2) h0
      show sm * (lg % sm) * 2 ^ (i + 1) ≤ lg * sm * 2 ^ i
      calc sm * (lg % sm) * 2 ^ (i + 1) = 2 * (sm * (lg % sm)) * 2 ^ i := by rw [Nat.pow_succ, Nat.mul_comm (2 ^ i) 2, ← Nat.mul_assoc, Nat.mul_comm _ 2]
        _ ≤ lg * sm * 2 ^ i := Nat.mul_le_mul_right _ h4
theorem gcI_100 {C lg sm : Nat} (h : gcI C 100 lg sm) (hC : C < 2 ^ 99) : sm = 0 := by
  obtain ⟨h1, -, h3⟩ := h
  cases sm with
  | zero => rfl
  | succ k =>
    exfalso
    have h4 : 1 ≤ lg * (k + 1) := Nat.mul_pos h1 (Nat.succ_pos k)
    have h5 : 1 * 2 ^ 99 ≤ lg * (k + 1) * 2 ^ 99 := Nat.mul_le_mul_right _ h4
    have h6 : lg * (k + 1) * 2 ^ (100 - 1) ≤ C := h3
    have h7 : (100 - 1 : Nat) = 99 := rfl
    rw [h7] at h6
    omega
theorem lretN {a b : Nat} (h : a = b) : some (Value.long (lZ ((a : Nat) : Int))) = some (Value.long (lZ ((b : Nat) : Int))) := by rw [h]
theorem lretZ {a b : Int} (h : a = b) : some (Value.long (lZ a)) = some (Value.long (lZ b)) := by rw [h]
/-- a fraction's part, told without a common divisor -/
def sTP (a : Int) (b pt : Nat) : Int := if b < 1 then (if pt = 0 then 0 else 1) else if pt = 0 then a.tdiv ((Nat.gcd a.natAbs b : Nat) : Int) else ((b : Nat) : Int).tdiv ((Nat.gcd a.natAbs b : Nat) : Int)
set_option maxHeartbeats 4000000 in
set_option maxRecDepth 100000 in
theorem k_D_needIndex {l : Launch} {D : va_G} {cI cZ cL : ClassId} {ws : va_W} {a b : Int} (h : 0 ≤ a ∧ a < b ∧ b < 2147483648) : zMr l TB D classes (tysW cI cZ cL) y_D_needIndex w_D_needIndex 1 40 [.int (iZ (a)), .int (iZ (b))] (ws) (none) := by
  refine z_ofR (by decide) (Nat.le_of_ble_eq_true rfl) ?_
  intro p e s m below meth c ls Z hP hK hl
  obtain ⟨hx, hb, hr, hml, hown, hts, hE, hlocks⟩ := id Z
  have hl : lv_has ls 2 [(0, .int (iZ (a))), (1, .int (iZ (b)))] := hl
  refine lv_iload_n hx hb d_D_needIndex_0 rfl (lv_at hl 0 rfl) ?_
  refine z_if_lt (a := a) (tgt := 9) hx hb (by omega) d_D_needIndex_1 (by decide) (fun q1 => ?_) (fun q1 => ?_)
  · skip
    exfalso; omega
  · skip
    refine lv_iload_n hx hb d_D_needIndex_4 rfl (lv_at hl 0 rfl) ?_
    refine lv_iload_n hx hb d_D_needIndex_5 rfl (lv_at hl 1 rfl) ?_
    refine z_icmp_lt (a := a) (b := b) (tgt := 19) hx hb (by omega) d_D_needIndex_6 (by decide) (fun q6 => ?_) (fun q6 => ?_)
    · skip
      exact z_vretR Z d_D_needIndex_19 rfl
    · skip
      exfalso; omega

set_option maxHeartbeats 4000000 in
set_option maxRecDepth 100000 in
theorem x_D_needIndex {l : Launch} {D : va_G} (hl0 : l.stackTraces = false) {cI cZ cL : ClassId} {ws : va_W} {a b : Int} (h : z32 a ∧ z32 b ∧ (a < 0 ∨ b ≤ a)) : zMt l D (tysW cI cZ cL) y_D_needIndex w_D_needIndex 7 100 [.int (iZ (a)), .int (iZ (b))] (ws) "java/lang/IndexOutOfBoundsException" := by
  refine z_ofX (by decide) (Nat.le_of_ble_eq_true rfl) ?_
  intro p e s m below meth c ls Z htab hP hK hT hSt hl
  obtain ⟨hx, hb, hr, hml, hown, hts, hE, hlocks⟩ := id Z
  have hl : lv_has ls 2 [(0, .int (iZ (a))), (1, .int (iZ (b)))] := hl
  refine lv_iload_n hx hb d_D_needIndex_0 rfl (lv_at hl 0 rfl) ?_
  refine z_if_lt (a := a) (tgt := 9) hx hb (by omega) d_D_needIndex_1 (by decide) (fun q1 => ?_) (fun q1 => ?_)
  · skip
    obtain ⟨sa, hsa⟩ := hSt _ (List.mem_of_getElem? (i := 0) rfl)
    exact z_throwS (names := ["java/lang/RuntimeException", "java/lang/Exception"]) hl0 Z htab hT (by decide +kernel) (by decide +kernel) kl_D_177 ini_IndexOutOfBoundsException (by decide +kernel) hsa hl.1 d_D_needIndex_9 d_D_needIndex_12 d_D_needIndex_13 d_D_needIndex_15 d_D_needIndex_18 (by decide) (Nat.le_of_ble_eq_true rfl) (by decide) (by decide)
  · skip
    refine lv_iload_n hx hb d_D_needIndex_4 rfl (lv_at hl 0 rfl) ?_
    refine lv_iload_n hx hb d_D_needIndex_5 rfl (lv_at hl 1 rfl) ?_
    refine z_icmp_lt (a := a) (b := b) (tgt := 19) hx hb (by omega) d_D_needIndex_6 (by decide) (fun q6 => ?_) (fun q6 => ?_)
    · skip
      exfalso; omega
    · skip
      obtain ⟨sa, hsa⟩ := hSt _ (List.mem_of_getElem? (i := 0) rfl)
      exact z_throwS (names := ["java/lang/RuntimeException", "java/lang/Exception"]) hl0 Z htab hT (by decide +kernel) (by decide +kernel) kl_D_177 ini_IndexOutOfBoundsException (by decide +kernel) hsa hl.1 d_D_needIndex_9 d_D_needIndex_12 d_D_needIndex_13 d_D_needIndex_15 d_D_needIndex_18 (by decide) (Nat.le_of_ble_eq_true rfl) (by decide) (by decide)

set_option maxHeartbeats 4000000 in
set_option maxRecDepth 100000 in
theorem k_D_needShip {l : Launch} {D : va_G} {cI cZ cL : ClassId} {ws : va_W} {a : Int} (h : 0 ≤ a ∧ a < 4) : zMr l TB D classes (tysW cI cZ cL) y_D_needShip w_D_needShip 2 61 [.int (iZ (a))] (ws) (none) := by
  refine z_ofR (by decide) (Nat.le_of_ble_eq_true rfl) ?_
  intro p e s m below meth c ls Z hP hK hl
  obtain ⟨hx, hb, hr, hml, hown, hts, hE, hlocks⟩ := id Z
  have hl : lv_has ls 1 [(0, .int (iZ (a)))] := hl
  refine lv_iload_n hx hb d_D_needShip_0 rfl (lv_at hl 0 rfl) ?_
  refine lv_iconst (v := iZ ((4 : Nat) : Int)) hx hb d_D_needShip_1 (by decide) ?_
  refine z_callSR (As := [.int (iZ (a)), .int (iZ ((4 : Nat) : Int))]) (rest := []) zTB Z (k_D_needIndex (a := a) (b := ((4 : Nat) : Int)) (by omega)) ⟨ml_D_86, sm_D_needIndex, ini_D, co_D_needIndex⟩ zd_D_needIndex ⟨Nat.le_of_ble_eq_true rfl, Nat.le_of_ble_eq_true rfl⟩ hP hK hl.1 rfl (Nat.le_of_ble_eq_true rfl) d_D_needShip_2 ⟨Nat.zero_le _, Nat.zero_le _⟩ ?_
  refine W.eq (g2 := F0 m 5 ls []) rfl ?_
  exact z_vretR Z d_D_needShip_5 rfl

set_option maxHeartbeats 4000000 in
set_option maxRecDepth 100000 in
theorem x_D_needShip {l : Launch} {D : va_G} (hl0 : l.stackTraces = false) {cI cZ cL : ClassId} {ws : va_W} {a : Int} (h : z32 a ∧ (a < 0 ∨ 4 ≤ a)) : zMt l D (tysW cI cZ cL) y_D_needShip w_D_needShip 8 121 [.int (iZ (a))] (ws) "java/lang/IndexOutOfBoundsException" := by
  refine z_ofX (by decide) (Nat.le_of_ble_eq_true rfl) ?_
  intro p e s m below meth c ls Z htab hP hK hT hSt hl
  obtain ⟨hx, hb, hr, hml, hown, hts, hE, hlocks⟩ := id Z
  have hl : lv_has ls 1 [(0, .int (iZ (a)))] := hl
  refine lv_iload_n hx hb d_D_needShip_0 rfl (lv_at hl 0 rfl) ?_
  refine lv_iconst (v := iZ ((4 : Nat) : Int)) hx hb d_D_needShip_1 (by decide) ?_
  refine z_xS (As := [.int (iZ (a)), .int (iZ ((4 : Nat) : Int))]) (rest := []) Z (x_D_needIndex hl0 (a := a) (b := ((4 : Nat) : Int)) (by omega)) ⟨ml_D_86, sm_D_needIndex, ini_D, co_D_needIndex⟩ zd_D_needIndex ⟨Nat.le_of_ble_eq_true rfl, Nat.le_of_ble_eq_true rfl⟩ hP hK hT hSt hl.1 rfl (Nat.le_of_ble_eq_true rfl) d_D_needShip_2 ⟨Nat.le_of_ble_eq_true rfl, Nat.le_of_ble_eq_true rfl⟩ (fun q9 ce9 H9 hz9 hk9 hc9 hv9 hcl9 => ?_)
  exact z_xout Z htab hz9 hk9 hc9 hv9 hcl9

set_option maxHeartbeats 4000000 in
set_option maxRecDepth 100000 in
theorem k_D_needKind {l : Launch} {D : va_G} {cI cZ cL : ClassId} {ws : va_W} {a : Int} (h : 0 ≤ a ∧ a < 3) : zMr l TB D classes (tysW cI cZ cL) y_D_needKind w_D_needKind 2 61 [.int (iZ (a))] (ws) (none) := by
  refine z_ofR (by decide) (Nat.le_of_ble_eq_true rfl) ?_
  intro p e s m below meth c ls Z hP hK hl
  obtain ⟨hx, hb, hr, hml, hown, hts, hE, hlocks⟩ := id Z
  have hl : lv_has ls 1 [(0, .int (iZ (a)))] := hl
  refine lv_iload_n hx hb d_D_needKind_0 rfl (lv_at hl 0 rfl) ?_
  refine lv_iconst (v := iZ ((3 : Nat) : Int)) hx hb d_D_needKind_1 (by decide) ?_
  refine z_callSR (As := [.int (iZ (a)), .int (iZ ((3 : Nat) : Int))]) (rest := []) zTB Z (k_D_needIndex (a := a) (b := ((3 : Nat) : Int)) (by omega)) ⟨ml_D_86, sm_D_needIndex, ini_D, co_D_needIndex⟩ zd_D_needIndex ⟨Nat.le_of_ble_eq_true rfl, Nat.le_of_ble_eq_true rfl⟩ hP hK hl.1 rfl (Nat.le_of_ble_eq_true rfl) d_D_needKind_2 ⟨Nat.zero_le _, Nat.zero_le _⟩ ?_
  refine W.eq (g2 := F0 m 5 ls []) rfl ?_
  exact z_vretR Z d_D_needKind_5 rfl

set_option maxHeartbeats 4000000 in
set_option maxRecDepth 100000 in
theorem x_D_needKind {l : Launch} {D : va_G} (hl0 : l.stackTraces = false) {cI cZ cL : ClassId} {ws : va_W} {a : Int} (h : z32 a ∧ (a < 0 ∨ 3 ≤ a)) : zMt l D (tysW cI cZ cL) y_D_needKind w_D_needKind 8 121 [.int (iZ (a))] (ws) "java/lang/IndexOutOfBoundsException" := by
  refine z_ofX (by decide) (Nat.le_of_ble_eq_true rfl) ?_
  intro p e s m below meth c ls Z htab hP hK hT hSt hl
  obtain ⟨hx, hb, hr, hml, hown, hts, hE, hlocks⟩ := id Z
  have hl : lv_has ls 1 [(0, .int (iZ (a)))] := hl
  refine lv_iload_n hx hb d_D_needKind_0 rfl (lv_at hl 0 rfl) ?_
  refine lv_iconst (v := iZ ((3 : Nat) : Int)) hx hb d_D_needKind_1 (by decide) ?_
  refine z_xS (As := [.int (iZ (a)), .int (iZ ((3 : Nat) : Int))]) (rest := []) Z (x_D_needIndex hl0 (a := a) (b := ((3 : Nat) : Int)) (by omega)) ⟨ml_D_86, sm_D_needIndex, ini_D, co_D_needIndex⟩ zd_D_needIndex ⟨Nat.le_of_ble_eq_true rfl, Nat.le_of_ble_eq_true rfl⟩ hP hK hT hSt hl.1 rfl (Nat.le_of_ble_eq_true rfl) d_D_needKind_2 ⟨Nat.le_of_ble_eq_true rfl, Nat.le_of_ble_eq_true rfl⟩ (fun q9 ce9 H9 hz9 hk9 hc9 hv9 hcl9 => ?_)
  exact z_xout Z htab hz9 hk9 hc9 hv9 hcl9

set_option maxHeartbeats 4000000 in
set_option maxRecDepth 100000 in
theorem k_D_needPart {l : Launch} {D : va_G} {cI cZ cL : ClassId} {ws : va_W} {a : Int} (h : 0 ≤ a ∧ a < 2) : zMr l TB D classes (tysW cI cZ cL) y_D_needPart w_D_needPart 2 61 [.int (iZ (a))] (ws) (none) := by
  refine z_ofR (by decide) (Nat.le_of_ble_eq_true rfl) ?_
  intro p e s m below meth c ls Z hP hK hl
  obtain ⟨hx, hb, hr, hml, hown, hts, hE, hlocks⟩ := id Z
  have hl : lv_has ls 1 [(0, .int (iZ (a)))] := hl
  refine lv_iload_n hx hb d_D_needPart_0 rfl (lv_at hl 0 rfl) ?_
  refine lv_iconst (v := iZ ((2 : Nat) : Int)) hx hb d_D_needPart_1 (by decide) ?_
  refine z_callSR (As := [.int (iZ (a)), .int (iZ ((2 : Nat) : Int))]) (rest := []) zTB Z (k_D_needIndex (a := a) (b := ((2 : Nat) : Int)) (by omega)) ⟨ml_D_86, sm_D_needIndex, ini_D, co_D_needIndex⟩ zd_D_needIndex ⟨Nat.le_of_ble_eq_true rfl, Nat.le_of_ble_eq_true rfl⟩ hP hK hl.1 rfl (Nat.le_of_ble_eq_true rfl) d_D_needPart_2 ⟨Nat.zero_le _, Nat.zero_le _⟩ ?_
  refine W.eq (g2 := F0 m 5 ls []) rfl ?_
  exact z_vretR Z d_D_needPart_5 rfl

set_option maxHeartbeats 4000000 in
set_option maxRecDepth 100000 in
theorem x_D_needPart {l : Launch} {D : va_G} (hl0 : l.stackTraces = false) {cI cZ cL : ClassId} {ws : va_W} {a : Int} (h : z32 a ∧ (a < 0 ∨ 2 ≤ a)) : zMt l D (tysW cI cZ cL) y_D_needPart w_D_needPart 8 121 [.int (iZ (a))] (ws) "java/lang/IndexOutOfBoundsException" := by
  refine z_ofX (by decide) (Nat.le_of_ble_eq_true rfl) ?_
  intro p e s m below meth c ls Z htab hP hK hT hSt hl
  obtain ⟨hx, hb, hr, hml, hown, hts, hE, hlocks⟩ := id Z
  have hl : lv_has ls 1 [(0, .int (iZ (a)))] := hl
  refine lv_iload_n hx hb d_D_needPart_0 rfl (lv_at hl 0 rfl) ?_
  refine lv_iconst (v := iZ ((2 : Nat) : Int)) hx hb d_D_needPart_1 (by decide) ?_
  refine z_xS (As := [.int (iZ (a)), .int (iZ ((2 : Nat) : Int))]) (rest := []) Z (x_D_needIndex hl0 (a := a) (b := ((2 : Nat) : Int)) (by omega)) ⟨ml_D_86, sm_D_needIndex, ini_D, co_D_needIndex⟩ zd_D_needIndex ⟨Nat.le_of_ble_eq_true rfl, Nat.le_of_ble_eq_true rfl⟩ hP hK hT hSt hl.1 rfl (Nat.le_of_ble_eq_true rfl) d_D_needPart_2 ⟨Nat.le_of_ble_eq_true rfl, Nat.le_of_ble_eq_true rfl⟩ (fun q9 ce9 H9 hz9 hk9 hc9 hv9 hcl9 => ?_)
  exact z_xout Z htab hz9 hk9 hc9 hv9 hcl9

set_option maxHeartbeats 4000000 in
set_option maxRecDepth 100000 in
theorem k_D_needHaul {l : Launch} {D : va_G} {ad : Nat → Nat} {cI cZ cL : ClassId} {J : SJ} {rd : Nat → Int} {pr : Nat → Nat} {G : SH} {K : SK} {tl : va_W} {a : Int} (h : 0 ≤ a ∧ a < ((jn J : Nat) : Int) ∧ jn J ≤ 32) : zMr l TB D classes (tysW cI cZ cL) y_D_needHaul w_D_needHaul 2 61 [.ref (ad 0), .int (iZ (a))] (wdC ad cI cZ cL J rd pr G K tl) (none) := by
  refine z_ofR (by decide) (Nat.le_of_ble_eq_true rfl) ?_
  intro p e s m below meth c ls Z hP hK hl
  obtain ⟨hx, hb, hr, hml, hown, hts, hE, hlocks⟩ := id Z
  have hl : lv_has ls 2 [(0, .ref (ad 0)), (1, .int (iZ (a)))] := hl
  refine lv_iload_n hx hb d_D_needHaul_0 rfl (lv_at hl 1 rfl) ?_
  refine lv_aload_n hx hb d_D_needHaul_1 rfl (lv_at hl 0 rfl) ?_
  refine va_get (D := D) (ci := 0) (v := .ref (ad 1)) (C := n_D) (T := f_D) (N := 5) hx hb hts in_D hown hK hP 0 rfl rfl 0 (by decide) (hts _ fl_D_14) (fun _ h9 => h9) rfl d_D_needHaul_2 ?_
  refine va_getN (D := D) (ci := 1) (v := .int (iZ ((jn J : Nat) : Int))) (C := n_J) (T := f_J) (N := 10) hx hb hts in_J hown hK hP 1 rfl rfl 1 (by decide) (hts _ fl_D_46) (fun _ h9 => h9) rfl d_D_needHaul_5 ?_
  refine z_callSR (As := [.int (iZ (a)), .int (iZ ((jn J : Nat) : Int))]) (rest := []) zTB Z (k_D_needIndex (a := a) (b := ((jn J : Nat) : Int)) (by omega)) ⟨ml_D_86, sm_D_needIndex, ini_D, co_D_needIndex⟩ zd_D_needIndex ⟨Nat.le_of_ble_eq_true rfl, Nat.le_of_ble_eq_true rfl⟩ hP hK hl.1 rfl (Nat.le_of_ble_eq_true rfl) d_D_needHaul_8 ⟨Nat.zero_le _, Nat.zero_le _⟩ ?_
  refine W.eq (g2 := F0 m 11 ls []) rfl ?_
  exact z_vretR Z d_D_needHaul_11 rfl

set_option maxHeartbeats 4000000 in
set_option maxRecDepth 100000 in
theorem x_D_needHaul {l : Launch} {D : va_G} (hl0 : l.stackTraces = false) {ad : Nat → Nat} {cI cZ cL : ClassId} {J : SJ} {rd : Nat → Int} {pr : Nat → Nat} {G : SH} {K : SK} {tl : va_W} {a : Int} (h : z32 a ∧ (a < 0 ∨ ((jn J : Nat) : Int) ≤ a) ∧ jn J ≤ 32) : zMt l D (tysW cI cZ cL) y_D_needHaul w_D_needHaul 8 121 [.ref (ad 0), .int (iZ (a))] (wdC ad cI cZ cL J rd pr G K tl) "java/lang/IndexOutOfBoundsException" := by
  refine z_ofX (by decide) (Nat.le_of_ble_eq_true rfl) ?_
  intro p e s m below meth c ls Z htab hP hK hT hSt hl
  obtain ⟨hx, hb, hr, hml, hown, hts, hE, hlocks⟩ := id Z
  have hl : lv_has ls 2 [(0, .ref (ad 0)), (1, .int (iZ (a)))] := hl
  refine lv_iload_n hx hb d_D_needHaul_0 rfl (lv_at hl 1 rfl) ?_
  refine lv_aload_n hx hb d_D_needHaul_1 rfl (lv_at hl 0 rfl) ?_
  refine va_get (D := D) (ci := 0) (v := .ref (ad 1)) (C := n_D) (T := f_D) (N := 5) hx hb hts in_D hown hK hP 0 rfl rfl 0 (by decide) (hts _ fl_D_14) (fun _ h9 => h9) rfl d_D_needHaul_2 ?_
  refine va_getN (D := D) (ci := 1) (v := .int (iZ ((jn J : Nat) : Int))) (C := n_J) (T := f_J) (N := 10) hx hb hts in_J hown hK hP 1 rfl rfl 1 (by decide) (hts _ fl_D_46) (fun _ h9 => h9) rfl d_D_needHaul_5 ?_
  refine z_xS (As := [.int (iZ (a)), .int (iZ ((jn J : Nat) : Int))]) (rest := []) Z (x_D_needIndex hl0 (a := a) (b := ((jn J : Nat) : Int)) (by omega)) ⟨ml_D_86, sm_D_needIndex, ini_D, co_D_needIndex⟩ zd_D_needIndex ⟨Nat.le_of_ble_eq_true rfl, Nat.le_of_ble_eq_true rfl⟩ hP hK hT hSt hl.1 rfl (Nat.le_of_ble_eq_true rfl) d_D_needHaul_8 ⟨Nat.le_of_ble_eq_true rfl, Nat.le_of_ble_eq_true rfl⟩ (fun q9 ce9 H9 hz9 hk9 hc9 hv9 hcl9 => ?_)
  exact z_xout Z htab hz9 hk9 hc9 hv9 hcl9

set_option maxHeartbeats 4000000 in
set_option maxRecDepth 100000 in
theorem k_D_needPair {l : Launch} {D : va_G} {ad : Nat → Nat} {cI cZ cL : ClassId} {J : SJ} {rd : Nat → Int} {pr : Nat → Nat} {G : SH} {K : SK} {tl : va_W} {a : Int} (h : 0 ≤ a ∧ a < ((jk J : Nat) : Int) ∧ jk J ≤ 32) : zMr l TB D classes (tysW cI cZ cL) y_D_needPair w_D_needPair 2 61 [.ref (ad 0), .int (iZ (a))] (wdC ad cI cZ cL J rd pr G K tl) (none) := by
  refine z_ofR (by decide) (Nat.le_of_ble_eq_true rfl) ?_
  intro p e s m below meth c ls Z hP hK hl
  obtain ⟨hx, hb, hr, hml, hown, hts, hE, hlocks⟩ := id Z
  have hl : lv_has ls 2 [(0, .ref (ad 0)), (1, .int (iZ (a)))] := hl
  refine lv_iload_n hx hb d_D_needPair_0 rfl (lv_at hl 1 rfl) ?_
  refine lv_aload_n hx hb d_D_needPair_1 rfl (lv_at hl 0 rfl) ?_
  refine va_get (D := D) (ci := 0) (v := .ref (ad 1)) (C := n_D) (T := f_D) (N := 5) hx hb hts in_D hown hK hP 0 rfl rfl 0 (by decide) (hts _ fl_D_14) (fun _ h9 => h9) rfl d_D_needPair_2 ?_
  refine va_getN (D := D) (ci := 1) (v := .int (iZ ((jk J : Nat) : Int))) (C := n_J) (T := f_J) (N := 10) hx hb hts in_J hown hK hP 1 rfl rfl 2 (by decide) (hts _ fl_D_99) (fun _ h9 => h9) rfl d_D_needPair_5 ?_
  refine z_callSR (As := [.int (iZ (a)), .int (iZ ((jk J : Nat) : Int))]) (rest := []) zTB Z (k_D_needIndex (a := a) (b := ((jk J : Nat) : Int)) (by omega)) ⟨ml_D_86, sm_D_needIndex, ini_D, co_D_needIndex⟩ zd_D_needIndex ⟨Nat.le_of_ble_eq_true rfl, Nat.le_of_ble_eq_true rfl⟩ hP hK hl.1 rfl (Nat.le_of_ble_eq_true rfl) d_D_needPair_8 ⟨Nat.zero_le _, Nat.zero_le _⟩ ?_
  refine W.eq (g2 := F0 m 11 ls []) rfl ?_
  exact z_vretR Z d_D_needPair_11 rfl

set_option maxHeartbeats 4000000 in
set_option maxRecDepth 100000 in
theorem x_D_needPair {l : Launch} {D : va_G} (hl0 : l.stackTraces = false) {ad : Nat → Nat} {cI cZ cL : ClassId} {J : SJ} {rd : Nat → Int} {pr : Nat → Nat} {G : SH} {K : SK} {tl : va_W} {a : Int} (h : z32 a ∧ (a < 0 ∨ ((jk J : Nat) : Int) ≤ a) ∧ jk J ≤ 32) : zMt l D (tysW cI cZ cL) y_D_needPair w_D_needPair 8 121 [.ref (ad 0), .int (iZ (a))] (wdC ad cI cZ cL J rd pr G K tl) "java/lang/IndexOutOfBoundsException" := by
  refine z_ofX (by decide) (Nat.le_of_ble_eq_true rfl) ?_
  intro p e s m below meth c ls Z htab hP hK hT hSt hl
  obtain ⟨hx, hb, hr, hml, hown, hts, hE, hlocks⟩ := id Z
  have hl : lv_has ls 2 [(0, .ref (ad 0)), (1, .int (iZ (a)))] := hl
  refine lv_iload_n hx hb d_D_needPair_0 rfl (lv_at hl 1 rfl) ?_
  refine lv_aload_n hx hb d_D_needPair_1 rfl (lv_at hl 0 rfl) ?_
  refine va_get (D := D) (ci := 0) (v := .ref (ad 1)) (C := n_D) (T := f_D) (N := 5) hx hb hts in_D hown hK hP 0 rfl rfl 0 (by decide) (hts _ fl_D_14) (fun _ h9 => h9) rfl d_D_needPair_2 ?_
  refine va_getN (D := D) (ci := 1) (v := .int (iZ ((jk J : Nat) : Int))) (C := n_J) (T := f_J) (N := 10) hx hb hts in_J hown hK hP 1 rfl rfl 2 (by decide) (hts _ fl_D_99) (fun _ h9 => h9) rfl d_D_needPair_5 ?_
  refine z_xS (As := [.int (iZ (a)), .int (iZ ((jk J : Nat) : Int))]) (rest := []) Z (x_D_needIndex hl0 (a := a) (b := ((jk J : Nat) : Int)) (by omega)) ⟨ml_D_86, sm_D_needIndex, ini_D, co_D_needIndex⟩ zd_D_needIndex ⟨Nat.le_of_ble_eq_true rfl, Nat.le_of_ble_eq_true rfl⟩ hP hK hT hSt hl.1 rfl (Nat.le_of_ble_eq_true rfl) d_D_needPair_8 ⟨Nat.le_of_ble_eq_true rfl, Nat.le_of_ble_eq_true rfl⟩ (fun q9 ce9 H9 hz9 hk9 hc9 hv9 hcl9 => ?_)
  exact z_xout Z htab hz9 hk9 hc9 hv9 hcl9

set_option maxHeartbeats 4000000 in
set_option maxRecDepth 100000 in
theorem k_D_needNumber {l : Launch} {D : va_G} {cI cZ cL : ClassId} {ws : va_W} {a b c9 : Int} (h : z32 b ∧ z32 c9 ∧ b ≤ a ∧ a ≤ c9) : zMr l TB D classes (tysW cI cZ cL) y_D_needNumber w_D_needNumber 1 40 [.int (iZ (a)), .int (iZ (b)), .int (iZ (c9))] (ws) (none) := by
  refine z_ofR (by decide) (Nat.le_of_ble_eq_true rfl) ?_
  intro p e s m below meth c ls Z hP hK hl
  obtain ⟨hx, hb, hr, hml, hown, hts, hE, hlocks⟩ := id Z
  have hl : lv_has ls 3 [(0, .int (iZ (a))), (1, .int (iZ (b))), (2, .int (iZ (c9)))] := hl
  refine lv_iload_n hx hb d_D_needNumber_0 rfl (lv_at hl 0 rfl) ?_
  refine lv_iload_n hx hb d_D_needNumber_1 rfl (lv_at hl 1 rfl) ?_
  refine z_icmp_lt (a := a) (b := b) (tgt := 10) hx hb (by omega) d_D_needNumber_2 (by decide) (fun q2 => ?_) (fun q2 => ?_)
  · skip
    exfalso; omega
  · skip
    refine lv_iload_n hx hb d_D_needNumber_5 rfl (lv_at hl 0 rfl) ?_
    refine lv_iload_n hx hb d_D_needNumber_6 rfl (lv_at hl 2 rfl) ?_
    refine z_icmp_le (a := a) (b := c9) (tgt := 20) hx hb (by omega) d_D_needNumber_7 (by decide) (fun q7 => ?_) (fun q7 => ?_)
    · skip
      exact z_vretR Z d_D_needNumber_20 rfl
    · skip
      exfalso; omega

set_option maxHeartbeats 4000000 in
set_option maxRecDepth 100000 in
theorem x_D_needNumber {l : Launch} {D : va_G} (hl0 : l.stackTraces = false) {cI cZ cL : ClassId} {ws : va_W} {a b c9 : Int} (h : z32 a ∧ z32 b ∧ z32 c9 ∧ (a < b ∨ c9 < a)) : zMt l D (tysW cI cZ cL) y_D_needNumber w_D_needNumber 7 100 [.int (iZ (a)), .int (iZ (b)), .int (iZ (c9))] (ws) "java/lang/IllegalArgumentException" := by
  refine z_ofX (by decide) (Nat.le_of_ble_eq_true rfl) ?_
  intro p e s m below meth c ls Z htab hP hK hT hSt hl
  obtain ⟨hx, hb, hr, hml, hown, hts, hE, hlocks⟩ := id Z
  have hl : lv_has ls 3 [(0, .int (iZ (a))), (1, .int (iZ (b))), (2, .int (iZ (c9)))] := hl
  refine lv_iload_n hx hb d_D_needNumber_0 rfl (lv_at hl 0 rfl) ?_
  refine lv_iload_n hx hb d_D_needNumber_1 rfl (lv_at hl 1 rfl) ?_
  refine z_icmp_lt (a := a) (b := b) (tgt := 10) hx hb (by omega) d_D_needNumber_2 (by decide) (fun q2 => ?_) (fun q2 => ?_)
  · skip
    obtain ⟨sa, hsa⟩ := hSt _ (List.mem_of_getElem? (i := 2) rfl)
    exact z_throwS (names := ["java/lang/RuntimeException", "java/lang/Exception"]) hl0 Z htab hT (by decide +kernel) (by decide +kernel) kl_D_182 ini_IllegalArgumentException (by decide +kernel) hsa hl.1 d_D_needNumber_10 d_D_needNumber_13 d_D_needNumber_14 d_D_needNumber_16 d_D_needNumber_19 (by decide) (Nat.le_of_ble_eq_true rfl) (by decide) (by decide)
  · skip
    refine lv_iload_n hx hb d_D_needNumber_5 rfl (lv_at hl 0 rfl) ?_
    refine lv_iload_n hx hb d_D_needNumber_6 rfl (lv_at hl 2 rfl) ?_
    refine z_icmp_le (a := a) (b := c9) (tgt := 20) hx hb (by omega) d_D_needNumber_7 (by decide) (fun q7 => ?_) (fun q7 => ?_)
    · skip
      exfalso; omega
    · skip
      obtain ⟨sa, hsa⟩ := hSt _ (List.mem_of_getElem? (i := 2) rfl)
      exact z_throwS (names := ["java/lang/RuntimeException", "java/lang/Exception"]) hl0 Z htab hT (by decide +kernel) (by decide +kernel) kl_D_182 ini_IllegalArgumentException (by decide +kernel) hsa hl.1 d_D_needNumber_10 d_D_needNumber_13 d_D_needNumber_14 d_D_needNumber_16 d_D_needNumber_19 (by decide) (Nat.le_of_ble_eq_true rfl) (by decide) (by decide)

set_option maxHeartbeats 4000000 in
set_option maxRecDepth 100000 in
theorem k_D_needBounds {l : Launch} {D : va_G} {cI cZ cL : ClassId} {ws : va_W} {a b : Int} (h : 1 ≤ a ∧ a ≤ 16 ∧ 1 ≤ b ∧ b ≤ 16) : zMr l TB D classes (tysW cI cZ cL) y_D_needBounds w_D_needBounds 2 62 [.int (iZ (a)), .int (iZ (b))] (ws) (none) := by
  refine z_ofR (by decide) (Nat.le_of_ble_eq_true rfl) ?_
  intro p e s m below meth c ls Z hP hK hl
  obtain ⟨hx, hb, hr, hml, hown, hts, hE, hlocks⟩ := id Z
  have hl : lv_has ls 2 [(0, .int (iZ (a))), (1, .int (iZ (b)))] := hl
  refine lv_iload_n hx hb d_D_needBounds_0 rfl (lv_at hl 0 rfl) ?_
  refine lv_iconst (v := iZ ((1 : Nat) : Int)) hx hb d_D_needBounds_1 (by decide) ?_
  refine lv_bipush (v := iZ ((16 : Nat) : Int)) hx hb d_D_needBounds_2 (by decide) ?_
  refine z_callSR (As := [.int (iZ (a)), .int (iZ ((1 : Nat) : Int)), .int (iZ ((16 : Nat) : Int))]) (rest := []) zTB Z (k_D_needNumber (a := a) (b := ((1 : Nat) : Int)) (c9 := ((16 : Nat) : Int)) (by omega)) ⟨ml_D_67, sm_D_needNumber, ini_D, co_D_needNumber⟩ zd_D_needNumber ⟨Nat.le_of_ble_eq_true rfl, Nat.le_of_ble_eq_true rfl⟩ hP hK hl.1 rfl (Nat.le_of_ble_eq_true rfl) d_D_needBounds_4 ⟨Nat.zero_le _, Nat.zero_le _⟩ ?_
  refine W.eq (g2 := F0 m 7 ls []) rfl ?_
  refine lv_iload_n hx hb d_D_needBounds_7 rfl (lv_at hl 1 rfl) ?_
  refine lv_iconst (v := iZ ((1 : Nat) : Int)) hx hb d_D_needBounds_8 (by decide) ?_
  refine lv_bipush (v := iZ ((16 : Nat) : Int)) hx hb d_D_needBounds_9 (by decide) ?_
  refine z_callSR (As := [.int (iZ (b)), .int (iZ ((1 : Nat) : Int)), .int (iZ ((16 : Nat) : Int))]) (rest := []) zTB Z (k_D_needNumber (a := b) (b := ((1 : Nat) : Int)) (c9 := ((16 : Nat) : Int)) (by omega)) ⟨ml_D_67, sm_D_needNumber, ini_D, co_D_needNumber⟩ zd_D_needNumber ⟨Nat.le_of_ble_eq_true rfl, Nat.le_of_ble_eq_true rfl⟩ hP hK hl.1 rfl (Nat.le_of_ble_eq_true rfl) d_D_needBounds_11 ⟨Nat.zero_le _, Nat.zero_le _⟩ ?_
  refine W.eq (g2 := F0 m 14 ls []) rfl ?_
  exact z_vretR Z d_D_needBounds_14 rfl

set_option maxHeartbeats 4000000 in
set_option maxRecDepth 100000 in
theorem x_D_needBounds {l : Launch} {D : va_G} (hl0 : l.stackTraces = false) {cI cZ cL : ClassId} {ws : va_W} {a b : Int} (h : z32 a ∧ (a < 1 ∨ 16 < a)) : zMt l D (tysW cI cZ cL) y_D_needBounds w_D_needBounds 8 122 [.int (iZ (a)), .int (iZ (b))] (ws) "java/lang/IllegalArgumentException" := by
  refine z_ofX (by decide) (Nat.le_of_ble_eq_true rfl) ?_
  intro p e s m below meth c ls Z htab hP hK hT hSt hl
  obtain ⟨hx, hb, hr, hml, hown, hts, hE, hlocks⟩ := id Z
  have hl : lv_has ls 2 [(0, .int (iZ (a))), (1, .int (iZ (b)))] := hl
  refine lv_iload_n hx hb d_D_needBounds_0 rfl (lv_at hl 0 rfl) ?_
  refine lv_iconst (v := iZ ((1 : Nat) : Int)) hx hb d_D_needBounds_1 (by decide) ?_
  refine lv_bipush (v := iZ ((16 : Nat) : Int)) hx hb d_D_needBounds_2 (by decide) ?_
  refine z_xS (As := [.int (iZ (a)), .int (iZ ((1 : Nat) : Int)), .int (iZ ((16 : Nat) : Int))]) (rest := []) Z (x_D_needNumber hl0 (a := a) (b := ((1 : Nat) : Int)) (c9 := ((16 : Nat) : Int)) (by omega)) ⟨ml_D_67, sm_D_needNumber, ini_D, co_D_needNumber⟩ zd_D_needNumber ⟨Nat.le_of_ble_eq_true rfl, Nat.le_of_ble_eq_true rfl⟩ hP hK hT hSt hl.1 rfl (Nat.le_of_ble_eq_true rfl) d_D_needBounds_4 ⟨Nat.le_of_ble_eq_true rfl, Nat.le_of_ble_eq_true rfl⟩ (fun q9 ce9 H9 hz9 hk9 hc9 hv9 hcl9 => ?_)
  exact z_xout Z htab hz9 hk9 hc9 hv9 hcl9

set_option maxHeartbeats 4000000 in
set_option maxRecDepth 100000 in
theorem y_D_needBounds2 {l : Launch} {D : va_G} (hl0 : l.stackTraces = false) {cI cZ cL : ClassId} {ws : va_W} {a b : Int} (h : 1 ≤ a ∧ a ≤ 16 ∧ z32 b ∧ (b < 1 ∨ 16 < b)) : zMt l D (tysW cI cZ cL) y_D_needBounds w_D_needBounds 8 122 [.int (iZ (a)), .int (iZ (b))] (ws) "java/lang/IllegalArgumentException" := by
  refine z_ofX (by decide) (Nat.le_of_ble_eq_true rfl) ?_
  intro p e s m below meth c ls Z htab hP hK hT hSt hl
  obtain ⟨hx, hb, hr, hml, hown, hts, hE, hlocks⟩ := id Z
  have hl : lv_has ls 2 [(0, .int (iZ (a))), (1, .int (iZ (b)))] := hl
  refine lv_iload_n hx hb d_D_needBounds_0 rfl (lv_at hl 0 rfl) ?_
  refine lv_iconst (v := iZ ((1 : Nat) : Int)) hx hb d_D_needBounds_1 (by decide) ?_
  refine lv_bipush (v := iZ ((16 : Nat) : Int)) hx hb d_D_needBounds_2 (by decide) ?_
  refine z_callSR (As := [.int (iZ (a)), .int (iZ ((1 : Nat) : Int)), .int (iZ ((16 : Nat) : Int))]) (rest := []) zTB Z (k_D_needNumber (a := a) (b := ((1 : Nat) : Int)) (c9 := ((16 : Nat) : Int)) (by omega)) ⟨ml_D_67, sm_D_needNumber, ini_D, co_D_needNumber⟩ zd_D_needNumber ⟨Nat.le_of_ble_eq_true rfl, Nat.le_of_ble_eq_true rfl⟩ hP hK hl.1 rfl (Nat.le_of_ble_eq_true rfl) d_D_needBounds_4 ⟨Nat.zero_le _, Nat.zero_le _⟩ ?_
  refine W.eq (g2 := F0 m 7 ls []) rfl ?_
  refine lv_iload_n hx hb d_D_needBounds_7 rfl (lv_at hl 1 rfl) ?_
  refine lv_iconst (v := iZ ((1 : Nat) : Int)) hx hb d_D_needBounds_8 (by decide) ?_
  refine lv_bipush (v := iZ ((16 : Nat) : Int)) hx hb d_D_needBounds_9 (by decide) ?_
  refine z_xS (As := [.int (iZ (b)), .int (iZ ((1 : Nat) : Int)), .int (iZ ((16 : Nat) : Int))]) (rest := []) Z (x_D_needNumber hl0 (a := b) (b := ((1 : Nat) : Int)) (c9 := ((16 : Nat) : Int)) (by omega)) ⟨ml_D_67, sm_D_needNumber, ini_D, co_D_needNumber⟩ zd_D_needNumber ⟨Nat.le_of_ble_eq_true rfl, Nat.le_of_ble_eq_true rfl⟩ hP hK hT hSt hl.1 rfl (Nat.le_of_ble_eq_true rfl) d_D_needBounds_11 ⟨Nat.le_of_ble_eq_true rfl, Nat.le_of_ble_eq_true rfl⟩ (fun q9 ce9 H9 hz9 hk9 hc9 hv9 hcl9 => ?_)
  exact z_xout Z htab hz9 hk9 hc9 hv9 hcl9

set_option maxHeartbeats 4000000 in
set_option maxRecDepth 100000 in
theorem k_D_commonDivisor {l : Launch} {D : va_G} {cI cZ cL : ClassId} {ws : va_W} {on ot : Nat} (h : 0 < ot ∧ on < 17592186044416 ∧ ot < 17592186044416) : zMr l TB D classes (tysW cI cZ cL) y_D_commonDivisor w_D_commonDivisor 0 0 [.long (lZ ((on : Nat) : Int)), .long (lZ ((ot : Nat) : Int))] (ws) (some (.long (lZ ((Nat.gcd on ot : Nat) : Int)))) := by
  refine z_ofR (by decide) (Nat.le_of_ble_eq_true rfl) ?_
  intro p e s m below meth c ls Z hP hK hl
  obtain ⟨hx, hb, hr, hml, hown, hts, hE, hlocks⟩ := id Z
  have hl : lv_has ls 11 [(0, .long (lZ ((on : Nat) : Int))), (2, .long (lZ ((ot : Nat) : Int)))] := hl
  have hC : ot * on < 2 ^ 99 := Nat.lt_of_le_of_lt (Nat.mul_le_mul (Nat.le_of_lt h.2.2) (Nat.le_of_lt h.2.1)) (by decide)
  refine lv_lload_n hx hb d_D_commonDivisor_0 rfl (lv_at hl 1 rfl) ?_
  refine lv_lstore (lv' := [(4, .long (lZ ((ot : Nat) : Int))), (0, .long (lZ ((on : Nat) : Int))), (2, .long (lZ ((ot : Nat) : Int)))]) hx hb d_D_commonDivisor_1 hl (by decide) rfl (fun ls hl => ?_)
  refine lv_lload_n hx hb d_D_commonDivisor_3 rfl (lv_at hl 1 rfl) ?_
  refine lv_lstore (lv' := [(6, .long (lZ ((on : Nat) : Int))), (4, .long (lZ ((ot : Nat) : Int))), (0, .long (lZ ((on : Nat) : Int))), (2, .long (lZ ((ot : Nat) : Int)))]) hx hb d_D_commonDivisor_4 hl (by decide) rfl (fun ls hl => ?_)
  refine lv_iconst (v := iZ ((0 : Nat) : Int)) hx hb d_D_commonDivisor_6 (by decide) ?_
  refine lv_istore (lv' := [(8, .int (iZ ((0 : Nat) : Int))), (6, .long (lZ ((on : Nat) : Int))), (4, .long (lZ ((ot : Nat) : Int))), (0, .long (lZ ((on : Nat) : Int))), (2, .long (lZ ((ot : Nat) : Int)))]) hx hb d_D_commonDivisor_7 hl (by decide) rfl (fun ls hl => ?_)
  have L9 : ∀ (N9 : Nat) (i : Nat) (lg : Nat) (sm : Nat) (ls : Array Slot), (i ≤ 100) → (lg < 17592186044416 ∧ sm < 17592186044416) → (Nat.gcd lg sm = Nat.gcd on ot) → (gcI (ot * on) i lg sm) → 100 - i < N9 → lv_has ls 11 [(0, .long (lZ ((on : Nat) : Int))), (2, .long (lZ ((ot : Nat) : Int))), (4, .long (lZ ((lg : Nat) : Int))), (6, .long (lZ ((sm : Nat) : Int))), (8, .int (iZ ((i : Nat) : Int)))] → W p l e (zRm 0 0) s m ([.long (lZ ((on : Nat) : Int)), .long (lZ ((ot : Nat) : Int))] : List Value).toArray below meth c s.heap [] 0 0 (MQ below (zQr (some (.long (lZ ((Nat.gcd on ot : Nat) : Int))))) ([.long (lZ ((on : Nat) : Int)), .long (lZ ((ot : Nat) : Int))] : List Value).toArray s 0 0 (fun _ => False)) (F0 m 9 ls []) := by
    intro N9
    induction N9 with
    | zero =>
      intro i lg sm ls hi hb9 hg hq hN9 hl
      exact absurd hN9 (Nat.not_lt_zero _)
    | succ N9 ih9 =>
      intro i lg sm ls hi hb9 hg hq hN9 hl
      refine lv_iload hx hb d_D_commonDivisor_9 (lv_at hl 4 rfl) ?_
      refine lv_bipush (v := iZ ((100 : Nat) : Int)) hx hb d_D_commonDivisor_11 (by decide) ?_
      refine z_icmp_ge (a := ((i : Nat) : Int)) (b := ((100 : Nat) : Int)) (tgt := 44) hx hb (by omega) d_D_commonDivisor_13 (by decide) (fun q13 => ?_) (fun q13 => ?_)
      · skip
        have hs0 : sm = 0 := gcI_100 (by rw [show (100 : Nat) = i by omega]; exact hq) hC
        refine lv_lload hx hb d_D_commonDivisor_44 (lv_at hl 2 rfl) ?_
        exact z_lretR Z d_D_commonDivisor_46 (lretN (by rw [← hg, hs0, Nat.gcd_zero_right]))
      · skip
        refine lv_lload hx hb d_D_commonDivisor_16 (lv_at hl 3 rfl) ?_
        refine lv_lconst (v := lZ ((0 : Nat) : Int)) hx hb d_D_commonDivisor_18 (by decide) ?_
        refine z_lcmp_eq (a := ((sm : Nat) : Int)) (b := ((0 : Nat) : Int)) (tgt := 44) (pc1 := 20) (pc4 := 23) hx hb (by omega) d_D_commonDivisor_19 rfl rfl d_D_commonDivisor_20 (by decide) (fun q19 => ?_) (fun q19 => ?_)
        · skip
          have hs0 : sm = 0 := by omega
          refine lv_lload hx hb d_D_commonDivisor_44 (lv_at hl 2 rfl) ?_
          exact z_lretR Z d_D_commonDivisor_46 (lretN (by rw [← hg, hs0, Nat.gcd_zero_right]))
        · skip
          refine lv_lload hx hb d_D_commonDivisor_23 (lv_at hl 2 rfl) ?_
          refine lv_lload hx hb d_D_commonDivisor_25 (lv_at hl 3 rfl) ?_
          refine z_lremN (u := lg) (v := sm) hx hb (by omega) d_D_commonDivisor_27 ?_
          refine lv_lstore (lv' := [(9, .long (lZ ((lg % sm : Nat) : Int))), (0, .long (lZ ((on : Nat) : Int))), (2, .long (lZ ((ot : Nat) : Int))), (4, .long (lZ ((lg : Nat) : Int))), (6, .long (lZ ((sm : Nat) : Int))), (8, .int (iZ ((i : Nat) : Int)))]) hx hb d_D_commonDivisor_28 hl (by decide) rfl (fun ls hl => ?_)
          refine lv_lload hx hb d_D_commonDivisor_30 (lv_at hl 4 rfl) ?_
          refine lv_lstore (lv' := [(4, .long (lZ ((sm : Nat) : Int))), (9, .long (lZ ((lg % sm : Nat) : Int))), (0, .long (lZ ((on : Nat) : Int))), (2, .long (lZ ((ot : Nat) : Int))), (6, .long (lZ ((sm : Nat) : Int))), (8, .int (iZ ((i : Nat) : Int)))]) hx hb d_D_commonDivisor_32 hl (by decide) rfl (fun ls hl => ?_)
          refine lv_lload hx hb d_D_commonDivisor_34 (lv_at hl 1 rfl) ?_
          refine lv_lstore (lv' := [(6, .long (lZ ((lg % sm : Nat) : Int))), (4, .long (lZ ((sm : Nat) : Int))), (9, .long (lZ ((lg % sm : Nat) : Int))), (0, .long (lZ ((on : Nat) : Int))), (2, .long (lZ ((ot : Nat) : Int))), (8, .int (iZ ((i : Nat) : Int)))]) hx hb d_D_commonDivisor_36 hl (by decide) rfl (fun ls hl => ?_)
          refine lv_iinc (v := iZ ((i + 1 : Nat) : Int)) (lv' := [(8, .int (iZ ((i + 1 : Nat) : Int))), (6, .long (lZ ((lg % sm : Nat) : Int))), (4, .long (lZ ((sm : Nat) : Int))), (9, .long (lZ ((lg % sm : Nat) : Int))), (0, .long (lZ ((on : Nat) : Int))), (2, .long (lZ ((ot : Nat) : Int)))]) hx hb d_D_commonDivisor_38 hl (k := 5) rfl (iZ_inc (i) 1) (by decide) rfl (fun ls hl => ?_)
          refine lv_goto (tgt := 9) hx hb d_D_commonDivisor_41 (by decide) ?_
          exact ih9 (i + 1) sm (lg % sm) ls (by omega) (⟨hb9.2, Nat.lt_trans (Nat.mod_lt lg (by omega)) hb9.2⟩) ((gc_step lg sm).trans hg) (gcI_s hq (by omega)) (by omega) (lv_sub hl [4, 5, 2, 1, 0] rfl)
  exact L9 (100 - 0 + 1) 0 ot on ls (Nat.zero_le _) (⟨h.2.2, h.2.1⟩) (Nat.gcd_comm _ _) (⟨h.1, Or.inl rfl, by show ot * on * 1 ≤ ot * on; omega⟩) (by omega) (lv_sub hl [3, 4, 2, 1, 0] rfl)

set_option maxHeartbeats 4000000 in
set_option maxRecDepth 100000 in
theorem k_D_toldPart {l : Launch} {D : va_G} {cI cZ cL : ClassId} {ws : va_W} {a : Int} {bl pt : Nat} (h : -17592186044416 < a ∧ a < 17592186044416 ∧ bl < 17592186044416 ∧ pt < 2) : zMr l TB D classes (tysW cI cZ cL) y_D_toldPart w_D_toldPart 1 40 [.long (lZ (a)), .long (lZ ((bl : Nat) : Int)), .int (iZ ((pt : Nat) : Int))] (ws) (some (.long (lZ (sTP a bl pt)))) := by
  refine z_ofR (by decide) (Nat.le_of_ble_eq_true rfl) ?_
  intro p e s m below meth c ls Z hP hK hl
  obtain ⟨hx, hb, hr, hml, hown, hts, hE, hlocks⟩ := id Z
  have hl : lv_has ls 7 [(0, .long (lZ (a))), (2, .long (lZ ((bl : Nat) : Int))), (4, .int (iZ ((pt : Nat) : Int)))] := hl
  refine lv_lload_n hx hb d_D_toldPart_0 rfl (lv_at hl 1 rfl) ?_
  refine lv_lconst (v := lZ ((1 : Nat) : Int)) hx hb d_D_toldPart_1 (by decide) ?_
  refine z_lcmp_ge (a := ((bl : Nat) : Int)) (b := ((1 : Nat) : Int)) (tgt := 17) (pc1 := 3) (pc4 := 6) hx hb (by omega) d_D_toldPart_2 rfl rfl d_D_toldPart_3 (by decide) (fun q2 => ?_) (fun q2 => ?_)
  · skip
    refine lv_lload_n hx hb d_D_toldPart_17 rfl (lv_at hl 0 rfl) ?_
    refine va_mabs_long hx hb (Z.2.2.2.1.trans hl.1.symm) hown (hts _ ml9_D_187) (hts _ sm_Math_absJ9) (hts _ ini_Math) (hts _ co_Math_absJ9) (Nat.le_of_ble_eq_true rfl) (Nat.le_of_ble_eq_true rfl) (Nat.zero_le _) (Nat.zero_le _) d_D_toldPart_18 ?_
    refine z_topL (b := lZ (((a).natAbs : Nat) : Int)) (z_absL (by omega)) ?_
    refine W.eq (g2 := F0 m 21 ls [.long (lZ (((a).natAbs : Nat) : Int))]) rfl ?_
    refine lv_lload_n hx hb d_D_toldPart_21 rfl (lv_at hl 1 rfl) ?_
    refine z_callSR (As := [.long (lZ (((a).natAbs : Nat) : Int)), .long (lZ ((bl : Nat) : Int))]) (rest := []) zTB Z (k_D_commonDivisor (on := (a).natAbs) (ot := bl) (by omega)) ⟨ml_D_190, sm_D_commonDivisor, ini_D, co_D_commonDivisor⟩ zd_D_commonDivisor ⟨Nat.le_of_ble_eq_true rfl, Nat.le_of_ble_eq_true rfl⟩ hP hK hl.1 rfl (Nat.le_of_ble_eq_true rfl) d_D_toldPart_22 ⟨Nat.zero_le _, Nat.zero_le _⟩ ?_
    refine W.eq (g2 := F0 m 25 ls [.long (lZ ((Nat.gcd ((a).natAbs) bl : Nat) : Int))]) rfl ?_
    have hgp : 0 < Nat.gcd (a).natAbs bl := Nat.gcd_pos_of_pos_right _ (by omega)
    have hgl : Nat.gcd (a).natAbs bl ≤ bl := Nat.gcd_le_right _ (by omega)
    refine lv_lstore (lv' := [(5, .long (lZ ((Nat.gcd ((a).natAbs) bl : Nat) : Int))), (0, .long (lZ (a))), (2, .long (lZ ((bl : Nat) : Int))), (4, .int (iZ ((pt : Nat) : Int)))]) hx hb d_D_toldPart_25 hl (by decide) rfl (fun ls hl => ?_)
    refine lv_lload hx hb d_D_toldPart_27 (lv_at hl 0 rfl) ?_
    refine lv_lconst (v := lZ ((1 : Nat) : Int)) hx hb d_D_toldPart_29 (by decide) ?_
    refine z_lcmp_ge (a := ((Nat.gcd ((a).natAbs) bl : Nat) : Int)) (b := ((1 : Nat) : Int)) (tgt := 45) (pc1 := 31) (pc4 := 34) hx hb (by omega) d_D_toldPart_30 rfl rfl d_D_toldPart_31 (by decide) (fun q30 => ?_) (fun q30 => ?_)
    · skip
      refine lv_iload hx hb d_D_toldPart_45 (lv_at hl 3 rfl) ?_
      refine z_if_ne (a := ((pt : Nat) : Int)) (tgt := 57) hx hb (by omega) d_D_toldPart_47 (by decide) (fun q47 => ?_) (fun q47 => ?_)
      · skip
        refine lv_lload_n hx hb d_D_toldPart_57 rfl (lv_at hl 2 rfl) ?_
        refine lv_lload hx hb d_D_toldPart_58 (lv_at hl 0 rfl) ?_
        refine z_ldiv (a := ((bl : Nat) : Int)) (b := ((Nat.gcd ((a).natAbs) bl : Nat) : Int)) hx hb (by omega) d_D_toldPart_60 ?_
        exact z_lretR Z d_D_toldPart_61 (lretZ (by unfold sTP; rw [if_neg (by omega)]; first | (rw [if_pos (by omega)]; done) | (rw [if_neg (by omega)]; done)))
      · skip
        refine lv_lload_n hx hb d_D_toldPart_50 rfl (lv_at hl 1 rfl) ?_
        refine lv_lload hx hb d_D_toldPart_51 (lv_at hl 0 rfl) ?_
        refine z_ldiv (a := a) (b := ((Nat.gcd ((a).natAbs) bl : Nat) : Int)) hx hb (by omega) d_D_toldPart_53 ?_
        refine lv_goto (tgt := 61) hx hb d_D_toldPart_54 (by decide) ?_
        exact z_lretR Z d_D_toldPart_61 (lretZ (by unfold sTP; rw [if_neg (by omega)]; first | (rw [if_pos (by omega)]; done) | (rw [if_neg (by omega)]; done)))
    · skip
      exfalso; omega
  · skip
    refine lv_iload hx hb d_D_toldPart_6 (lv_at hl 2 rfl) ?_
    refine z_if_ne (a := ((pt : Nat) : Int)) (tgt := 15) hx hb (by omega) d_D_toldPart_8 (by decide) (fun q8 => ?_) (fun q8 => ?_)
    · skip
      refine lv_lconst (v := lZ ((1 : Nat) : Int)) hx hb d_D_toldPart_15 (by decide) ?_
      exact z_lretR Z d_D_toldPart_16 (lretZ (by unfold sTP; rw [if_pos (by omega)]; first | (rw [if_pos (by omega)]; rfl) | (rw [if_neg (by omega)]; rfl)))
    · skip
      refine lv_lconst (v := lZ ((0 : Nat) : Int)) hx hb d_D_toldPart_11 (by decide) ?_
      refine lv_goto (tgt := 16) hx hb d_D_toldPart_12 (by decide) ?_
      exact z_lretR Z d_D_toldPart_16 (lretZ (by unfold sTP; rw [if_pos (by omega)]; first | (rw [if_pos (by omega)]; rfl) | (rw [if_neg (by omega)]; rfl)))
end
section
/-! Integer.signum; the camera; the face's reading methods. -/
def y_sg : MethodName := ⟨"java/lang/Integer", "signum", "(I)I"⟩
abbrev c_sg : ByteArray := prog_12_method_56_code
theorem d_sg_0 : decode c_sg 0 = .ok (.iload_n 0, 1) := by decide +kernel
theorem d_sg_1 : decode c_sg 1 = .ok (.bipush 31, 2) := by decide +kernel
theorem d_sg_3 : decode c_sg 3 = .ok (.ishr, 1) := by decide +kernel
theorem d_sg_4 : decode c_sg 4 = .ok (.iload_n 0, 1) := by decide +kernel
theorem d_sg_5 : decode c_sg 5 = .ok (.ineg, 1) := by decide +kernel
theorem d_sg_6 : decode c_sg 6 = .ok (.bipush 31, 2) := by decide +kernel
theorem d_sg_8 : decode c_sg 8 = .ok (.iushr, 1) := by decide +kernel
theorem d_sg_9 : decode c_sg 9 = .ok (.ior, 1) := by decide +kernel
theorem d_sg_10 : decode c_sg 10 = .ok (.ireturn, 1) := by decide +kernel
theorem sg_tn (z : Int) : (iZ z).toBitVec.toNat = (z % 4294967296).toNat := BitVec.toNat_ofInt z
theorem sg_eq {a : Int} (h : z32 a) : (iZ a >>> ((31 : Int32) &&& 31)) ||| ((-iZ a).toUInt32 >>> ((31 : Int32).toUInt32 &&& Int32.toUInt32 31)).toInt32 = iZ a.sign := by
  have h1 : (iZ a >>> ((31 : Int32) &&& 31)).toInt = (iZ a).toInt >>> 31 := pk_shr (iZ a) ((31 : Int32) &&& 31) 31 (by decide)
  rw [iZ_t h, Int.shiftRight_eq_div_pow] at h1
  have h2 := pk_ushr (-iZ a) 31 31 (by decide)
  rw [iZ_neg, sg_tn] at h2
  rw [iZ_neg]
  generalize hB : ((iZ (-a)).toUInt32 >>> ((31 : Int32).toUInt32 &&& Int32.toUInt32 31)).toInt32 = B at h2 ⊢
  generalize hA : iZ a >>> ((31 : Int32) &&& 31) = A9 at h1 ⊢
  rcases Int.lt_trichotomy a 0 with q | q | q
  · have e1 : A9 = -1 := Int32.toInt_inj.mp (by rw [h1]; show a / 2147483648 = -1; omega)
    rw [e1, Int.sign_eq_neg_one_of_neg q]
    exact Int32.toBitVec_inj.mp (BitVec.allOnes_or)
  · subst q
    have e1 : A9 = 0 := Int32.toInt_inj.mp (by rw [h1]; decide)
    have e2 : B = 0 := Int32.toBitVec_inj.mp (BitVec.eq_of_toNat_eq (by rw [h2]; decide))
    rw [e1, e2]; rfl
  · have e1 : A9 = 0 := Int32.toInt_inj.mp (by rw [h1]; show a / 2147483648 = 0; omega)
    have e2 : B = 1 := Int32.toBitVec_inj.mp (BitVec.eq_of_toNat_eq (by
      rw [h2]
      have e3 : (-a % 4294967296).toNat = (4294967296 - a).toNat := by omega
      rw [e3]
      show (4294967296 - a).toNat / 2147483648 = 1
      omega))
    rw [e1, e2, Int.sign_eq_one_of_pos q]; rfl
set_option maxHeartbeats 4000000 in
set_option maxRecDepth 100000 in
theorem k_sg {l : Launch} {D : va_G} {cI cZ cL : ClassId} {ws : va_W} {a : Int} (h : z32 a) : zMr l TB D classes (tysW cI cZ cL) y_sg (.code y_sg c_sg 1 (some .int)) 0 0 [.int (iZ a)] ws (some (.int (iZ a.sign))) := by
  refine z_ofR (by decide) (Nat.le_of_ble_eq_true rfl) ?_
  intro p e s m below meth c ls Z hP hK hl
  obtain ⟨hx, hb, hr, hml, hown, hts, hE, hlocks⟩ := id Z
  have hl : lv_has ls 1 [(0, .int (iZ a))] := hl
  refine lv_iload_n hx hb d_sg_0 rfl (lv_at hl 0 rfl) ?_
  refine lv_bipush (v := 31) hx hb d_sg_1 (by decide) ?_
  refine lv_ishr hx hb d_sg_3 ?_
  refine lv_iload_n hx hb d_sg_4 rfl (lv_at hl 0 rfl) ?_
  refine lv_ineg hx hb d_sg_5 ?_
  refine lv_bipush (v := 31) hx hb d_sg_6 (by decide) ?_
  refine lv_iushr hx hb d_sg_8 rfl ?_
  refine lv_ior hx hb d_sg_9 ?_
  exact z_iretR Z d_sg_10 (by rw [sg_eq h])
theorem co_sg : Cond.code y_sg c_sg 1 (some .int) ∈ TB := zmem 488 (by decide +kernel) (by decide +kernel)
theorem zd_sg : zdY y_sg 1 := by decide +kernel
/-- what holds of the readers' row -/
def RI (rd : Nat → Int) : Prop := ∀ j, -1 ≤ rd j ∧ rd j ≤ 100000
def sUn (rd : Nat → Int) (h : Nat) : Bool := decide (rd (h * 2) ≠ -1 ∧ rd (h * 2 + 1) ≠ -1 ∧ rd (h * 2) + rd (h * 2 + 1) < 10 * (((rd (h * 2) - rd (h * 2 + 1)).natAbs : Nat) : Int))
def sUl (rd : Nat → Int) : Nat → Nat → Int
  | 0, _ => -1
  | r + 1, h => if sUn rd h = true then ((h : Nat) : Int) else sUl rd r (h + 1)
def sPr (J : SJ) (pp wh : Nat) : Nat := if wh = 0 then jdh J pp else if wh = 1 then jph J pp else jsp J pp
def sHt (J : SJ) (kd : Nat) : Nat → Int
  | 0 => 0
  | i + 1 => sHt J kd i - (sKd J i kd).sign
def sSt (J : SJ) (kd : Nat) (up lo : Nat) : Nat → Nat → Int
  | 0, _ => -1
  | r + 1, i => if sHt J kd (i + 1) = ((up : Nat) : Int) then ((2 * i : Nat) : Int) else if sHt J kd (i + 1) = -((lo : Nat) : Int) then ((2 * i + 1 : Nat) : Int) else sSt J kd up lo r (i + 1)
theorem sHt_b (J : SJ) (kd i : Nat) : -(i : Int) ≤ sHt J kd i ∧ sHt J kd i ≤ (i : Int) := by
  induction i with
  | zero => exact ⟨by show -((0 : Nat) : Int) ≤ 0; omega, by show (0 : Int) ≤ ((0 : Nat) : Int); omega⟩
  | succ i ih =>
    show -((i + 1 : Nat) : Int) ≤ sHt J kd i - (sKd J i kd).sign ∧ sHt J kd i - (sKd J i kd).sign ≤ ((i + 1 : Nat) : Int)
    rcases Int.lt_trichotomy (sKd J i kd) 0 with q | q | q
    · rw [Int.sign_eq_neg_one_of_neg q]; omega
    · rw [q, Int.sign_zero]; omega
    · rw [Int.sign_eq_one_of_pos q]; omega
def sLo (J : SJ) (pr : Nat → Nat) : Nat → Int
  | 0 => 0
  | k + 1 => sLo J pr k - ((pr k : Nat) : Int) * sSO J 4 k (jk J)
theorem sg_b (a : Int) : -1 ≤ a.sign ∧ a.sign ≤ 1 := by
  rcases Int.lt_trichotomy a 0 with q | q | q
  · rw [Int.sign_eq_neg_one_of_neg q]; omega
  · rw [q, Int.sign_zero]; omega
  · rw [Int.sign_eq_one_of_pos q]; omega
set_option maxHeartbeats 4000000 in
set_option maxRecDepth 100000 in
theorem k_C_differs {l : Launch} {D : va_G} {ad : Nat → Nat} {cI cZ cL : ClassId} {J : SJ} {rd : Nat → Int} {pr : Nat → Nat} {G : SH} {K : SK} {tl : va_W} (hR : RI rd) {h : Nat} (hh : h < 32) : zMr l TB D classes (tysW cI cZ cL) y_C_differs w_C_differs 1 40 [.ref (ad 9), .int (iZ ((h : Nat) : Int))] (wdC ad cI cZ cL J rd pr G K tl) (some (.int (bI (sUn rd h)))) := by
  refine z_ofR (by decide) (Nat.le_of_ble_eq_true rfl) ?_
  intro p e s m below meth c ls Z hP hK hl
  obtain ⟨hx, hb, hr, hml, hown, hts, hE, hlocks⟩ := id Z
  have hl : lv_has ls 4 [(0, .ref (ad 9)), (1, .int (iZ ((h : Nat) : Int)))] := hl
  have hr1 := hR (h * 2)
  have hr2 := hR (h * 2 + 1)
  refine lv_aload_n hx hb d_C_differs_0 rfl (lv_at hl 0 rfl) ?_
  refine va_get (D := D) (ci := 2) (v := .ref (ad 10)) (C := n_C) (T := f_C) (N := 1) hx hb hts in_C hown hK hP 9 rfl rfl 0 (by decide) (hts _ fl_C_9) (fun _ h9 => h9) rfl d_C_differs_1 ?_
  refine lv_iload_n hx hb d_C_differs_4 rfl (lv_at hl 1 rfl) ?_
  refine lv_iconst (v := iZ ((2 : Nat) : Int)) hx hb d_C_differs_5 (by decide) ?_
  refine z_imulN (u := h) (v := 2) hx hb d_C_differs_6 ?_
  refine z_iald (f := rd) hx hb hK hP 10 0 rfl rfl (h * 2) (by omega) d_C_differs_7 ?_
  refine lv_istore_n (lv' := [(2, .int (iZ (rd (h * 2)))), (0, .ref (ad 9)), (1, .int (iZ ((h : Nat) : Int)))]) hx hb d_C_differs_8 rfl hl (by decide) rfl (fun ls hl => ?_)
  refine lv_aload_n hx hb d_C_differs_9 rfl (lv_at hl 1 rfl) ?_
  refine va_get (D := D) (ci := 2) (v := .ref (ad 10)) (C := n_C) (T := f_C) (N := 1) hx hb hts in_C hown hK hP 9 rfl rfl 0 (by decide) (hts _ fl_C_9) (fun _ h9 => h9) rfl d_C_differs_10 ?_
  refine lv_iload_n hx hb d_C_differs_13 rfl (lv_at hl 2 rfl) ?_
  refine lv_iconst (v := iZ ((2 : Nat) : Int)) hx hb d_C_differs_14 (by decide) ?_
  refine z_imulN (u := h) (v := 2) hx hb d_C_differs_15 ?_
  refine lv_iconst (v := iZ ((1 : Nat) : Int)) hx hb d_C_differs_16 (by decide) ?_
  refine z_iaddN (u := h * 2) (v := 1) hx hb d_C_differs_17 ?_
  refine z_iald (f := rd) hx hb hK hP 10 0 rfl rfl ((h * 2) + 1) (by omega) d_C_differs_18 ?_
  refine lv_istore_n (lv' := [(3, .int (iZ (rd ((h * 2) + 1)))), (2, .int (iZ (rd (h * 2)))), (0, .ref (ad 9)), (1, .int (iZ ((h : Nat) : Int)))]) hx hb d_C_differs_19 rfl hl (by decide) rfl (fun ls hl => ?_)
  refine lv_iload_n hx hb d_C_differs_20 rfl (lv_at hl 1 rfl) ?_
  refine lv_iconst (v := iZ ((-1 : Int))) hx hb d_C_differs_21 (by decide) ?_
  refine z_icmp_eq (a := rd (h * 2)) (b := (-1 : Int)) (tgt := 49) hx hb (by omega) d_C_differs_22 (by decide) (fun q22 => ?_) (fun q22 => ?_)
  · skip
    refine lv_iconst (v := iZ ((0 : Nat) : Int)) hx hb d_C_differs_49 (by decide) ?_
    refine W.eq (g2 := F0 m 50 ls [.int (bI false)]) rfl ?_
    exact z_zretR Z d_C_differs_50 (bret (by unfold sUn; first | exact (decide_eq_true (by omega)).symm | exact (decide_eq_false (by omega)).symm))
  · skip
    refine lv_iload_n hx hb d_C_differs_25 rfl (lv_at hl 0 rfl) ?_
    refine lv_iconst (v := iZ ((-1 : Int))) hx hb d_C_differs_26 (by decide) ?_
    refine z_icmp_eq (a := rd ((h * 2) + 1)) (b := (-1 : Int)) (tgt := 49) hx hb (by omega) d_C_differs_27 (by decide) (fun q27 => ?_) (fun q27 => ?_)
    · skip
      refine lv_iconst (v := iZ ((0 : Nat) : Int)) hx hb d_C_differs_49 (by decide) ?_
      refine W.eq (g2 := F0 m 50 ls [.int (bI false)]) rfl ?_
      exact z_zretR Z d_C_differs_50 (bret (by unfold sUn; first | exact (decide_eq_true (by omega)).symm | exact (decide_eq_false (by omega)).symm))
    · skip
      refine lv_bipush (v := iZ ((10 : Nat) : Int)) hx hb d_C_differs_30 (by decide) ?_
      refine lv_iload_n hx hb d_C_differs_32 rfl (lv_at hl 1 rfl) ?_
      refine lv_iload_n hx hb d_C_differs_33 rfl (lv_at hl 0 rfl) ?_
      refine z_isub (a := rd (h * 2)) (b := rd ((h * 2) + 1)) hx hb d_C_differs_34 ?_
      refine va_mabs hx hb (Z.2.2.2.1.trans hl.1.symm) hown (hts _ ml9_C_15) (hts _ sm_Math_abs9) (hts _ ini_Math) (hts _ co_Math_abs9) (Nat.le_of_ble_eq_true rfl) (Nat.le_of_ble_eq_true rfl) (Nat.zero_le _) (Nat.zero_le _) d_C_differs_35 ?_
      refine z_topI (b := iZ ((((rd (h * 2)) - (rd ((h * 2) + 1))).natAbs : Nat) : Int)) (z_abs (by omega)) ?_
      refine W.eq (g2 := F0 m 38 ls [.int (iZ ((((rd (h * 2)) - (rd ((h * 2) + 1))).natAbs : Nat) : Int)), .int (iZ ((10 : Nat) : Int))]) rfl ?_
      refine z_imulN (u := 10) (v := ((rd (h * 2)) - (rd ((h * 2) + 1))).natAbs) hx hb d_C_differs_38 ?_
      refine lv_iload_n hx hb d_C_differs_39 rfl (lv_at hl 1 rfl) ?_
      refine lv_iload_n hx hb d_C_differs_40 rfl (lv_at hl 0 rfl) ?_
      refine z_iadd (a := rd (h * 2)) (b := rd ((h * 2) + 1)) hx hb d_C_differs_41 ?_
      refine z_icmp_le (a := ((10 * (((rd (h * 2)) - (rd ((h * 2) + 1))).natAbs) : Nat) : Int)) (b := (rd (h * 2)) + (rd ((h * 2) + 1))) (tgt := 49) hx hb (by omega) d_C_differs_42 (by decide) (fun q42 => ?_) (fun q42 => ?_)
      · skip
        refine lv_iconst (v := iZ ((0 : Nat) : Int)) hx hb d_C_differs_49 (by decide) ?_
        refine W.eq (g2 := F0 m 50 ls [.int (bI false)]) rfl ?_
        exact z_zretR Z d_C_differs_50 (bret (by unfold sUn; first | exact (decide_eq_true (by omega)).symm | exact (decide_eq_false (by omega)).symm))
      · skip
        refine lv_iconst (v := iZ ((1 : Nat) : Int)) hx hb d_C_differs_45 (by decide) ?_
        refine lv_goto (tgt := 50) hx hb d_C_differs_46 (by decide) ?_
        refine W.eq (g2 := F0 m 50 ls [.int (bI true)]) rfl ?_
        exact z_zretR Z d_C_differs_50 (bret (by unfold sUn; first | exact (decide_eq_true (by omega)).symm | exact (decide_eq_false (by omega)).symm))

set_option maxHeartbeats 4000000 in
set_option maxRecDepth 100000 in
theorem k_D_arm {l : Launch} {D : va_G} {ad : Nat → Nat} {cI cZ cL : ClassId} {J : SJ} {rd : Nat → Int} {pr : Nat → Nat} {G : SH} {K : SK} {tl : va_W} (hI : JI J) {h : Nat} (hh : h < jn J) : zMr l TB D classes (tysW cI cZ cL) y_D_arm w_D_arm 3 82 [.ref (ad 0), .int (iZ ((h : Nat) : Int))] (wdC ad cI cZ cL J rd pr G K tl) (some (.int (iZ (((if jdv J h = true then 1 else 0 : Nat)) : Int)))) := by
  refine z_ofR (by decide) (Nat.le_of_ble_eq_true rfl) ?_
  intro p e s m below meth c ls Z hP hK hl
  obtain ⟨hx, hb, hr, hml, hown, hts, hE, hlocks⟩ := id Z
  have hl : lv_has ls 2 [(0, .ref (ad 0)), (1, .int (iZ ((h : Nat) : Int)))] := hl
  obtain ⟨hn32, hk2, hpr, hct⟩ := id hI
  refine lv_aload_n hx hb d_D_arm_0 rfl (lv_at hl 0 rfl) ?_
  refine lv_iload_n hx hb d_D_arm_1 rfl (lv_at hl 1 rfl) ?_
  refine z_callVR (As := [.int (iZ ((h : Nat) : Int))]) (rest := []) zTB Z (k_D_needHaul (a := ((h : Nat) : Int)) (by omega)) ⟨ml_D_61, im_D_needHaul, se_D_needHaul, ini_D, co_D_needHaul⟩ zd_D_needHaul ⟨Nat.le_of_ble_eq_true rfl, Nat.le_of_ble_eq_true rfl⟩ hP hK (ci := 0) (q0 := 0) rfl rfl rfl hl.1 rfl (Nat.le_of_ble_eq_true rfl) d_D_arm_2 ⟨Nat.zero_le _, Nat.zero_le _⟩ ?_
  refine W.eq (g2 := F0 m 5 ls []) rfl ?_
  refine lv_aload_n hx hb d_D_arm_5 rfl (lv_at hl 0 rfl) ?_
  refine va_get (D := D) (ci := 0) (v := .ref (ad 1)) (C := n_D) (T := f_D) (N := 5) hx hb hts in_D hown hK hP 0 rfl rfl 0 (by decide) (hts _ fl_D_14) (fun _ h9 => h9) rfl d_D_arm_6 ?_
  refine va_getN (D := D) (ci := 1) (v := .ref (ad 4)) (C := n_J) (T := f_J) (N := 10) hx hb hts in_J hown hK hP 1 rfl rfl 5 (by decide) (hts _ fl_D_79) (fun _ h9 => h9) rfl d_D_arm_9 ?_
  refine lv_iload_n hx hb d_D_arm_12 rfl (lv_at hl 1 rfl) ?_
  refine z_zald (f := jdv J) hx hb hK hP 4 1 rfl rfl (h) (by omega) d_D_arm_13 ?_
  refine z_if_eqB (b := (jdv J) (h)) (tgt := 21) hx hb d_D_arm_14 (by decide) (fun q14 => ?_) (fun q14 => ?_)
  · skip
    refine lv_iconst (v := iZ ((0 : Nat) : Int)) hx hb d_D_arm_21 (by decide) ?_
    exact z_iretR Z d_D_arm_22 (iretN (by simp [q14]))
  · skip
    refine lv_iconst (v := iZ ((1 : Nat) : Int)) hx hb d_D_arm_17 (by decide) ?_
    refine lv_goto (tgt := 22) hx hb d_D_arm_18 (by decide) ?_
    exact z_iretR Z d_D_arm_22 (iretN (by simp [q14]))

set_option maxHeartbeats 4000000 in
set_option maxRecDepth 100000 in
theorem k_D_pair {l : Launch} {D : va_G} {ad : Nat → Nat} {cI cZ cL : ClassId} {J : SJ} {rd : Nat → Int} {pr : Nat → Nat} {G : SH} {K : SK} {tl : va_W} (hI : JI J) {pp wh : Nat} (hp : pp < jk J) (hw : wh < 3) : zMr l TB D classes (tysW cI cZ cL) y_D_pair w_D_pair 3 82 [.ref (ad 0), .int (iZ ((pp : Nat) : Int)), .int (iZ ((wh : Nat) : Int))] (wdC ad cI cZ cL J rd pr G K tl) (some (.int (iZ ((sPr J pp wh : Nat) : Int)))) := by
  refine z_ofR (by decide) (Nat.le_of_ble_eq_true rfl) ?_
  intro p e s m below meth c ls Z hP hK hl
  obtain ⟨hx, hb, hr, hml, hown, hts, hE, hlocks⟩ := id Z
  have hl : lv_has ls 3 [(0, .ref (ad 0)), (1, .int (iZ ((pp : Nat) : Int))), (2, .int (iZ ((wh : Nat) : Int)))] := hl
  obtain ⟨hn32, hk2, hpr, hct⟩ := id hI
  refine lv_aload_n hx hb d_D_pair_0 rfl (lv_at hl 0 rfl) ?_
  refine lv_iload_n hx hb d_D_pair_1 rfl (lv_at hl 1 rfl) ?_
  refine z_callVR (As := [.int (iZ ((pp : Nat) : Int))]) (rest := []) zTB Z (k_D_needPair (a := ((pp : Nat) : Int)) (by omega)) ⟨ml_D_83, im_D_needPair, se_D_needPair, ini_D, co_D_needPair⟩ zd_D_needPair ⟨Nat.le_of_ble_eq_true rfl, Nat.le_of_ble_eq_true rfl⟩ hP hK (ci := 0) (q0 := 0) rfl rfl rfl hl.1 rfl (Nat.le_of_ble_eq_true rfl) d_D_pair_2 ⟨Nat.zero_le _, Nat.zero_le _⟩ ?_
  refine W.eq (g2 := F0 m 5 ls []) rfl ?_
  refine lv_iload_n hx hb d_D_pair_5 rfl (lv_at hl 2 rfl) ?_
  refine lv_iconst (v := iZ ((3 : Nat) : Int)) hx hb d_D_pair_6 (by decide) ?_
  refine z_callSR (As := [.int (iZ ((wh : Nat) : Int)), .int (iZ ((3 : Nat) : Int))]) (rest := []) zTB Z (k_D_needIndex (a := ((wh : Nat) : Int)) (b := ((3 : Nat) : Int)) (by omega)) ⟨ml_D_86, sm_D_needIndex, ini_D, co_D_needIndex⟩ zd_D_needIndex ⟨Nat.le_of_ble_eq_true rfl, Nat.le_of_ble_eq_true rfl⟩ hP hK hl.1 rfl (Nat.le_of_ble_eq_true rfl) d_D_pair_7 ⟨Nat.zero_le _, Nat.zero_le _⟩ ?_
  refine W.eq (g2 := F0 m 10 ls []) rfl ?_
  refine lv_iload_n hx hb d_D_pair_10 rfl (lv_at hl 2 rfl) ?_
  refine z_if_ne (a := ((wh : Nat) : Int)) (tgt := 24) hx hb (by omega) d_D_pair_11 (by decide) (fun q11 => ?_) (fun q11 => ?_)
  · skip
    refine lv_iload_n hx hb d_D_pair_24 rfl (lv_at hl 2 rfl) ?_
    refine lv_iconst (v := iZ ((1 : Nat) : Int)) hx hb d_D_pair_25 (by decide) ?_
    refine z_icmp_ne (a := ((wh : Nat) : Int)) (b := ((1 : Nat) : Int)) (tgt := 41) hx hb (by omega) d_D_pair_26 (by decide) (fun q26 => ?_) (fun q26 => ?_)
    · skip
      refine lv_aload_n hx hb d_D_pair_41 rfl (lv_at hl 0 rfl) ?_
      refine va_get (D := D) (ci := 0) (v := .ref (ad 1)) (C := n_D) (T := f_D) (N := 5) hx hb hts in_D hown hK hP 0 rfl rfl 0 (by decide) (hts _ fl_D_14) (fun _ h9 => h9) rfl d_D_pair_42 ?_
      refine va_getN (D := D) (ci := 1) (v := .ref (ad 8)) (C := n_J) (T := f_J) (N := 10) hx hb hts in_J hown hK hP 1 rfl rfl 9 (by decide) (hts _ fl_D_96) (fun _ h9 => h9) rfl d_D_pair_45 ?_
      refine lv_iload_n hx hb d_D_pair_48 rfl (lv_at hl 1 rfl) ?_
      refine z_ialdN (f := jsp J) hx hb hK hP 8 0 rfl rfl (pp) (by omega) d_D_pair_49 ?_
      exact z_iretR Z d_D_pair_50 (iretN (by unfold sPr; first | rw [if_pos (by omega)] | rw [if_neg (by omega), if_pos (by omega)] | rw [if_neg (by omega), if_neg (by omega)]))
    · skip
      refine lv_aload_n hx hb d_D_pair_29 rfl (lv_at hl 0 rfl) ?_
      refine va_get (D := D) (ci := 0) (v := .ref (ad 1)) (C := n_D) (T := f_D) (N := 5) hx hb hts in_D hown hK hP 0 rfl rfl 0 (by decide) (hts _ fl_D_14) (fun _ h9 => h9) rfl d_D_pair_30 ?_
      refine va_getN (D := D) (ci := 1) (v := .ref (ad 7)) (C := n_J) (T := f_J) (N := 10) hx hb hts in_J hown hK hP 1 rfl rfl 8 (by decide) (hts _ fl_D_93) (fun _ h9 => h9) rfl d_D_pair_33 ?_
      refine lv_iload_n hx hb d_D_pair_36 rfl (lv_at hl 1 rfl) ?_
      refine z_ialdN (f := jph J) hx hb hK hP 7 0 rfl rfl (pp) (by omega) d_D_pair_37 ?_
      refine lv_goto (tgt := 50) hx hb d_D_pair_38 (by decide) ?_
      exact z_iretR Z d_D_pair_50 (iretN (by unfold sPr; first | rw [if_pos (by omega)] | rw [if_neg (by omega), if_pos (by omega)] | rw [if_neg (by omega), if_neg (by omega)]))
  · skip
    refine lv_aload_n hx hb d_D_pair_14 rfl (lv_at hl 0 rfl) ?_
    refine va_get (D := D) (ci := 0) (v := .ref (ad 1)) (C := n_D) (T := f_D) (N := 5) hx hb hts in_D hown hK hP 0 rfl rfl 0 (by decide) (hts _ fl_D_14) (fun _ h9 => h9) rfl d_D_pair_15 ?_
    refine va_getN (D := D) (ci := 1) (v := .ref (ad 6)) (C := n_J) (T := f_J) (N := 10) hx hb hts in_J hown hK hP 1 rfl rfl 7 (by decide) (hts _ fl_D_90) (fun _ h9 => h9) rfl d_D_pair_18 ?_
    refine lv_iload_n hx hb d_D_pair_21 rfl (lv_at hl 1 rfl) ?_
    refine z_ialdN (f := jdh J) hx hb hK hP 6 0 rfl rfl (pp) (by omega) d_D_pair_22 ?_
    exact z_iretR Z d_D_pair_23 (iretN (by unfold sPr; first | rw [if_pos (by omega)] | rw [if_neg (by omega), if_pos (by omega)] | rw [if_neg (by omega), if_neg (by omega)]))

set_option maxHeartbeats 4000000 in
set_option maxRecDepth 100000 in
theorem k_D_pairs {l : Launch} {D : va_G} {ad : Nat → Nat} {cI cZ cL : ClassId} {J : SJ} {rd : Nat → Int} {pr : Nat → Nat} {G : SH} {K : SK} {tl : va_W} : zMr l TB D classes (tysW cI cZ cL) y_D_pairs w_D_pairs 0 0 [.ref (ad 0)] (wdC ad cI cZ cL J rd pr G K tl) (some (.int (iZ ((jk J : Nat) : Int)))) := by
  refine z_ofR (by decide) (Nat.le_of_ble_eq_true rfl) ?_
  intro p e s m below meth c ls Z hP hK hl
  obtain ⟨hx, hb, hr, hml, hown, hts, hE, hlocks⟩ := id Z
  have hl : lv_has ls 1 [(0, .ref (ad 0))] := hl
  refine lv_aload_n hx hb d_D_pairs_0 rfl (lv_at hl 0 rfl) ?_
  refine va_get (D := D) (ci := 0) (v := .ref (ad 1)) (C := n_D) (T := f_D) (N := 5) hx hb hts in_D hown hK hP 0 rfl rfl 0 (by decide) (hts _ fl_D_14) (fun _ h9 => h9) rfl d_D_pairs_1 ?_
  refine va_getN (D := D) (ci := 1) (v := .int (iZ ((jk J : Nat) : Int))) (C := n_J) (T := f_J) (N := 10) hx hb hts in_J hown hK hP 1 rfl rfl 2 (by decide) (hts _ fl_D_99) (fun _ h9 => h9) rfl d_D_pairs_4 ?_
  exact z_iretR Z d_D_pairs_7 (rfl)

set_option maxHeartbeats 4000000 in
set_option maxRecDepth 100000 in
theorem k_D_difference {l : Launch} {D : va_G} {ad : Nat → Nat} {cI cZ cL : ClassId} {J : SJ} {rd : Nat → Int} {pr : Nat → Nat} {G : SH} {K : SK} {tl : va_W} (hI : JI J) {pp kd : Nat} (hp : pp < jk J) (hkd : kd < 3) : zMr l TB D classes (tysW cI cZ cL) y_D_difference w_D_difference 3 82 [.ref (ad 0), .int (iZ ((pp : Nat) : Int)), .int (iZ ((kd : Nat) : Int))] (wdC ad cI cZ cL J rd pr G K tl) (some (.int (iZ (sDf J pp kd)))) := by
  refine z_ofR (by decide) (Nat.le_of_ble_eq_true rfl) ?_
  intro p e s m below meth c ls Z hP hK hl
  obtain ⟨hx, hb, hr, hml, hown, hts, hE, hlocks⟩ := id Z
  have hl : lv_has ls 3 [(0, .ref (ad 0)), (1, .int (iZ ((pp : Nat) : Int))), (2, .int (iZ ((kd : Nat) : Int)))] := hl
  obtain ⟨hn32, hk2, hpr, hct⟩ := id hI
  refine lv_aload_n hx hb d_D_difference_0 rfl (lv_at hl 0 rfl) ?_
  refine lv_iload_n hx hb d_D_difference_1 rfl (lv_at hl 1 rfl) ?_
  refine z_callVR (As := [.int (iZ ((pp : Nat) : Int))]) (rest := []) zTB Z (k_D_needPair (a := ((pp : Nat) : Int)) (by omega)) ⟨ml_D_83, im_D_needPair, se_D_needPair, ini_D, co_D_needPair⟩ zd_D_needPair ⟨Nat.le_of_ble_eq_true rfl, Nat.le_of_ble_eq_true rfl⟩ hP hK (ci := 0) (q0 := 0) rfl rfl rfl hl.1 rfl (Nat.le_of_ble_eq_true rfl) d_D_difference_2 ⟨Nat.zero_le _, Nat.zero_le _⟩ ?_
  refine W.eq (g2 := F0 m 5 ls []) rfl ?_
  refine lv_iload_n hx hb d_D_difference_5 rfl (lv_at hl 2 rfl) ?_
  refine z_callSR (As := [.int (iZ ((kd : Nat) : Int))]) (rest := []) zTB Z (k_D_needKind (a := ((kd : Nat) : Int)) (by omega)) ⟨ml_D_64, sm_D_needKind, ini_D, co_D_needKind⟩ zd_D_needKind ⟨Nat.le_of_ble_eq_true rfl, Nat.le_of_ble_eq_true rfl⟩ hP hK hl.1 rfl (Nat.le_of_ble_eq_true rfl) d_D_difference_6 ⟨Nat.zero_le _, Nat.zero_le _⟩ ?_
  refine W.eq (g2 := F0 m 9 ls []) rfl ?_
  refine lv_aload_n hx hb d_D_difference_9 rfl (lv_at hl 0 rfl) ?_
  refine va_get (D := D) (ci := 0) (v := .ref (ad 1)) (C := n_D) (T := f_D) (N := 5) hx hb hts in_D hown hK hP 0 rfl rfl 0 (by decide) (hts _ fl_D_14) (fun _ h9 => h9) rfl d_D_difference_10 ?_
  refine lv_iload_n hx hb d_D_difference_13 rfl (lv_at hl 1 rfl) ?_
  refine lv_iload_n hx hb d_D_difference_14 rfl (lv_at hl 2 rfl) ?_
  refine z_callVR (As := [.int (iZ ((pp : Nat) : Int)), .int (iZ ((kd : Nat) : Int))]) (rest := []) zTB Z (k_J_differenceOf hI (pp := pp) (kd := kd) (by omega) (by omega)) ⟨ml_D_102, im_J_differenceOf, se_J_differenceOf, ini_J, co_J_differenceOf⟩ zd_J_differenceOf ⟨Nat.le_of_ble_eq_true rfl, Nat.le_of_ble_eq_true rfl⟩ hP hK (ci := 1) (q0 := 1) rfl rfl rfl hl.1 rfl (Nat.le_of_ble_eq_true rfl) d_D_difference_15 ⟨Nat.zero_le _, Nat.zero_le _⟩ ?_
  refine W.eq (g2 := F0 m 18 ls [.int (iZ (sDf J pp kd))]) rfl ?_
  exact z_iretR Z d_D_difference_18 (rfl)

set_option maxHeartbeats 4000000 in
set_option maxRecDepth 100000 in
theorem k_D_rank {l : Launch} {D : va_G} {ad : Nat → Nat} {cI cZ cL : ClassId} {J : SJ} {rd : Nat → Int} {pr : Nat → Nat} {G : SH} {K : SK} {tl : va_W} (hI : JI J) {pp kd : Nat} (hp : pp < jk J) (hkd : kd < 3) : zMr l TB D classes (tysW cI cZ cL) y_D_rank w_D_rank 4 93 [.ref (ad 0), .int (iZ ((pp : Nat) : Int)), .int (iZ ((kd : Nat) : Int))] (wdC ad cI cZ cL J rd pr G K tl) (some (.int (iZ ((sRk J pp kd : Nat) : Int)))) := by
  refine z_ofR (by decide) (Nat.le_of_ble_eq_true rfl) ?_
  intro p e s m below meth c ls Z hP hK hl
  obtain ⟨hx, hb, hr, hml, hown, hts, hE, hlocks⟩ := id Z
  have hl : lv_has ls 3 [(0, .ref (ad 0)), (1, .int (iZ ((pp : Nat) : Int))), (2, .int (iZ ((kd : Nat) : Int)))] := hl
  obtain ⟨hn32, hk2, hpr, hct⟩ := id hI
  refine lv_aload_n hx hb d_D_rank_0 rfl (lv_at hl 0 rfl) ?_
  refine lv_iload_n hx hb d_D_rank_1 rfl (lv_at hl 1 rfl) ?_
  refine z_callVR (As := [.int (iZ ((pp : Nat) : Int))]) (rest := []) zTB Z (k_D_needPair (a := ((pp : Nat) : Int)) (by omega)) ⟨ml_D_83, im_D_needPair, se_D_needPair, ini_D, co_D_needPair⟩ zd_D_needPair ⟨Nat.le_of_ble_eq_true rfl, Nat.le_of_ble_eq_true rfl⟩ hP hK (ci := 0) (q0 := 0) rfl rfl rfl hl.1 rfl (Nat.le_of_ble_eq_true rfl) d_D_rank_2 ⟨Nat.zero_le _, Nat.zero_le _⟩ ?_
  refine W.eq (g2 := F0 m 5 ls []) rfl ?_
  refine lv_iload_n hx hb d_D_rank_5 rfl (lv_at hl 2 rfl) ?_
  refine z_callSR (As := [.int (iZ ((kd : Nat) : Int))]) (rest := []) zTB Z (k_D_needKind (a := ((kd : Nat) : Int)) (by omega)) ⟨ml_D_64, sm_D_needKind, ini_D, co_D_needKind⟩ zd_D_needKind ⟨Nat.le_of_ble_eq_true rfl, Nat.le_of_ble_eq_true rfl⟩ hP hK hl.1 rfl (Nat.le_of_ble_eq_true rfl) d_D_rank_6 ⟨Nat.zero_le _, Nat.zero_le _⟩ ?_
  refine W.eq (g2 := F0 m 9 ls []) rfl ?_
  refine lv_aload_n hx hb d_D_rank_9 rfl (lv_at hl 0 rfl) ?_
  refine va_get (D := D) (ci := 0) (v := .ref (ad 1)) (C := n_D) (T := f_D) (N := 5) hx hb hts in_D hown hK hP 0 rfl rfl 0 (by decide) (hts _ fl_D_14) (fun _ h9 => h9) rfl d_D_rank_10 ?_
  refine lv_iload_n hx hb d_D_rank_13 rfl (lv_at hl 1 rfl) ?_
  refine lv_iload_n hx hb d_D_rank_14 rfl (lv_at hl 2 rfl) ?_
  refine z_callVR (As := [.int (iZ ((pp : Nat) : Int)), .int (iZ ((kd : Nat) : Int))]) (rest := []) zTB Z (k_J_rankOf hI (pp := pp) (kd := kd) (by omega) (by omega)) ⟨ml_D_142, im_J_rankOf, se_J_rankOf, ini_J, co_J_rankOf⟩ zd_J_rankOf ⟨Nat.le_of_ble_eq_true rfl, Nat.le_of_ble_eq_true rfl⟩ hP hK (ci := 1) (q0 := 1) rfl rfl rfl hl.1 rfl (Nat.le_of_ble_eq_true rfl) d_D_rank_15 ⟨Nat.zero_le _, Nat.zero_le _⟩ ?_
  refine W.eq (g2 := F0 m 18 ls [.int (iZ ((sRk J pp kd : Nat) : Int))]) rfl ?_
  exact z_iretR Z d_D_rank_18 (rfl)

set_option maxHeartbeats 4000000 in
set_option maxRecDepth 100000 in
theorem k_D_kept {l : Launch} {D : va_G} {ad : Nat → Nat} {cI cZ cL : ClassId} {J : SJ} {rd : Nat → Int} {pr : Nat → Nat} {G : SH} {K : SK} {tl : va_W} (hI : JI J) {kd : Nat} (hkd : kd < 3) : zMr l TB D classes (tysW cI cZ cL) y_D_kept w_D_kept 3 81 [.ref (ad 0), .int (iZ ((kd : Nat) : Int))] (wdC ad cI cZ cL J rd pr G K tl) (some (.int (iZ ((sKO J 4 kd (jk J) : Nat) : Int)))) := by
  refine z_ofR (by decide) (Nat.le_of_ble_eq_true rfl) ?_
  intro p e s m below meth c ls Z hP hK hl
  obtain ⟨hx, hb, hr, hml, hown, hts, hE, hlocks⟩ := id Z
  have hl : lv_has ls 2 [(0, .ref (ad 0)), (1, .int (iZ ((kd : Nat) : Int)))] := hl
  obtain ⟨hn32, hk2, hpr, hct⟩ := id hI
  refine lv_iload_n hx hb d_D_kept_0 rfl (lv_at hl 1 rfl) ?_
  refine z_callSR (As := [.int (iZ ((kd : Nat) : Int))]) (rest := []) zTB Z (k_D_needKind (a := ((kd : Nat) : Int)) (by omega)) ⟨ml_D_64, sm_D_needKind, ini_D, co_D_needKind⟩ zd_D_needKind ⟨Nat.le_of_ble_eq_true rfl, Nat.le_of_ble_eq_true rfl⟩ hP hK hl.1 rfl (Nat.le_of_ble_eq_true rfl) d_D_kept_1 ⟨Nat.zero_le _, Nat.zero_le _⟩ ?_
  refine W.eq (g2 := F0 m 4 ls []) rfl ?_
  refine lv_aload_n hx hb d_D_kept_4 rfl (lv_at hl 0 rfl) ?_
  refine va_get (D := D) (ci := 0) (v := .ref (ad 1)) (C := n_D) (T := f_D) (N := 5) hx hb hts in_D hown hK hP 0 rfl rfl 0 (by decide) (hts _ fl_D_14) (fun _ h9 => h9) rfl d_D_kept_5 ?_
  refine lv_iconst (v := iZ ((4 : Nat) : Int)) hx hb d_D_kept_8 (by decide) ?_
  refine lv_iload_n hx hb d_D_kept_9 rfl (lv_at hl 1 rfl) ?_
  refine z_callVR (As := [.int (iZ ((4 : Nat) : Int)), .int (iZ ((kd : Nat) : Int))]) (rest := []) zTB Z (k_J_keptOf hI (sh := 4) (kd := kd) (by omega) (by omega)) ⟨ml_D_106, im_J_keptOf, se_J_keptOf, ini_J, co_J_keptOf⟩ zd_J_keptOf ⟨Nat.le_of_ble_eq_true rfl, Nat.le_of_ble_eq_true rfl⟩ hP hK (ci := 1) (q0 := 1) rfl rfl rfl hl.1 rfl (Nat.le_of_ble_eq_true rfl) d_D_kept_10 ⟨Nat.zero_le _, Nat.zero_le _⟩ ?_
  refine W.eq (g2 := F0 m 13 ls [.int (iZ ((sKO J 4 kd (jk J) : Nat) : Int))]) rfl ?_
  exact z_iretR Z d_D_kept_13 (rfl)

set_option maxHeartbeats 4000000 in
set_option maxRecDepth 100000 in
theorem k_D_sum {l : Launch} {D : va_G} {ad : Nat → Nat} {cI cZ cL : ClassId} {J : SJ} {rd : Nat → Int} {pr : Nat → Nat} {G : SH} {K : SK} {tl : va_W} (hI : JI J) {kd : Nat} (hkd : kd < 3) : zMr l TB D classes (tysW cI cZ cL) y_D_sum w_D_sum 4 91 [.ref (ad 0), .int (iZ ((kd : Nat) : Int))] (wdC ad cI cZ cL J rd pr G K tl) (some (.int (iZ (sSO J 4 kd (jk J))))) := by
  refine z_ofR (by decide) (Nat.le_of_ble_eq_true rfl) ?_
  intro p e s m below meth c ls Z hP hK hl
  obtain ⟨hx, hb, hr, hml, hown, hts, hE, hlocks⟩ := id Z
  have hl : lv_has ls 2 [(0, .ref (ad 0)), (1, .int (iZ ((kd : Nat) : Int)))] := hl
  obtain ⟨hn32, hk2, hpr, hct⟩ := id hI
  refine lv_iload_n hx hb d_D_sum_0 rfl (lv_at hl 1 rfl) ?_
  refine z_callSR (As := [.int (iZ ((kd : Nat) : Int))]) (rest := []) zTB Z (k_D_needKind (a := ((kd : Nat) : Int)) (by omega)) ⟨ml_D_64, sm_D_needKind, ini_D, co_D_needKind⟩ zd_D_needKind ⟨Nat.le_of_ble_eq_true rfl, Nat.le_of_ble_eq_true rfl⟩ hP hK hl.1 rfl (Nat.le_of_ble_eq_true rfl) d_D_sum_1 ⟨Nat.zero_le _, Nat.zero_le _⟩ ?_
  refine W.eq (g2 := F0 m 4 ls []) rfl ?_
  refine lv_aload_n hx hb d_D_sum_4 rfl (lv_at hl 0 rfl) ?_
  refine va_get (D := D) (ci := 0) (v := .ref (ad 1)) (C := n_D) (T := f_D) (N := 5) hx hb hts in_D hown hK hP 0 rfl rfl 0 (by decide) (hts _ fl_D_14) (fun _ h9 => h9) rfl d_D_sum_5 ?_
  refine lv_iconst (v := iZ ((4 : Nat) : Int)) hx hb d_D_sum_8 (by decide) ?_
  refine lv_iload_n hx hb d_D_sum_9 rfl (lv_at hl 1 rfl) ?_
  refine z_callVR (As := [.int (iZ ((4 : Nat) : Int)), .int (iZ ((kd : Nat) : Int))]) (rest := []) zTB Z (k_J_sumOf hI (sh := 4) (kd := kd) (by omega) (by omega)) ⟨ml_D_109, im_J_sumOf, se_J_sumOf, ini_J, co_J_sumOf⟩ zd_J_sumOf ⟨Nat.le_of_ble_eq_true rfl, Nat.le_of_ble_eq_true rfl⟩ hP hK (ci := 1) (q0 := 1) rfl rfl rfl hl.1 rfl (Nat.le_of_ble_eq_true rfl) d_D_sum_10 ⟨Nat.zero_le _, Nat.zero_le _⟩ ?_
  refine W.eq (g2 := F0 m 13 ls [.int (iZ (sSO J 4 kd (jk J)))]) rfl ?_
  exact z_iretR Z d_D_sum_13 (rfl)

set_option maxHeartbeats 4000000 in
set_option maxRecDepth 100000 in
theorem k_D_mean {l : Launch} {D : va_G} {ad : Nat → Nat} {cI cZ cL : ClassId} {J : SJ} {rd : Nat → Int} {pr : Nat → Nat} {G : SH} {K : SK} {tl : va_W} (hI : JI J) {sh kd pt : Nat} (hsh : sh < 4) (hkd : kd < 3) (hpt : pt < 2) : zMr l TB D classes (tysW cI cZ cL) y_D_mean w_D_mean 4 91 [.ref (ad 0), .int (iZ ((sh : Nat) : Int)), .int (iZ ((kd : Nat) : Int)), .int (iZ ((pt : Nat) : Int))] (wdC ad cI cZ cL J rd pr G K tl) (some (.long (lZ (sTP (sSO J sh kd (jk J)) (sKO J sh kd (jk J)) pt)))) := by
  refine z_ofR (by decide) (Nat.le_of_ble_eq_true rfl) ?_
  intro p e s m below meth c ls Z hP hK hl
  obtain ⟨hx, hb, hr, hml, hown, hts, hE, hlocks⟩ := id Z
  have hl : lv_has ls 4 [(0, .ref (ad 0)), (1, .int (iZ ((sh : Nat) : Int))), (2, .int (iZ ((kd : Nat) : Int))), (3, .int (iZ ((pt : Nat) : Int)))] := hl
  obtain ⟨hn32, hk2, hpr, hct⟩ := id hI
  have hb1 := sSO_b hI sh kd (jk J)
  have hb2 := sKO_le (J := J) sh kd (jk J)
  have hb3 := sSO_b hI 4 kd (jk J)
  have hb4 := sKO_le (J := J) 4 kd (jk J)
  refine lv_iload_n hx hb d_D_mean_0 rfl (lv_at hl 1 rfl) ?_
  refine z_callSR (As := [.int (iZ ((sh : Nat) : Int))]) (rest := []) zTB Z (k_D_needShip (a := ((sh : Nat) : Int)) (by omega)) ⟨ml_D_43, sm_D_needShip, ini_D, co_D_needShip⟩ zd_D_needShip ⟨Nat.le_of_ble_eq_true rfl, Nat.le_of_ble_eq_true rfl⟩ hP hK hl.1 rfl (Nat.le_of_ble_eq_true rfl) d_D_mean_1 ⟨Nat.zero_le _, Nat.zero_le _⟩ ?_
  refine W.eq (g2 := F0 m 4 ls []) rfl ?_
  refine lv_iload_n hx hb d_D_mean_4 rfl (lv_at hl 2 rfl) ?_
  refine z_callSR (As := [.int (iZ ((kd : Nat) : Int))]) (rest := []) zTB Z (k_D_needKind (a := ((kd : Nat) : Int)) (by omega)) ⟨ml_D_64, sm_D_needKind, ini_D, co_D_needKind⟩ zd_D_needKind ⟨Nat.le_of_ble_eq_true rfl, Nat.le_of_ble_eq_true rfl⟩ hP hK hl.1 rfl (Nat.le_of_ble_eq_true rfl) d_D_mean_5 ⟨Nat.zero_le _, Nat.zero_le _⟩ ?_
  refine W.eq (g2 := F0 m 8 ls []) rfl ?_
  refine lv_iload_n hx hb d_D_mean_8 rfl (lv_at hl 3 rfl) ?_
  refine z_callSR (As := [.int (iZ ((pt : Nat) : Int))]) (rest := []) zTB Z (k_D_needPart (a := ((pt : Nat) : Int)) (by omega)) ⟨ml_D_112, sm_D_needPart, ini_D, co_D_needPart⟩ zd_D_needPart ⟨Nat.le_of_ble_eq_true rfl, Nat.le_of_ble_eq_true rfl⟩ hP hK hl.1 rfl (Nat.le_of_ble_eq_true rfl) d_D_mean_9 ⟨Nat.zero_le _, Nat.zero_le _⟩ ?_
  refine W.eq (g2 := F0 m 12 ls []) rfl ?_
  refine lv_aload_n hx hb d_D_mean_12 rfl (lv_at hl 0 rfl) ?_
  refine va_get (D := D) (ci := 0) (v := .ref (ad 1)) (C := n_D) (T := f_D) (N := 5) hx hb hts in_D hown hK hP 0 rfl rfl 0 (by decide) (hts _ fl_D_14) (fun _ h9 => h9) rfl d_D_mean_13 ?_
  refine lv_iload_n hx hb d_D_mean_16 rfl (lv_at hl 1 rfl) ?_
  refine lv_iload_n hx hb d_D_mean_17 rfl (lv_at hl 2 rfl) ?_
  refine z_callVR (As := [.int (iZ ((sh : Nat) : Int)), .int (iZ ((kd : Nat) : Int))]) (rest := []) zTB Z (k_J_sumOf hI (sh := sh) (kd := kd) (by omega) (by omega)) ⟨ml_D_109, im_J_sumOf, se_J_sumOf, ini_J, co_J_sumOf⟩ zd_J_sumOf ⟨Nat.le_of_ble_eq_true rfl, Nat.le_of_ble_eq_true rfl⟩ hP hK (ci := 1) (q0 := 1) rfl rfl rfl hl.1 rfl (Nat.le_of_ble_eq_true rfl) d_D_mean_18 ⟨Nat.zero_le _, Nat.zero_le _⟩ ?_
  refine W.eq (g2 := F0 m 21 ls [.int (iZ (sSO J sh kd (jk J)))]) rfl ?_
  refine z_i2l (a := sSO J sh kd (jk J)) hx hb (by omega) d_D_mean_21 ?_
  refine lv_aload_n hx hb d_D_mean_22 rfl (lv_at hl 0 rfl) ?_
  refine va_get (D := D) (ci := 0) (v := .ref (ad 1)) (C := n_D) (T := f_D) (N := 5) hx hb hts in_D hown hK hP 0 rfl rfl 0 (by decide) (hts _ fl_D_14) (fun _ h9 => h9) rfl d_D_mean_23 ?_
  refine lv_iload_n hx hb d_D_mean_26 rfl (lv_at hl 1 rfl) ?_
  refine lv_iload_n hx hb d_D_mean_27 rfl (lv_at hl 2 rfl) ?_
  refine z_callVR (As := [.int (iZ ((sh : Nat) : Int)), .int (iZ ((kd : Nat) : Int))]) (rest := [.long (lZ (sSO J sh kd (jk J)))]) zTB Z (k_J_keptOf hI (sh := sh) (kd := kd) (by omega) (by omega)) ⟨ml_D_106, im_J_keptOf, se_J_keptOf, ini_J, co_J_keptOf⟩ zd_J_keptOf ⟨Nat.le_of_ble_eq_true rfl, Nat.le_of_ble_eq_true rfl⟩ hP hK (ci := 1) (q0 := 1) rfl rfl rfl hl.1 rfl (Nat.le_of_ble_eq_true rfl) d_D_mean_28 ⟨Nat.zero_le _, Nat.zero_le _⟩ ?_
  refine W.eq (g2 := F0 m 31 ls [.int (iZ ((sKO J sh kd (jk J) : Nat) : Int)), .long (lZ (sSO J sh kd (jk J)))]) rfl ?_
  refine z_i2l (a := ((sKO J sh kd (jk J) : Nat) : Int)) hx hb (by omega) d_D_mean_31 ?_
  refine lv_iload_n hx hb d_D_mean_32 rfl (lv_at hl 3 rfl) ?_
  refine z_callSR (As := [.long (lZ (sSO J sh kd (jk J))), .long (lZ ((sKO J sh kd (jk J) : Nat) : Int)), .int (iZ ((pt : Nat) : Int))]) (rest := []) zTB Z (k_D_toldPart (a := sSO J sh kd (jk J)) (bl := sKO J sh kd (jk J)) (pt := pt) (by omega)) ⟨ml_D_138, sm_D_toldPart, ini_D, co_D_toldPart⟩ zd_D_toldPart ⟨Nat.le_of_ble_eq_true rfl, Nat.le_of_ble_eq_true rfl⟩ hP hK hl.1 rfl (Nat.le_of_ble_eq_true rfl) d_D_mean_33 ⟨Nat.zero_le _, Nat.zero_le _⟩ ?_
  refine W.eq (g2 := F0 m 36 ls [.long (lZ (sTP (sSO J sh kd (jk J)) (sKO J sh kd (jk J)) pt))]) rfl ?_
  exact z_lretR Z d_D_mean_36 (rfl)

set_option maxHeartbeats 4000000 in
set_option maxRecDepth 100000 in
theorem k_D_weight {l : Launch} {D : va_G} {ad : Nat → Nat} {cI cZ cL : ClassId} {J : SJ} {rd : Nat → Int} {pr : Nat → Nat} {G : SH} {K : SK} {tl : va_W} (hI : JI J) {sh kd pt : Nat} (hsh : sh < 4) (hkd : kd < 3) (hpt : pt < 2) : zMr l TB D classes (tysW cI cZ cL) y_D_weight w_D_weight 3 81 [.ref (ad 0), .int (iZ ((sh : Nat) : Int)), .int (iZ ((kd : Nat) : Int)), .int (iZ ((pt : Nat) : Int))] (wdC ad cI cZ cL J rd pr G K tl) (some (.long (lZ (sTP ((sKO J sh kd (jk J) : Nat) : Int) (sKO J 4 kd (jk J)) pt)))) := by
  refine z_ofR (by decide) (Nat.le_of_ble_eq_true rfl) ?_
  intro p e s m below meth c ls Z hP hK hl
  obtain ⟨hx, hb, hr, hml, hown, hts, hE, hlocks⟩ := id Z
  have hl : lv_has ls 4 [(0, .ref (ad 0)), (1, .int (iZ ((sh : Nat) : Int))), (2, .int (iZ ((kd : Nat) : Int))), (3, .int (iZ ((pt : Nat) : Int)))] := hl
  obtain ⟨hn32, hk2, hpr, hct⟩ := id hI
  have hb1 := sSO_b hI sh kd (jk J)
  have hb2 := sKO_le (J := J) sh kd (jk J)
  have hb3 := sSO_b hI 4 kd (jk J)
  have hb4 := sKO_le (J := J) 4 kd (jk J)
  refine lv_iload_n hx hb d_D_weight_0 rfl (lv_at hl 1 rfl) ?_
  refine z_callSR (As := [.int (iZ ((sh : Nat) : Int))]) (rest := []) zTB Z (k_D_needShip (a := ((sh : Nat) : Int)) (by omega)) ⟨ml_D_43, sm_D_needShip, ini_D, co_D_needShip⟩ zd_D_needShip ⟨Nat.le_of_ble_eq_true rfl, Nat.le_of_ble_eq_true rfl⟩ hP hK hl.1 rfl (Nat.le_of_ble_eq_true rfl) d_D_weight_1 ⟨Nat.zero_le _, Nat.zero_le _⟩ ?_
  refine W.eq (g2 := F0 m 4 ls []) rfl ?_
  refine lv_iload_n hx hb d_D_weight_4 rfl (lv_at hl 2 rfl) ?_
  refine z_callSR (As := [.int (iZ ((kd : Nat) : Int))]) (rest := []) zTB Z (k_D_needKind (a := ((kd : Nat) : Int)) (by omega)) ⟨ml_D_64, sm_D_needKind, ini_D, co_D_needKind⟩ zd_D_needKind ⟨Nat.le_of_ble_eq_true rfl, Nat.le_of_ble_eq_true rfl⟩ hP hK hl.1 rfl (Nat.le_of_ble_eq_true rfl) d_D_weight_5 ⟨Nat.zero_le _, Nat.zero_le _⟩ ?_
  refine W.eq (g2 := F0 m 8 ls []) rfl ?_
  refine lv_iload_n hx hb d_D_weight_8 rfl (lv_at hl 3 rfl) ?_
  refine z_callSR (As := [.int (iZ ((pt : Nat) : Int))]) (rest := []) zTB Z (k_D_needPart (a := ((pt : Nat) : Int)) (by omega)) ⟨ml_D_112, sm_D_needPart, ini_D, co_D_needPart⟩ zd_D_needPart ⟨Nat.le_of_ble_eq_true rfl, Nat.le_of_ble_eq_true rfl⟩ hP hK hl.1 rfl (Nat.le_of_ble_eq_true rfl) d_D_weight_9 ⟨Nat.zero_le _, Nat.zero_le _⟩ ?_
  refine W.eq (g2 := F0 m 12 ls []) rfl ?_
  refine lv_aload_n hx hb d_D_weight_12 rfl (lv_at hl 0 rfl) ?_
  refine va_get (D := D) (ci := 0) (v := .ref (ad 1)) (C := n_D) (T := f_D) (N := 5) hx hb hts in_D hown hK hP 0 rfl rfl 0 (by decide) (hts _ fl_D_14) (fun _ h9 => h9) rfl d_D_weight_13 ?_
  refine lv_iload_n hx hb d_D_weight_16 rfl (lv_at hl 1 rfl) ?_
  refine lv_iload_n hx hb d_D_weight_17 rfl (lv_at hl 2 rfl) ?_
  refine z_callVR (As := [.int (iZ ((sh : Nat) : Int)), .int (iZ ((kd : Nat) : Int))]) (rest := []) zTB Z (k_J_keptOf hI (sh := sh) (kd := kd) (by omega) (by omega)) ⟨ml_D_106, im_J_keptOf, se_J_keptOf, ini_J, co_J_keptOf⟩ zd_J_keptOf ⟨Nat.le_of_ble_eq_true rfl, Nat.le_of_ble_eq_true rfl⟩ hP hK (ci := 1) (q0 := 1) rfl rfl rfl hl.1 rfl (Nat.le_of_ble_eq_true rfl) d_D_weight_18 ⟨Nat.zero_le _, Nat.zero_le _⟩ ?_
  refine W.eq (g2 := F0 m 21 ls [.int (iZ ((sKO J sh kd (jk J) : Nat) : Int))]) rfl ?_
  refine z_i2l (a := ((sKO J sh kd (jk J) : Nat) : Int)) hx hb (by omega) d_D_weight_21 ?_
  refine lv_aload_n hx hb d_D_weight_22 rfl (lv_at hl 0 rfl) ?_
  refine va_get (D := D) (ci := 0) (v := .ref (ad 1)) (C := n_D) (T := f_D) (N := 5) hx hb hts in_D hown hK hP 0 rfl rfl 0 (by decide) (hts _ fl_D_14) (fun _ h9 => h9) rfl d_D_weight_23 ?_
  refine lv_iconst (v := iZ ((4 : Nat) : Int)) hx hb d_D_weight_26 (by decide) ?_
  refine lv_iload_n hx hb d_D_weight_27 rfl (lv_at hl 2 rfl) ?_
  refine z_callVR (As := [.int (iZ ((4 : Nat) : Int)), .int (iZ ((kd : Nat) : Int))]) (rest := [.long (lZ ((sKO J sh kd (jk J) : Nat) : Int))]) zTB Z (k_J_keptOf hI (sh := 4) (kd := kd) (by omega) (by omega)) ⟨ml_D_106, im_J_keptOf, se_J_keptOf, ini_J, co_J_keptOf⟩ zd_J_keptOf ⟨Nat.le_of_ble_eq_true rfl, Nat.le_of_ble_eq_true rfl⟩ hP hK (ci := 1) (q0 := 1) rfl rfl rfl hl.1 rfl (Nat.le_of_ble_eq_true rfl) d_D_weight_28 ⟨Nat.zero_le _, Nat.zero_le _⟩ ?_
  refine W.eq (g2 := F0 m 31 ls [.int (iZ ((sKO J 4 kd (jk J) : Nat) : Int)), .long (lZ ((sKO J sh kd (jk J) : Nat) : Int))]) rfl ?_
  refine z_i2l (a := ((sKO J 4 kd (jk J) : Nat) : Int)) hx hb (by omega) d_D_weight_31 ?_
  refine lv_iload_n hx hb d_D_weight_32 rfl (lv_at hl 3 rfl) ?_
  refine z_callSR (As := [.long (lZ ((sKO J sh kd (jk J) : Nat) : Int)), .long (lZ ((sKO J 4 kd (jk J) : Nat) : Int)), .int (iZ ((pt : Nat) : Int))]) (rest := []) zTB Z (k_D_toldPart (a := ((sKO J sh kd (jk J) : Nat) : Int)) (bl := sKO J 4 kd (jk J)) (pt := pt) (by omega)) ⟨ml_D_138, sm_D_toldPart, ini_D, co_D_toldPart⟩ zd_D_toldPart ⟨Nat.le_of_ble_eq_true rfl, Nat.le_of_ble_eq_true rfl⟩ hP hK hl.1 rfl (Nat.le_of_ble_eq_true rfl) d_D_weight_33 ⟨Nat.zero_le _, Nat.zero_le _⟩ ?_
  refine W.eq (g2 := F0 m 36 ls [.long (lZ (sTP ((sKO J sh kd (jk J) : Nat) : Int) (sKO J 4 kd (jk J)) pt))]) rfl ?_
  exact z_lretR Z d_D_weight_36 (rfl)

set_option maxHeartbeats 4000000 in
set_option maxRecDepth 100000 in
theorem k_D_joined {l : Launch} {D : va_G} {ad : Nat → Nat} {cI cZ cL : ClassId} {J : SJ} {rd : Nat → Int} {pr : Nat → Nat} {G : SH} {K : SK} {tl : va_W} (hI : JI J) {kd pt : Nat} (hkd : kd < 3) (hpt : pt < 2) : zMr l TB D classes (tysW cI cZ cL) y_D_joined w_D_joined 4 91 [.ref (ad 0), .int (iZ ((kd : Nat) : Int)), .int (iZ ((pt : Nat) : Int))] (wdC ad cI cZ cL J rd pr G K tl) (some (.long (lZ (sTP (sSO J 4 kd (jk J)) (sKO J 4 kd (jk J)) pt)))) := by
  refine z_ofR (by decide) (Nat.le_of_ble_eq_true rfl) ?_
  intro p e s m below meth c ls Z hP hK hl
  obtain ⟨hx, hb, hr, hml, hown, hts, hE, hlocks⟩ := id Z
  have hl : lv_has ls 3 [(0, .ref (ad 0)), (1, .int (iZ ((kd : Nat) : Int))), (2, .int (iZ ((pt : Nat) : Int)))] := hl
  obtain ⟨hn32, hk2, hpr, hct⟩ := id hI
  have hb1 := sSO_b hI 4 kd (jk J)
  have hb2 := sKO_le (J := J) 4 kd (jk J)
  have hb3 := sSO_b hI 4 kd (jk J)
  have hb4 := sKO_le (J := J) 4 kd (jk J)
  refine lv_iload_n hx hb d_D_joined_0 rfl (lv_at hl 1 rfl) ?_
  refine z_callSR (As := [.int (iZ ((kd : Nat) : Int))]) (rest := []) zTB Z (k_D_needKind (a := ((kd : Nat) : Int)) (by omega)) ⟨ml_D_64, sm_D_needKind, ini_D, co_D_needKind⟩ zd_D_needKind ⟨Nat.le_of_ble_eq_true rfl, Nat.le_of_ble_eq_true rfl⟩ hP hK hl.1 rfl (Nat.le_of_ble_eq_true rfl) d_D_joined_1 ⟨Nat.zero_le _, Nat.zero_le _⟩ ?_
  refine W.eq (g2 := F0 m 4 ls []) rfl ?_
  refine lv_iload_n hx hb d_D_joined_4 rfl (lv_at hl 2 rfl) ?_
  refine z_callSR (As := [.int (iZ ((pt : Nat) : Int))]) (rest := []) zTB Z (k_D_needPart (a := ((pt : Nat) : Int)) (by omega)) ⟨ml_D_112, sm_D_needPart, ini_D, co_D_needPart⟩ zd_D_needPart ⟨Nat.le_of_ble_eq_true rfl, Nat.le_of_ble_eq_true rfl⟩ hP hK hl.1 rfl (Nat.le_of_ble_eq_true rfl) d_D_joined_5 ⟨Nat.zero_le _, Nat.zero_le _⟩ ?_
  refine W.eq (g2 := F0 m 8 ls []) rfl ?_
  refine lv_aload_n hx hb d_D_joined_8 rfl (lv_at hl 0 rfl) ?_
  refine va_get (D := D) (ci := 0) (v := .ref (ad 1)) (C := n_D) (T := f_D) (N := 5) hx hb hts in_D hown hK hP 0 rfl rfl 0 (by decide) (hts _ fl_D_14) (fun _ h9 => h9) rfl d_D_joined_9 ?_
  refine lv_iconst (v := iZ ((4 : Nat) : Int)) hx hb d_D_joined_12 (by decide) ?_
  refine lv_iload_n hx hb d_D_joined_13 rfl (lv_at hl 1 rfl) ?_
  refine z_callVR (As := [.int (iZ ((4 : Nat) : Int)), .int (iZ ((kd : Nat) : Int))]) (rest := []) zTB Z (k_J_sumOf hI (sh := 4) (kd := kd) (by omega) (by omega)) ⟨ml_D_109, im_J_sumOf, se_J_sumOf, ini_J, co_J_sumOf⟩ zd_J_sumOf ⟨Nat.le_of_ble_eq_true rfl, Nat.le_of_ble_eq_true rfl⟩ hP hK (ci := 1) (q0 := 1) rfl rfl rfl hl.1 rfl (Nat.le_of_ble_eq_true rfl) d_D_joined_14 ⟨Nat.zero_le _, Nat.zero_le _⟩ ?_
  refine W.eq (g2 := F0 m 17 ls [.int (iZ (sSO J 4 kd (jk J)))]) rfl ?_
  refine z_i2l (a := sSO J 4 kd (jk J)) hx hb (by omega) d_D_joined_17 ?_
  refine lv_aload_n hx hb d_D_joined_18 rfl (lv_at hl 0 rfl) ?_
  refine va_get (D := D) (ci := 0) (v := .ref (ad 1)) (C := n_D) (T := f_D) (N := 5) hx hb hts in_D hown hK hP 0 rfl rfl 0 (by decide) (hts _ fl_D_14) (fun _ h9 => h9) rfl d_D_joined_19 ?_
  refine lv_iconst (v := iZ ((4 : Nat) : Int)) hx hb d_D_joined_22 (by decide) ?_
  refine lv_iload_n hx hb d_D_joined_23 rfl (lv_at hl 1 rfl) ?_
  refine z_callVR (As := [.int (iZ ((4 : Nat) : Int)), .int (iZ ((kd : Nat) : Int))]) (rest := [.long (lZ (sSO J 4 kd (jk J)))]) zTB Z (k_J_keptOf hI (sh := 4) (kd := kd) (by omega) (by omega)) ⟨ml_D_106, im_J_keptOf, se_J_keptOf, ini_J, co_J_keptOf⟩ zd_J_keptOf ⟨Nat.le_of_ble_eq_true rfl, Nat.le_of_ble_eq_true rfl⟩ hP hK (ci := 1) (q0 := 1) rfl rfl rfl hl.1 rfl (Nat.le_of_ble_eq_true rfl) d_D_joined_24 ⟨Nat.zero_le _, Nat.zero_le _⟩ ?_
  refine W.eq (g2 := F0 m 27 ls [.int (iZ ((sKO J 4 kd (jk J) : Nat) : Int)), .long (lZ (sSO J 4 kd (jk J)))]) rfl ?_
  refine z_i2l (a := ((sKO J 4 kd (jk J) : Nat) : Int)) hx hb (by omega) d_D_joined_27 ?_
  refine lv_iload_n hx hb d_D_joined_28 rfl (lv_at hl 2 rfl) ?_
  refine z_callSR (As := [.long (lZ (sSO J 4 kd (jk J))), .long (lZ ((sKO J 4 kd (jk J) : Nat) : Int)), .int (iZ ((pt : Nat) : Int))]) (rest := []) zTB Z (k_D_toldPart (a := sSO J 4 kd (jk J)) (bl := sKO J 4 kd (jk J)) (pt := pt) (by omega)) ⟨ml_D_138, sm_D_toldPart, ini_D, co_D_toldPart⟩ zd_D_toldPart ⟨Nat.le_of_ble_eq_true rfl, Nat.le_of_ble_eq_true rfl⟩ hP hK hl.1 rfl (Nat.le_of_ble_eq_true rfl) d_D_joined_29 ⟨Nat.zero_le _, Nat.zero_le _⟩ ?_
  refine W.eq (g2 := F0 m 32 ls [.long (lZ (sTP (sSO J 4 kd (jk J)) (sKO J 4 kd (jk J)) pt))]) rfl ?_
  exact z_lretR Z d_D_joined_32 (rfl)

set_option maxHeartbeats 4000000 in
set_option maxRecDepth 100000 in
theorem k_D_stopped {l : Launch} {D : va_G} {ad : Nat → Nat} {cI cZ cL : ClassId} {J : SJ} {rd : Nat → Int} {pr : Nat → Nat} {G : SH} {K : SK} {tl : va_W} (hI : JI J) {kd up lo : Nat} (hkd : kd < 3) (hup : 1 ≤ up ∧ up ≤ 16) (hlo : 1 ≤ lo ∧ lo ≤ 16) : zMr l TB D classes (tysW cI cZ cL) y_D_stopped w_D_stopped 3 83 [.ref (ad 0), .int (iZ ((kd : Nat) : Int)), .int (iZ ((up : Nat) : Int)), .int (iZ ((lo : Nat) : Int))] (wdC ad cI cZ cL J rd pr G K tl) (some (.int (iZ (sSt J kd up lo (jk J) 0)))) := by
  refine z_ofR (by decide) (Nat.le_of_ble_eq_true rfl) ?_
  intro p e s m below meth c ls Z hP hK hl
  obtain ⟨hx, hb, hr, hml, hown, hts, hE, hlocks⟩ := id Z
  have hl : lv_has ls 6 [(0, .ref (ad 0)), (1, .int (iZ ((kd : Nat) : Int))), (2, .int (iZ ((up : Nat) : Int))), (3, .int (iZ ((lo : Nat) : Int)))] := hl
  obtain ⟨hn32, hk2, hpr, hct⟩ := id hI
  refine lv_iload_n hx hb d_D_stopped_0 rfl (lv_at hl 1 rfl) ?_
  refine z_callSR (As := [.int (iZ ((kd : Nat) : Int))]) (rest := []) zTB Z (k_D_needKind (a := ((kd : Nat) : Int)) (by omega)) ⟨ml_D_64, sm_D_needKind, ini_D, co_D_needKind⟩ zd_D_needKind ⟨Nat.le_of_ble_eq_true rfl, Nat.le_of_ble_eq_true rfl⟩ hP hK hl.1 rfl (Nat.le_of_ble_eq_true rfl) d_D_stopped_1 ⟨Nat.zero_le _, Nat.zero_le _⟩ ?_
  refine W.eq (g2 := F0 m 4 ls []) rfl ?_
  refine lv_iload_n hx hb d_D_stopped_4 rfl (lv_at hl 2 rfl) ?_
  refine lv_iload_n hx hb d_D_stopped_5 rfl (lv_at hl 3 rfl) ?_
  refine z_callSR (As := [.int (iZ ((up : Nat) : Int)), .int (iZ ((lo : Nat) : Int))]) (rest := []) zTB Z (k_D_needBounds (a := ((up : Nat) : Int)) (b := ((lo : Nat) : Int)) (by omega)) ⟨ml_D_145, sm_D_needBounds, ini_D, co_D_needBounds⟩ zd_D_needBounds ⟨Nat.le_of_ble_eq_true rfl, Nat.le_of_ble_eq_true rfl⟩ hP hK hl.1 rfl (Nat.le_of_ble_eq_true rfl) d_D_stopped_6 ⟨Nat.zero_le _, Nat.zero_le _⟩ ?_
  refine W.eq (g2 := F0 m 9 ls []) rfl ?_
  refine lv_iconst (v := iZ ((0 : Nat) : Int)) hx hb d_D_stopped_9 (by decide) ?_
  refine lv_istore (lv' := [(4, .int (iZ ((0 : Nat) : Int))), (0, .ref (ad 0)), (1, .int (iZ ((kd : Nat) : Int))), (2, .int (iZ ((up : Nat) : Int))), (3, .int (iZ ((lo : Nat) : Int)))]) hx hb d_D_stopped_10 hl (by decide) rfl (fun ls hl => ?_)
  refine lv_iconst (v := iZ ((0 : Nat) : Int)) hx hb d_D_stopped_12 (by decide) ?_
  refine lv_istore (lv' := [(5, .int (iZ ((0 : Nat) : Int))), (4, .int (iZ ((0 : Nat) : Int))), (0, .ref (ad 0)), (1, .int (iZ ((kd : Nat) : Int))), (2, .int (iZ ((up : Nat) : Int))), (3, .int (iZ ((lo : Nat) : Int)))]) hx hb d_D_stopped_13 hl (by decide) rfl (fun ls hl => ?_)
  have L15 : ∀ (N15 : Nat) (i : Nat) (ls : Array Slot), (i ≤ jk J) → (sSt J kd up lo (jk J) 0 = sSt J kd up lo (jk J - i) i) → jk J - i < N15 → lv_has ls 6 [(0, .ref (ad 0)), (1, .int (iZ ((kd : Nat) : Int))), (2, .int (iZ ((up : Nat) : Int))), (3, .int (iZ ((lo : Nat) : Int))), (4, .int (iZ (sHt J kd i))), (5, .int (iZ ((i : Nat) : Int)))] → W p l e (zRm 3 83) s m ([.ref (ad 0), .int (iZ ((kd : Nat) : Int)), .int (iZ ((up : Nat) : Int)), .int (iZ ((lo : Nat) : Int))] : List Value).toArray below meth c s.heap [] 0 0 (MQ below (zQr (some (.int (iZ (sSt J kd up lo (jk J) 0))))) ([.ref (ad 0), .int (iZ ((kd : Nat) : Int)), .int (iZ ((up : Nat) : Int)), .int (iZ ((lo : Nat) : Int))] : List Value).toArray s 0 0 (fun _ => False)) (F0 m 15 ls []) := by
    intro N15
    induction N15 with
    | zero =>
      intro i ls hi hv hN15 hl
      exact absurd hN15 (Nat.not_lt_zero _)
    | succ N15 ih15 =>
      intro i ls hi hv hN15 hl
      have hle := sHt_b J kd i
      have hb1 := sKd_b hI i kd
      have hb2 := sg_b (sKd J i kd)
      refine lv_iload hx hb d_D_stopped_15 (lv_at hl 5 rfl) ?_
      refine lv_aload_n hx hb d_D_stopped_17 rfl (lv_at hl 0 rfl) ?_
      refine va_get (D := D) (ci := 0) (v := .ref (ad 1)) (C := n_D) (T := f_D) (N := 5) hx hb hts in_D hown hK hP 0 rfl rfl 0 (by decide) (hts _ fl_D_14) (fun _ h9 => h9) rfl d_D_stopped_18 ?_
      refine va_getN (D := D) (ci := 1) (v := .int (iZ ((jk J : Nat) : Int))) (C := n_J) (T := f_J) (N := 10) hx hb hts in_J hown hK hP 1 rfl rfl 2 (by decide) (hts _ fl_D_99) (fun _ h9 => h9) rfl d_D_stopped_21 ?_
      refine z_icmp_ge (a := ((i : Nat) : Int)) (b := ((jk J : Nat) : Int)) (tgt := 76) hx hb (by omega) d_D_stopped_24 (by decide) (fun q24 => ?_) (fun q24 => ?_)
      · skip
        refine lv_iconst (v := iZ ((-1 : Int))) hx hb d_D_stopped_76 (by decide) ?_
        exact z_iretR Z d_D_stopped_77 (iretZ (by rw [hv, show jk J - i = 0 by omega]; rfl))
      · skip
        have hr1 : jk J - i = (jk J - i - 1) + 1 := by omega
        refine lv_iload hx hb d_D_stopped_27 (lv_at hl 4 rfl) ?_
        refine lv_aload_n hx hb d_D_stopped_29 rfl (lv_at hl 0 rfl) ?_
        refine va_get (D := D) (ci := 0) (v := .ref (ad 1)) (C := n_D) (T := f_D) (N := 5) hx hb hts in_D hown hK hP 0 rfl rfl 0 (by decide) (hts _ fl_D_14) (fun _ h9 => h9) rfl d_D_stopped_30 ?_
        refine lv_iload hx hb d_D_stopped_33 (lv_at hl 5 rfl) ?_
        refine lv_iload_n hx hb d_D_stopped_35 rfl (lv_at hl 1 rfl) ?_
        refine z_callVR (As := [.int (iZ ((i : Nat) : Int)), .int (iZ ((kd : Nat) : Int))]) (rest := [.int (iZ (sHt J kd i))]) zTB Z (k_J_keptDifference hI (pp := i) (kd := kd) (by omega) (by omega)) ⟨ml_D_148, im_J_keptDifference, se_J_keptDifference, ini_J, co_J_keptDifference⟩ zd_J_keptDifference ⟨Nat.le_of_ble_eq_true rfl, Nat.le_of_ble_eq_true rfl⟩ hP hK (ci := 1) (q0 := 1) rfl rfl rfl hl.1 rfl (Nat.le_of_ble_eq_true rfl) d_D_stopped_36 ⟨Nat.zero_le _, Nat.zero_le _⟩ ?_
        refine W.eq (g2 := F0 m 39 ls [.int (iZ (sKd J i kd)), .int (iZ (sHt J kd i))]) rfl ?_
        refine z_callSR (As := [.int (iZ (sKd J i kd))]) (rest := [.int (iZ (sHt J kd i))]) zTB Z (k_sg (a := sKd J i kd) (by omega)) ⟨ml_D_151, sm_Integer_signum, ini_Integer, co_sg⟩ zd_sg ⟨Nat.le_of_ble_eq_true rfl, Nat.le_of_ble_eq_true rfl⟩ hP hK hl.1 rfl (Nat.le_of_ble_eq_true rfl) d_D_stopped_39 ⟨Nat.zero_le _, Nat.zero_le _⟩ ?_
        refine W.eq (g2 := F0 m 42 ls [.int (iZ ((sKd J i kd).sign)), .int (iZ (sHt J kd i))]) rfl ?_
        refine z_isub (a := sHt J kd i) (b := (sKd J i kd).sign) hx hb d_D_stopped_42 ?_
        refine lv_istore (lv' := [(4, .int (iZ ((sHt J kd i) - ((sKd J i kd).sign)))), (0, .ref (ad 0)), (1, .int (iZ ((kd : Nat) : Int))), (2, .int (iZ ((up : Nat) : Int))), (3, .int (iZ ((lo : Nat) : Int))), (5, .int (iZ ((i : Nat) : Int)))]) hx hb d_D_stopped_43 hl (by decide) rfl (fun ls hl => ?_)
        refine lv_iload hx hb d_D_stopped_45 (lv_at hl 0 rfl) ?_
        refine lv_iload_n hx hb d_D_stopped_47 rfl (lv_at hl 3 rfl) ?_
        refine z_icmp_ne (a := (sHt J kd i) - ((sKd J i kd).sign)) (b := ((up : Nat) : Int)) (tgt := 56) hx hb (by omega) d_D_stopped_48 (by decide) (fun q48 => ?_) (fun q48 => ?_)
        · skip
          refine lv_iload hx hb d_D_stopped_56 (lv_at hl 0 rfl) ?_
          refine lv_iload_n hx hb d_D_stopped_58 rfl (lv_at hl 4 rfl) ?_
          refine z_ineg (a := ((lo : Nat) : Int)) hx hb d_D_stopped_59 ?_
          refine z_icmp_ne (a := (sHt J kd i) - ((sKd J i kd).sign)) (b := -((lo : Nat) : Int)) (tgt := 70) hx hb (by omega) d_D_stopped_60 (by decide) (fun q60 => ?_) (fun q60 => ?_)
          · skip
            refine lv_iinc (v := iZ ((i + 1 : Nat) : Int)) (lv' := [(5, .int (iZ ((i + 1 : Nat) : Int))), (4, .int (iZ ((sHt J kd i) - ((sKd J i kd).sign)))), (0, .ref (ad 0)), (1, .int (iZ ((kd : Nat) : Int))), (2, .int (iZ ((up : Nat) : Int))), (3, .int (iZ ((lo : Nat) : Int)))]) hx hb d_D_stopped_70 hl (k := 5) rfl (iZ_inc (i) 1) (by decide) rfl (fun ls hl => ?_)
            refine lv_goto (tgt := 15) hx hb d_D_stopped_73 (by decide) ?_
            exact ih15 (i + 1) ls (by omega) (by rw [hv, hr1]; show (if _ then _ else if _ then _ else _) = _; rw [if_neg (show ¬ sHt J kd (i + 1) = ((up : Nat) : Int) from q48), if_neg (show ¬ sHt J kd (i + 1) = -((lo : Nat) : Int) from q60), show jk J - i - 1 = jk J - (i + 1) by omega]) (by omega) (lv_sub hl [2, 3, 4, 5, 1, 0] rfl)
          · skip
            refine lv_iconst (v := iZ ((2 : Nat) : Int)) hx hb d_D_stopped_63 (by decide) ?_
            refine lv_iload hx hb d_D_stopped_64 (lv_at hl 5 rfl) ?_
            refine z_imulN (u := 2) (v := i) hx hb d_D_stopped_66 ?_
            refine lv_iconst (v := iZ ((1 : Nat) : Int)) hx hb d_D_stopped_67 (by decide) ?_
            refine z_iaddN (u := 2 * i) (v := 1) hx hb d_D_stopped_68 ?_
            exact z_iretR Z d_D_stopped_69 (iretZ (by rw [hv, hr1]; show ((2 * i + 1 : Nat) : Int) = (if sHt J kd i - (sKd J i kd).sign = _ then _ else if sHt J kd i - (sKd J i kd).sign = _ then _ else _); rw [if_neg (by omega), if_pos (by omega)]))
        · skip
          refine lv_iconst (v := iZ ((2 : Nat) : Int)) hx hb d_D_stopped_51 (by decide) ?_
          refine lv_iload hx hb d_D_stopped_52 (lv_at hl 5 rfl) ?_
          refine z_imulN (u := 2) (v := i) hx hb d_D_stopped_54 ?_
          exact z_iretR Z d_D_stopped_55 (iretZ (by rw [hv, hr1]; show ((2 * i : Nat) : Int) = (if sHt J kd i - (sKd J i kd).sign = _ then _ else _); rw [if_pos (by omega)]))
  exact L15 (jk J - 0 + 1) 0 ls (Nat.zero_le _) rfl (by omega) (lv_sub hl [2, 3, 4, 5, 1, 0] rfl)

set_option maxHeartbeats 4000000 in
set_option maxRecDepth 100000 in
theorem k_D_unlike {l : Launch} {D : va_G} {ad : Nat → Nat} {cI cZ cL : ClassId} {J : SJ} {rd : Nat → Int} {pr : Nat → Nat} {G : SH} {K : SK} {tl : va_W} (hI : JI J) (hR : RI rd) {fm : Nat} (hf : fm ≤ jn J) : zMr l TB D classes (tysW cI cZ cL) y_D_unlike w_D_unlike 2 63 [.ref (ad 0), .int (iZ ((fm : Nat) : Int))] (wdC ad cI cZ cL J rd pr G K tl) (some (.int (iZ (sUl rd (jn J - fm) fm)))) := by
  refine z_ofR (by decide) (Nat.le_of_ble_eq_true rfl) ?_
  intro p e s m below meth c ls Z hP hK hl
  obtain ⟨hx, hb, hr, hml, hown, hts, hE, hlocks⟩ := id Z
  have hl : lv_has ls 3 [(0, .ref (ad 0)), (1, .int (iZ ((fm : Nat) : Int)))] := hl
  obtain ⟨hn32, hk2, hpr, hct⟩ := id hI
  refine lv_iload_n hx hb d_D_unlike_0 rfl (lv_at hl 1 rfl) ?_
  refine lv_aload_n hx hb d_D_unlike_1 rfl (lv_at hl 0 rfl) ?_
  refine va_get (D := D) (ci := 0) (v := .ref (ad 1)) (C := n_D) (T := f_D) (N := 5) hx hb hts in_D hown hK hP 0 rfl rfl 0 (by decide) (hts _ fl_D_14) (fun _ h9 => h9) rfl d_D_unlike_2 ?_
  refine va_getN (D := D) (ci := 1) (v := .int (iZ ((jn J : Nat) : Int))) (C := n_J) (T := f_J) (N := 10) hx hb hts in_J hown hK hP 1 rfl rfl 1 (by decide) (hts _ fl_D_46) (fun _ h9 => h9) rfl d_D_unlike_5 ?_
  refine lv_iconst (v := iZ ((1 : Nat) : Int)) hx hb d_D_unlike_8 (by decide) ?_
  refine z_iaddN (u := jn J) (v := 1) hx hb d_D_unlike_9 ?_
  refine z_callSR (As := [.int (iZ ((fm : Nat) : Int)), .int (iZ (((jn J) + 1 : Nat) : Int))]) (rest := []) zTB Z (k_D_needIndex (a := ((fm : Nat) : Int)) (b := (((jn J) + 1 : Nat) : Int)) (by omega)) ⟨ml_D_86, sm_D_needIndex, ini_D, co_D_needIndex⟩ zd_D_needIndex ⟨Nat.le_of_ble_eq_true rfl, Nat.le_of_ble_eq_true rfl⟩ hP hK hl.1 rfl (Nat.le_of_ble_eq_true rfl) d_D_unlike_10 ⟨Nat.zero_le _, Nat.zero_le _⟩ ?_
  refine W.eq (g2 := F0 m 13 ls []) rfl ?_
  refine lv_iload_n hx hb d_D_unlike_13 rfl (lv_at hl 1 rfl) ?_
  refine lv_istore_n (lv' := [(2, .int (iZ ((fm : Nat) : Int))), (0, .ref (ad 0)), (1, .int (iZ ((fm : Nat) : Int)))]) hx hb d_D_unlike_14 rfl hl (by decide) rfl (fun ls hl => ?_)
  have L15 : ∀ (N15 : Nat) (i : Nat) (ls : Array Slot), (i ≤ jn J) → (sUl rd (jn J - fm) fm = sUl rd (jn J - i) i) → jn J - i < N15 → lv_has ls 3 [(0, .ref (ad 0)), (1, .int (iZ ((fm : Nat) : Int))), (2, .int (iZ ((i : Nat) : Int)))] → W p l e (zRm 2 63) s m ([.ref (ad 0), .int (iZ ((fm : Nat) : Int))] : List Value).toArray below meth c s.heap [] 0 0 (MQ below (zQr (some (.int (iZ (sUl rd (jn J - fm) fm))))) ([.ref (ad 0), .int (iZ ((fm : Nat) : Int))] : List Value).toArray s 0 0 (fun _ => False)) (F0 m 15 ls []) := by
    intro N15
    induction N15 with
    | zero =>
      intro i ls hi hv hN15 hl
      exact absurd hN15 (Nat.not_lt_zero _)
    | succ N15 ih15 =>
      intro i ls hi hv hN15 hl
      refine lv_iload_n hx hb d_D_unlike_15 rfl (lv_at hl 2 rfl) ?_
      refine lv_aload_n hx hb d_D_unlike_16 rfl (lv_at hl 0 rfl) ?_
      refine va_get (D := D) (ci := 0) (v := .ref (ad 1)) (C := n_D) (T := f_D) (N := 5) hx hb hts in_D hown hK hP 0 rfl rfl 0 (by decide) (hts _ fl_D_14) (fun _ h9 => h9) rfl d_D_unlike_17 ?_
      refine va_getN (D := D) (ci := 1) (v := .int (iZ ((jn J : Nat) : Int))) (C := n_J) (T := f_J) (N := 10) hx hb hts in_J hown hK hP 1 rfl rfl 1 (by decide) (hts _ fl_D_46) (fun _ h9 => h9) rfl d_D_unlike_20 ?_
      refine z_icmp_ge (a := ((i : Nat) : Int)) (b := ((jn J : Nat) : Int)) (tgt := 45) hx hb (by omega) d_D_unlike_23 (by decide) (fun q23 => ?_) (fun q23 => ?_)
      · skip
        refine lv_iconst (v := iZ ((-1 : Int))) hx hb d_D_unlike_45 (by decide) ?_
        exact z_iretR Z d_D_unlike_46 (iretZ (by rw [hv, show jn J - i = 0 by omega]; rfl))
      · skip
        have hr1 : jn J - i = (jn J - i - 1) + 1 := by omega
        refine lv_aload_n hx hb d_D_unlike_26 rfl (lv_at hl 0 rfl) ?_
        refine va_get (D := D) (ci := 0) (v := .ref (ad 9)) (C := n_D) (T := f_D) (N := 5) hx hb hts in_D hown hK hP 0 rfl rfl 1 (by decide) (hts _ fl_D_21) (fun _ h9 => h9) rfl d_D_unlike_27 ?_
        refine lv_iload_n hx hb d_D_unlike_30 rfl (lv_at hl 2 rfl) ?_
        refine z_callVR (As := [.int (iZ ((i : Nat) : Int))]) (rest := []) zTB Z (k_C_differs hR (h := i) (by omega)) ⟨ml_D_173, im_C_differs, se_C_differs, ini_C, co_C_differs⟩ zd_C_differs ⟨Nat.le_of_ble_eq_true rfl, Nat.le_of_ble_eq_true rfl⟩ hP hK (ci := 2) (q0 := 9) rfl rfl rfl hl.1 rfl (Nat.le_of_ble_eq_true rfl) d_D_unlike_31 ⟨Nat.zero_le _, Nat.zero_le _⟩ ?_
        refine W.eq (g2 := F0 m 34 ls [.int (bI (sUn rd i))]) rfl ?_
        refine z_if_eqB (b := sUn rd i) (tgt := 39) hx hb d_D_unlike_34 (by decide) (fun q34 => ?_) (fun q34 => ?_)
        · skip
          refine lv_iinc (v := iZ ((i + 1 : Nat) : Int)) (lv' := [(2, .int (iZ ((i + 1 : Nat) : Int))), (0, .ref (ad 0)), (1, .int (iZ ((fm : Nat) : Int)))]) hx hb d_D_unlike_39 hl (k := 2) rfl (iZ_inc (i) 1) (by decide) rfl (fun ls hl => ?_)
          refine lv_goto (tgt := 15) hx hb d_D_unlike_42 (by decide) ?_
          exact ih15 (i + 1) ls (by omega) (by rw [hv, hr1]; show (if _ then _ else _) = _; rw [if_neg (by rw [q34]; decide), show jn J - i - 1 = jn J - (i + 1) by omega]) (by omega) (lv_sub hl [1, 2, 0] rfl)
        · skip
          refine lv_iload_n hx hb d_D_unlike_37 rfl (lv_at hl 2 rfl) ?_
          exact z_iretR Z d_D_unlike_38 (iretZ (by rw [hv, hr1]; show ((i : Nat) : Int) = (if _ then _ else _); rw [if_pos q34]))
  exact L15 (jn J - fm + 1) fm ls hf rfl (by omega) (lv_sub hl [1, 2, 0] rfl)

set_option maxHeartbeats 4000000 in
set_option maxRecDepth 100000 in
theorem k_D_lost {l : Launch} {D : va_G} {ad : Nat → Nat} {cI cZ cL : ClassId} {J : SJ} {rd : Nat → Int} {pr : Nat → Nat} {G : SH} {K : SK} {tl : va_W} (hI : JI J) (hpq : ∀ j, pr j ≤ 100000) : zMr l TB D classes (tysW cI cZ cL) y_D_lost w_D_lost 4 91 [.ref (ad 0)] (wdC ad cI cZ cL J rd pr G K tl) (some (.long (lZ (sLo J pr 3)))) := by
  refine z_ofR (by decide) (Nat.le_of_ble_eq_true rfl) ?_
  intro p e s m below meth c ls Z hP hK hl
  obtain ⟨hx, hb, hr, hml, hown, hts, hE, hlocks⟩ := id Z
  have hl : lv_has ls 4 [(0, .ref (ad 0))] := hl
  obtain ⟨hn32, hk2, hpr, hct⟩ := id hI
  refine lv_lconst (v := lZ ((0 : Nat) : Int)) hx hb d_D_lost_0 (by decide) ?_
  refine lv_lstore_n (lv' := [(1, .long (lZ ((0 : Nat) : Int))), (0, .ref (ad 0))]) hx hb d_D_lost_1 rfl hl (by decide) rfl (fun ls hl => ?_)
  refine lv_iconst (v := iZ ((0 : Nat) : Int)) hx hb d_D_lost_2 (by decide) ?_
  refine lv_istore_n (lv' := [(3, .int (iZ ((0 : Nat) : Int))), (1, .long (lZ ((0 : Nat) : Int))), (0, .ref (ad 0))]) hx hb d_D_lost_3 rfl hl (by decide) rfl (fun ls hl => ?_)
  have L4 : ∀ (N4 : Nat) (i : Nat) (ls : Array Slot), (i ≤ 3) → 3 - i < N4 → lv_has ls 4 [(0, .ref (ad 0)), (1, .long (lZ (sLo J pr i))), (3, .int (iZ ((i : Nat) : Int)))] → W p l e (zRm 4 91) s m ([.ref (ad 0)] : List Value).toArray below meth c s.heap [] 0 0 (MQ below (zQr (some (.long (lZ (sLo J pr 3))))) ([.ref (ad 0)] : List Value).toArray s 0 0 (fun _ => False)) (F0 m 4 ls []) := by
    intro N4
    induction N4 with
    | zero =>
      intro i ls hi hN4 hl
      exact absurd hN4 (Nat.not_lt_zero _)
    | succ N4 ih4 =>
      intro i ls hi hN4 hl
      have hb1 := sSO_b hI 4 i (jk J)
      have hb2 := hpq i
      refine lv_iload_n hx hb d_D_lost_4 rfl (lv_at hl 2 rfl) ?_
      refine lv_iconst (v := iZ ((3 : Nat) : Int)) hx hb d_D_lost_5 (by decide) ?_
      refine z_icmp_ge (a := ((i : Nat) : Int)) (b := ((3 : Nat) : Int)) (tgt := 36) hx hb (by omega) d_D_lost_6 (by decide) (fun q6 => ?_) (fun q6 => ?_)
      · skip
        refine lv_lload_n hx hb d_D_lost_36 rfl (lv_at hl 1 rfl) ?_
        exact z_lretR Z d_D_lost_37 (lretZ (by rw [show i = 3 by omega]))
      · skip
        refine lv_lload_n hx hb d_D_lost_9 rfl (lv_at hl 1 rfl) ?_
        refine lv_aload_n hx hb d_D_lost_10 rfl (lv_at hl 0 rfl) ?_
        refine va_get (D := D) (ci := 0) (v := .ref (ad 18)) (C := n_D) (T := f_D) (N := 5) hx hb hts in_D hown hK hP 0 rfl rfl 4 (by decide) (hts _ fl_D_39) (fun _ h9 => h9) rfl d_D_lost_11 ?_
        refine lv_iload_n hx hb d_D_lost_14 rfl (lv_at hl 2 rfl) ?_
        refine z_ialdN (f := pr) hx hb hK hP 18 0 rfl rfl (i) (by omega) d_D_lost_15 ?_
        refine z_i2l (a := ((pr (i) : Nat) : Int)) hx hb (by omega) d_D_lost_16 ?_
        refine lv_aload_n hx hb d_D_lost_17 rfl (lv_at hl 0 rfl) ?_
        refine va_get (D := D) (ci := 0) (v := .ref (ad 1)) (C := n_D) (T := f_D) (N := 5) hx hb hts in_D hown hK hP 0 rfl rfl 0 (by decide) (hts _ fl_D_14) (fun _ h9 => h9) rfl d_D_lost_18 ?_
        refine lv_iconst (v := iZ ((4 : Nat) : Int)) hx hb d_D_lost_21 (by decide) ?_
        refine lv_iload_n hx hb d_D_lost_22 rfl (lv_at hl 2 rfl) ?_
        refine z_callVR (As := [.int (iZ ((4 : Nat) : Int)), .int (iZ ((i : Nat) : Int))]) (rest := [.long (lZ ((pr (i) : Nat) : Int)), .long (lZ (sLo J pr i))]) zTB Z (k_J_sumOf hI (sh := 4) (kd := i) (by omega) (by omega)) ⟨ml_D_109, im_J_sumOf, se_J_sumOf, ini_J, co_J_sumOf⟩ zd_J_sumOf ⟨Nat.le_of_ble_eq_true rfl, Nat.le_of_ble_eq_true rfl⟩ hP hK (ci := 1) (q0 := 1) rfl rfl rfl hl.1 rfl (Nat.le_of_ble_eq_true rfl) d_D_lost_23 ⟨Nat.zero_le _, Nat.zero_le _⟩ ?_
        refine W.eq (g2 := F0 m 26 ls [.int (iZ (sSO J 4 i (jk J))), .long (lZ ((pr (i) : Nat) : Int)), .long (lZ (sLo J pr i))]) rfl ?_
        refine z_i2l (a := sSO J 4 i (jk J)) hx hb (by omega) d_D_lost_26 ?_
        refine z_lmul (a := ((pr (i) : Nat) : Int)) (b := sSO J 4 i (jk J)) hx hb d_D_lost_27 ?_
        refine z_lsub (a := sLo J pr i) (b := ((pr (i) : Nat) : Int) * (sSO J 4 i (jk J))) hx hb d_D_lost_28 ?_
        refine lv_lstore_n (lv' := [(1, .long (lZ ((sLo J pr i) - (((pr (i) : Nat) : Int) * (sSO J 4 i (jk J)))))), (0, .ref (ad 0)), (3, .int (iZ ((i : Nat) : Int)))]) hx hb d_D_lost_29 rfl hl (by decide) rfl (fun ls hl => ?_)
        refine lv_iinc (v := iZ ((i + 1 : Nat) : Int)) (lv' := [(3, .int (iZ ((i + 1 : Nat) : Int))), (1, .long (lZ ((sLo J pr i) - (((pr (i) : Nat) : Int) * (sSO J 4 i (jk J)))))), (0, .ref (ad 0))]) hx hb d_D_lost_30 hl (k := 2) rfl (iZ_inc (i) 1) (by decide) rfl (fun ls hl => ?_)
        refine lv_goto (tgt := 4) hx hb d_D_lost_33 (by decide) ?_
        exact ih4 (i + 1) ls (by omega) (by omega) (lv_sub hl [2, 1, 0] (by rw [show (sLo J pr (i + 1)) = ((sLo J pr i) - (((pr (i) : Nat) : Int) * (sSO J 4 i (jk J)))) from rfl]; rfl))
  exact L4 (3 - 0 + 1) 0 ls (Nat.zero_le _) (by omega) (lv_sub hl [2, 1, 0] rfl)
end
section
/-! What the face throws, and when. -/
set_option maxHeartbeats 4000000 in
set_option maxRecDepth 100000 in
theorem x_D_haul1 {l : Launch} {D : va_G} (hl0 : l.stackTraces = false) {ad : Nat → Nat} {cI cZ cL : ClassId} {J : SJ} {rd : Nat → Int} {pr : Nat → Nat} {G : SH} {K : SK} {tl : va_W} (hI : JI J) {a : Int} (h : z32 a ∧ (a < 0 ∨ 4 ≤ a)) : zMt l D (tysW cI cZ cL) y_D_haul w_D_haul 9 141 [.ref (ad 0), .int (iZ (a))] (wdC ad cI cZ cL J rd pr G K tl) "java/lang/IndexOutOfBoundsException" := by
  refine z_ofX (by decide) (Nat.le_of_ble_eq_true rfl) ?_
  intro p e s m below meth c ls Z htab hP hK hT hSt hl
  obtain ⟨hx, hb, hr, hml, hown, hts, hE, hlocks⟩ := id Z
  have hl : lv_has ls 2 [(0, .ref (ad 0)), (1, .int (iZ (a)))] := hl
  obtain ⟨hn32, hk2, hpr, hct⟩ := id hI
  refine lv_iload_n hx hb d_D_haul_0 rfl (lv_at hl 1 rfl) ?_
  refine z_xS (As := [.int (iZ (a))]) (rest := []) Z (x_D_needShip hl0 (a := a) (by omega)) ⟨ml_D_43, sm_D_needShip, ini_D, co_D_needShip⟩ zd_D_needShip ⟨Nat.le_of_ble_eq_true rfl, Nat.le_of_ble_eq_true rfl⟩ hP hK hT hSt hl.1 rfl (Nat.le_of_ble_eq_true rfl) d_D_haul_1 ⟨Nat.le_of_ble_eq_true rfl, Nat.le_of_ble_eq_true rfl⟩ (fun q9 ce9 H9 hz9 hk9 hc9 hv9 hcl9 => ?_)
  exact z_xout Z htab hz9 hk9 hc9 hv9 hcl9

set_option maxHeartbeats 4000000 in
set_option maxRecDepth 100000 in
theorem x_D_haul2 {l : Launch} {D : va_G} (hl0 : l.stackTraces = false) {ad : Nat → Nat} {cI cZ cL : ClassId} {J : SJ} {rd : Nat → Int} {pr : Nat → Nat} {G : SH} {K : SK} {tl : va_W} (hI : JI J) {sh : Nat} (h : sh < 4) (h2 : jn J = 32) : zMt l D (tysW cI cZ cL) y_D_haul w_D_haul 9 141 [.ref (ad 0), .int (iZ ((sh : Nat) : Int))] (wdC ad cI cZ cL J rd pr G K tl) "java/lang/IllegalStateException" := by
  refine z_ofX (by decide) (Nat.le_of_ble_eq_true rfl) ?_
  intro p e s m below meth c ls Z htab hP hK hT hSt hl
  obtain ⟨hx, hb, hr, hml, hown, hts, hE, hlocks⟩ := id Z
  have hl : lv_has ls 2 [(0, .ref (ad 0)), (1, .int (iZ ((sh : Nat) : Int)))] := hl
  obtain ⟨hn32, hk2, hpr, hct⟩ := id hI
  refine lv_iload_n hx hb d_D_haul_0 rfl (lv_at hl 1 rfl) ?_
  refine z_callSR (As := [.int (iZ ((sh : Nat) : Int))]) (rest := []) zTB Z (k_D_needShip (a := ((sh : Nat) : Int)) (by omega)) ⟨ml_D_43, sm_D_needShip, ini_D, co_D_needShip⟩ zd_D_needShip ⟨Nat.le_of_ble_eq_true rfl, Nat.le_of_ble_eq_true rfl⟩ hP hK hl.1 rfl (Nat.le_of_ble_eq_true rfl) d_D_haul_1 ⟨Nat.zero_le _, Nat.zero_le _⟩ ?_
  refine W.eq (g2 := F0 m 4 ls []) rfl ?_
  refine lv_aload_n hx hb d_D_haul_4 rfl (lv_at hl 0 rfl) ?_
  refine va_get (D := D) (ci := 0) (v := .ref (ad 1)) (C := n_D) (T := f_D) (N := 5) hx hb hts in_D hown hK hP 0 rfl rfl 0 (by decide) (hts _ fl_D_14) (fun _ h9 => h9) rfl d_D_haul_5 ?_
  refine va_getN (D := D) (ci := 1) (v := .int (iZ ((jn J : Nat) : Int))) (C := n_J) (T := f_J) (N := 10) hx hb hts in_J hown hK hP 1 rfl rfl 1 (by decide) (hts _ fl_D_46) (fun _ h9 => h9) rfl d_D_haul_8 ?_
  refine lv_bipush (v := iZ ((32 : Nat) : Int)) hx hb d_D_haul_11 (by decide) ?_
  refine z_icmp_lt (a := ((jn J : Nat) : Int)) (b := ((32 : Nat) : Int)) (tgt := 26) hx hb (by omega) d_D_haul_13 (by decide) (fun q13 => ?_) (fun q13 => ?_)
  · skip
    exfalso; omega
  · skip
    obtain ⟨sa, hsa⟩ := hSt _ (List.mem_of_getElem? (i := 1) rfl)
    exact z_throwS (names := ["java/lang/RuntimeException", "java/lang/Exception"]) hl0 Z htab hT (by decide +kernel) (by decide +kernel) kl_D_50 ini_IllegalStateException (by decide +kernel) hsa hl.1 d_D_haul_16 d_D_haul_19 d_D_haul_20 d_D_haul_22 d_D_haul_25 (by decide) (Nat.le_of_ble_eq_true rfl) (by decide) (by decide)

set_option maxHeartbeats 4000000 in
set_option maxRecDepth 100000 in
theorem x_D_caught1 {l : Launch} {D : va_G} (hl0 : l.stackTraces = false) {ad : Nat → Nat} {cI cZ cL : ClassId} {J : SJ} {rd : Nat → Int} {pr : Nat → Nat} {G : SH} {K : SK} {tl : va_W} (hI : JI J) {a b c9 : Int} (h : z32 a ∧ (a < 0 ∨ ((jn J : Nat) : Int) ≤ a)) : zMt l D (tysW cI cZ cL) y_D_caught w_D_caught 9 142 [.ref (ad 0), .int (iZ (a)), .int (iZ (b)), .int (iZ (c9))] (wdC ad cI cZ cL J rd pr G K tl) "java/lang/IndexOutOfBoundsException" := by
  refine z_ofX (by decide) (Nat.le_of_ble_eq_true rfl) ?_
  intro p e s m below meth c ls Z htab hP hK hT hSt hl
  obtain ⟨hx, hb, hr, hml, hown, hts, hE, hlocks⟩ := id Z
  have hl : lv_has ls 4 [(0, .ref (ad 0)), (1, .int (iZ (a))), (2, .int (iZ (b))), (3, .int (iZ (c9)))] := hl
  obtain ⟨hn32, hk2, hpr, hct⟩ := id hI
  refine lv_aload_n hx hb d_D_caught_0 rfl (lv_at hl 0 rfl) ?_
  refine lv_iload_n hx hb d_D_caught_1 rfl (lv_at hl 1 rfl) ?_
  refine z_xV (As := [.int (iZ (a))]) (rest := []) Z (x_D_needHaul hl0 (a := a) (by omega)) ⟨ml_D_61, im_D_needHaul, se_D_needHaul, ini_D, co_D_needHaul⟩ zd_D_needHaul ⟨Nat.le_of_ble_eq_true rfl, Nat.le_of_ble_eq_true rfl⟩ hP hK hT hSt (ci := 0) (q0 := 0) rfl rfl rfl hl.1 rfl (Nat.le_of_ble_eq_true rfl) d_D_caught_2 ⟨Nat.le_of_ble_eq_true rfl, Nat.le_of_ble_eq_true rfl⟩ (fun q9 ce9 H9 hz9 hk9 hc9 hv9 hcl9 => ?_)
  exact z_xout Z htab hz9 hk9 hc9 hv9 hcl9

set_option maxHeartbeats 4000000 in
set_option maxRecDepth 100000 in
theorem x_D_caught2 {l : Launch} {D : va_G} (hl0 : l.stackTraces = false) {ad : Nat → Nat} {cI cZ cL : ClassId} {J : SJ} {rd : Nat → Int} {pr : Nat → Nat} {G : SH} {K : SK} {tl : va_W} (hI : JI J) {h : Nat} {b c9 : Int} (hh : h < jn J) (h2 : z32 b ∧ (b < 0 ∨ 3 ≤ b)) : zMt l D (tysW cI cZ cL) y_D_caught w_D_caught 9 142 [.ref (ad 0), .int (iZ ((h : Nat) : Int)), .int (iZ (b)), .int (iZ (c9))] (wdC ad cI cZ cL J rd pr G K tl) "java/lang/IndexOutOfBoundsException" := by
  refine z_ofX (by decide) (Nat.le_of_ble_eq_true rfl) ?_
  intro p e s m below meth c ls Z htab hP hK hT hSt hl
  obtain ⟨hx, hb, hr, hml, hown, hts, hE, hlocks⟩ := id Z
  have hl : lv_has ls 4 [(0, .ref (ad 0)), (1, .int (iZ ((h : Nat) : Int))), (2, .int (iZ (b))), (3, .int (iZ (c9)))] := hl
  obtain ⟨hn32, hk2, hpr, hct⟩ := id hI
  refine lv_aload_n hx hb d_D_caught_0 rfl (lv_at hl 0 rfl) ?_
  refine lv_iload_n hx hb d_D_caught_1 rfl (lv_at hl 1 rfl) ?_
  refine z_callVR (As := [.int (iZ ((h : Nat) : Int))]) (rest := []) zTB Z (k_D_needHaul (a := ((h : Nat) : Int)) (by omega)) ⟨ml_D_61, im_D_needHaul, se_D_needHaul, ini_D, co_D_needHaul⟩ zd_D_needHaul ⟨Nat.le_of_ble_eq_true rfl, Nat.le_of_ble_eq_true rfl⟩ hP hK (ci := 0) (q0 := 0) rfl rfl rfl hl.1 rfl (Nat.le_of_ble_eq_true rfl) d_D_caught_2 ⟨Nat.zero_le _, Nat.zero_le _⟩ ?_
  refine W.eq (g2 := F0 m 5 ls []) rfl ?_
  refine lv_iload_n hx hb d_D_caught_5 rfl (lv_at hl 2 rfl) ?_
  refine z_xS (As := [.int (iZ (b))]) (rest := []) Z (x_D_needKind hl0 (a := b) (by omega)) ⟨ml_D_64, sm_D_needKind, ini_D, co_D_needKind⟩ zd_D_needKind ⟨Nat.le_of_ble_eq_true rfl, Nat.le_of_ble_eq_true rfl⟩ hP hK hT hSt hl.1 rfl (Nat.le_of_ble_eq_true rfl) d_D_caught_6 ⟨Nat.le_of_ble_eq_true rfl, Nat.le_of_ble_eq_true rfl⟩ (fun q9 ce9 H9 hz9 hk9 hc9 hv9 hcl9 => ?_)
  exact z_xout Z htab hz9 hk9 hc9 hv9 hcl9

set_option maxHeartbeats 4000000 in
set_option maxRecDepth 100000 in
theorem x_D_caught3 {l : Launch} {D : va_G} (hl0 : l.stackTraces = false) {ad : Nat → Nat} {cI cZ cL : ClassId} {J : SJ} {rd : Nat → Int} {pr : Nat → Nat} {G : SH} {K : SK} {tl : va_W} (hI : JI J) {h kd : Nat} {c9 : Int} (hh : h < jn J) (hkd : kd < 3) (h2 : z32 c9 ∧ (c9 < 0 ∨ 1000 < c9)) : zMt l D (tysW cI cZ cL) y_D_caught w_D_caught 9 142 [.ref (ad 0), .int (iZ ((h : Nat) : Int)), .int (iZ ((kd : Nat) : Int)), .int (iZ (c9))] (wdC ad cI cZ cL J rd pr G K tl) "java/lang/IllegalArgumentException" := by
  refine z_ofX (by decide) (Nat.le_of_ble_eq_true rfl) ?_
  intro p e s m below meth c ls Z htab hP hK hT hSt hl
  obtain ⟨hx, hb, hr, hml, hown, hts, hE, hlocks⟩ := id Z
  have hl : lv_has ls 4 [(0, .ref (ad 0)), (1, .int (iZ ((h : Nat) : Int))), (2, .int (iZ ((kd : Nat) : Int))), (3, .int (iZ (c9)))] := hl
  obtain ⟨hn32, hk2, hpr, hct⟩ := id hI
  refine lv_aload_n hx hb d_D_caught_0 rfl (lv_at hl 0 rfl) ?_
  refine lv_iload_n hx hb d_D_caught_1 rfl (lv_at hl 1 rfl) ?_
  refine z_callVR (As := [.int (iZ ((h : Nat) : Int))]) (rest := []) zTB Z (k_D_needHaul (a := ((h : Nat) : Int)) (by omega)) ⟨ml_D_61, im_D_needHaul, se_D_needHaul, ini_D, co_D_needHaul⟩ zd_D_needHaul ⟨Nat.le_of_ble_eq_true rfl, Nat.le_of_ble_eq_true rfl⟩ hP hK (ci := 0) (q0 := 0) rfl rfl rfl hl.1 rfl (Nat.le_of_ble_eq_true rfl) d_D_caught_2 ⟨Nat.zero_le _, Nat.zero_le _⟩ ?_
  refine W.eq (g2 := F0 m 5 ls []) rfl ?_
  refine lv_iload_n hx hb d_D_caught_5 rfl (lv_at hl 2 rfl) ?_
  refine z_callSR (As := [.int (iZ ((kd : Nat) : Int))]) (rest := []) zTB Z (k_D_needKind (a := ((kd : Nat) : Int)) (by omega)) ⟨ml_D_64, sm_D_needKind, ini_D, co_D_needKind⟩ zd_D_needKind ⟨Nat.le_of_ble_eq_true rfl, Nat.le_of_ble_eq_true rfl⟩ hP hK hl.1 rfl (Nat.le_of_ble_eq_true rfl) d_D_caught_6 ⟨Nat.zero_le _, Nat.zero_le _⟩ ?_
  refine W.eq (g2 := F0 m 9 ls []) rfl ?_
  refine lv_iload_n hx hb d_D_caught_9 rfl (lv_at hl 3 rfl) ?_
  refine lv_iconst (v := iZ ((0 : Nat) : Int)) hx hb d_D_caught_10 (by decide) ?_
  refine lv_sipush (v := iZ ((1000 : Nat) : Int)) hx hb d_D_caught_11 (by decide) ?_
  refine z_xS (As := [.int (iZ (c9)), .int (iZ ((0 : Nat) : Int)), .int (iZ ((1000 : Nat) : Int))]) (rest := []) Z (x_D_needNumber hl0 (a := c9) (b := ((0 : Nat) : Int)) (c9 := ((1000 : Nat) : Int)) (by omega)) ⟨ml_D_67, sm_D_needNumber, ini_D, co_D_needNumber⟩ zd_D_needNumber ⟨Nat.le_of_ble_eq_true rfl, Nat.le_of_ble_eq_true rfl⟩ hP hK hT hSt hl.1 rfl (Nat.le_of_ble_eq_true rfl) d_D_caught_14 ⟨Nat.le_of_ble_eq_true rfl, Nat.le_of_ble_eq_true rfl⟩ (fun q9 ce9 H9 hz9 hk9 hc9 hv9 hcl9 => ?_)
  exact z_xout Z htab hz9 hk9 hc9 hv9 hcl9

set_option maxHeartbeats 4000000 in
set_option maxRecDepth 100000 in
theorem x_D_out1 {l : Launch} {D : va_G} (hl0 : l.stackTraces = false) {ad : Nat → Nat} {cI cZ cL : ClassId} {J : SJ} {rd : Nat → Int} {pr : Nat → Nat} {G : SH} {K : SK} {tl : va_W} (hI : JI J) {a : Int} {on : Bool} (h : z32 a ∧ (a < 0 ∨ 4 ≤ a)) : zMt l D (tysW cI cZ cL) y_D_out w_D_out 9 141 [.ref (ad 0), .int (iZ (a)), .int (bI (on))] (wdC ad cI cZ cL J rd pr G K tl) "java/lang/IndexOutOfBoundsException" := by
  refine z_ofX (by decide) (Nat.le_of_ble_eq_true rfl) ?_
  intro p e s m below meth c ls Z htab hP hK hT hSt hl
  obtain ⟨hx, hb, hr, hml, hown, hts, hE, hlocks⟩ := id Z
  have hl : lv_has ls 3 [(0, .ref (ad 0)), (1, .int (iZ (a))), (2, .int (bI (on)))] := hl
  obtain ⟨hn32, hk2, hpr, hct⟩ := id hI
  refine lv_iload_n hx hb d_D_out_0 rfl (lv_at hl 1 rfl) ?_
  refine z_xS (As := [.int (iZ (a))]) (rest := []) Z (x_D_needShip hl0 (a := a) (by omega)) ⟨ml_D_43, sm_D_needShip, ini_D, co_D_needShip⟩ zd_D_needShip ⟨Nat.le_of_ble_eq_true rfl, Nat.le_of_ble_eq_true rfl⟩ hP hK hT hSt hl.1 rfl (Nat.le_of_ble_eq_true rfl) d_D_out_1 ⟨Nat.le_of_ble_eq_true rfl, Nat.le_of_ble_eq_true rfl⟩ (fun q9 ce9 H9 hz9 hk9 hc9 hv9 hcl9 => ?_)
  exact z_xout Z htab hz9 hk9 hc9 hv9 hcl9

set_option maxHeartbeats 4000000 in
set_option maxRecDepth 100000 in
theorem x_D_arm1 {l : Launch} {D : va_G} (hl0 : l.stackTraces = false) {ad : Nat → Nat} {cI cZ cL : ClassId} {J : SJ} {rd : Nat → Int} {pr : Nat → Nat} {G : SH} {K : SK} {tl : va_W} (hI : JI J) {a : Int} (h : z32 a ∧ (a < 0 ∨ ((jn J : Nat) : Int) ≤ a)) : zMt l D (tysW cI cZ cL) y_D_arm w_D_arm 9 142 [.ref (ad 0), .int (iZ (a))] (wdC ad cI cZ cL J rd pr G K tl) "java/lang/IndexOutOfBoundsException" := by
  refine z_ofX (by decide) (Nat.le_of_ble_eq_true rfl) ?_
  intro p e s m below meth c ls Z htab hP hK hT hSt hl
  obtain ⟨hx, hb, hr, hml, hown, hts, hE, hlocks⟩ := id Z
  have hl : lv_has ls 2 [(0, .ref (ad 0)), (1, .int (iZ (a)))] := hl
  obtain ⟨hn32, hk2, hpr, hct⟩ := id hI
  refine lv_aload_n hx hb d_D_arm_0 rfl (lv_at hl 0 rfl) ?_
  refine lv_iload_n hx hb d_D_arm_1 rfl (lv_at hl 1 rfl) ?_
  refine z_xV (As := [.int (iZ (a))]) (rest := []) Z (x_D_needHaul hl0 (a := a) (by omega)) ⟨ml_D_61, im_D_needHaul, se_D_needHaul, ini_D, co_D_needHaul⟩ zd_D_needHaul ⟨Nat.le_of_ble_eq_true rfl, Nat.le_of_ble_eq_true rfl⟩ hP hK hT hSt (ci := 0) (q0 := 0) rfl rfl rfl hl.1 rfl (Nat.le_of_ble_eq_true rfl) d_D_arm_2 ⟨Nat.le_of_ble_eq_true rfl, Nat.le_of_ble_eq_true rfl⟩ (fun q9 ce9 H9 hz9 hk9 hc9 hv9 hcl9 => ?_)
  exact z_xout Z htab hz9 hk9 hc9 hv9 hcl9

set_option maxHeartbeats 4000000 in
set_option maxRecDepth 100000 in
theorem x_D_pair1 {l : Launch} {D : va_G} (hl0 : l.stackTraces = false) {ad : Nat → Nat} {cI cZ cL : ClassId} {J : SJ} {rd : Nat → Int} {pr : Nat → Nat} {G : SH} {K : SK} {tl : va_W} (hI : JI J) {a b : Int} (h : z32 a ∧ (a < 0 ∨ ((jk J : Nat) : Int) ≤ a)) : zMt l D (tysW cI cZ cL) y_D_pair w_D_pair 9 142 [.ref (ad 0), .int (iZ (a)), .int (iZ (b))] (wdC ad cI cZ cL J rd pr G K tl) "java/lang/IndexOutOfBoundsException" := by
  refine z_ofX (by decide) (Nat.le_of_ble_eq_true rfl) ?_
  intro p e s m below meth c ls Z htab hP hK hT hSt hl
  obtain ⟨hx, hb, hr, hml, hown, hts, hE, hlocks⟩ := id Z
  have hl : lv_has ls 3 [(0, .ref (ad 0)), (1, .int (iZ (a))), (2, .int (iZ (b)))] := hl
  obtain ⟨hn32, hk2, hpr, hct⟩ := id hI
  refine lv_aload_n hx hb d_D_pair_0 rfl (lv_at hl 0 rfl) ?_
  refine lv_iload_n hx hb d_D_pair_1 rfl (lv_at hl 1 rfl) ?_
  refine z_xV (As := [.int (iZ (a))]) (rest := []) Z (x_D_needPair hl0 (a := a) (by omega)) ⟨ml_D_83, im_D_needPair, se_D_needPair, ini_D, co_D_needPair⟩ zd_D_needPair ⟨Nat.le_of_ble_eq_true rfl, Nat.le_of_ble_eq_true rfl⟩ hP hK hT hSt (ci := 0) (q0 := 0) rfl rfl rfl hl.1 rfl (Nat.le_of_ble_eq_true rfl) d_D_pair_2 ⟨Nat.le_of_ble_eq_true rfl, Nat.le_of_ble_eq_true rfl⟩ (fun q9 ce9 H9 hz9 hk9 hc9 hv9 hcl9 => ?_)
  exact z_xout Z htab hz9 hk9 hc9 hv9 hcl9

set_option maxHeartbeats 4000000 in
set_option maxRecDepth 100000 in
theorem x_D_pair2 {l : Launch} {D : va_G} (hl0 : l.stackTraces = false) {ad : Nat → Nat} {cI cZ cL : ClassId} {J : SJ} {rd : Nat → Int} {pr : Nat → Nat} {G : SH} {K : SK} {tl : va_W} (hI : JI J) {pp : Nat} {b : Int} (hp : pp < jk J) (h : z32 b ∧ (b < 0 ∨ 3 ≤ b)) : zMt l D (tysW cI cZ cL) y_D_pair w_D_pair 9 142 [.ref (ad 0), .int (iZ ((pp : Nat) : Int)), .int (iZ (b))] (wdC ad cI cZ cL J rd pr G K tl) "java/lang/IndexOutOfBoundsException" := by
  refine z_ofX (by decide) (Nat.le_of_ble_eq_true rfl) ?_
  intro p e s m below meth c ls Z htab hP hK hT hSt hl
  obtain ⟨hx, hb, hr, hml, hown, hts, hE, hlocks⟩ := id Z
  have hl : lv_has ls 3 [(0, .ref (ad 0)), (1, .int (iZ ((pp : Nat) : Int))), (2, .int (iZ (b)))] := hl
  obtain ⟨hn32, hk2, hpr, hct⟩ := id hI
  refine lv_aload_n hx hb d_D_pair_0 rfl (lv_at hl 0 rfl) ?_
  refine lv_iload_n hx hb d_D_pair_1 rfl (lv_at hl 1 rfl) ?_
  refine z_callVR (As := [.int (iZ ((pp : Nat) : Int))]) (rest := []) zTB Z (k_D_needPair (a := ((pp : Nat) : Int)) (by omega)) ⟨ml_D_83, im_D_needPair, se_D_needPair, ini_D, co_D_needPair⟩ zd_D_needPair ⟨Nat.le_of_ble_eq_true rfl, Nat.le_of_ble_eq_true rfl⟩ hP hK (ci := 0) (q0 := 0) rfl rfl rfl hl.1 rfl (Nat.le_of_ble_eq_true rfl) d_D_pair_2 ⟨Nat.zero_le _, Nat.zero_le _⟩ ?_
  refine W.eq (g2 := F0 m 5 ls []) rfl ?_
  refine lv_iload_n hx hb d_D_pair_5 rfl (lv_at hl 2 rfl) ?_
  refine lv_iconst (v := iZ ((3 : Nat) : Int)) hx hb d_D_pair_6 (by decide) ?_
  refine z_xS (As := [.int (iZ (b)), .int (iZ ((3 : Nat) : Int))]) (rest := []) Z (x_D_needIndex hl0 (a := b) (b := ((3 : Nat) : Int)) (by omega)) ⟨ml_D_86, sm_D_needIndex, ini_D, co_D_needIndex⟩ zd_D_needIndex ⟨Nat.le_of_ble_eq_true rfl, Nat.le_of_ble_eq_true rfl⟩ hP hK hT hSt hl.1 rfl (Nat.le_of_ble_eq_true rfl) d_D_pair_7 ⟨Nat.le_of_ble_eq_true rfl, Nat.le_of_ble_eq_true rfl⟩ (fun q9 ce9 H9 hz9 hk9 hc9 hv9 hcl9 => ?_)
  exact z_xout Z htab hz9 hk9 hc9 hv9 hcl9

set_option maxHeartbeats 4000000 in
set_option maxRecDepth 100000 in
theorem x_D_difference1 {l : Launch} {D : va_G} (hl0 : l.stackTraces = false) {ad : Nat → Nat} {cI cZ cL : ClassId} {J : SJ} {rd : Nat → Int} {pr : Nat → Nat} {G : SH} {K : SK} {tl : va_W} (hI : JI J) {a b : Int} (h : z32 a ∧ (a < 0 ∨ ((jk J : Nat) : Int) ≤ a)) : zMt l D (tysW cI cZ cL) y_D_difference w_D_difference 9 142 [.ref (ad 0), .int (iZ (a)), .int (iZ (b))] (wdC ad cI cZ cL J rd pr G K tl) "java/lang/IndexOutOfBoundsException" := by
  refine z_ofX (by decide) (Nat.le_of_ble_eq_true rfl) ?_
  intro p e s m below meth c ls Z htab hP hK hT hSt hl
  obtain ⟨hx, hb, hr, hml, hown, hts, hE, hlocks⟩ := id Z
  have hl : lv_has ls 3 [(0, .ref (ad 0)), (1, .int (iZ (a))), (2, .int (iZ (b)))] := hl
  obtain ⟨hn32, hk2, hpr, hct⟩ := id hI
  refine lv_aload_n hx hb d_D_difference_0 rfl (lv_at hl 0 rfl) ?_
  refine lv_iload_n hx hb d_D_difference_1 rfl (lv_at hl 1 rfl) ?_
  refine z_xV (As := [.int (iZ (a))]) (rest := []) Z (x_D_needPair hl0 (a := a) (by omega)) ⟨ml_D_83, im_D_needPair, se_D_needPair, ini_D, co_D_needPair⟩ zd_D_needPair ⟨Nat.le_of_ble_eq_true rfl, Nat.le_of_ble_eq_true rfl⟩ hP hK hT hSt (ci := 0) (q0 := 0) rfl rfl rfl hl.1 rfl (Nat.le_of_ble_eq_true rfl) d_D_difference_2 ⟨Nat.le_of_ble_eq_true rfl, Nat.le_of_ble_eq_true rfl⟩ (fun q9 ce9 H9 hz9 hk9 hc9 hv9 hcl9 => ?_)
  exact z_xout Z htab hz9 hk9 hc9 hv9 hcl9

set_option maxHeartbeats 4000000 in
set_option maxRecDepth 100000 in
theorem x_D_difference2 {l : Launch} {D : va_G} (hl0 : l.stackTraces = false) {ad : Nat → Nat} {cI cZ cL : ClassId} {J : SJ} {rd : Nat → Int} {pr : Nat → Nat} {G : SH} {K : SK} {tl : va_W} (hI : JI J) {pp : Nat} {b : Int} (hp : pp < jk J) (h : z32 b ∧ (b < 0 ∨ 3 ≤ b)) : zMt l D (tysW cI cZ cL) y_D_difference w_D_difference 9 142 [.ref (ad 0), .int (iZ ((pp : Nat) : Int)), .int (iZ (b))] (wdC ad cI cZ cL J rd pr G K tl) "java/lang/IndexOutOfBoundsException" := by
  refine z_ofX (by decide) (Nat.le_of_ble_eq_true rfl) ?_
  intro p e s m below meth c ls Z htab hP hK hT hSt hl
  obtain ⟨hx, hb, hr, hml, hown, hts, hE, hlocks⟩ := id Z
  have hl : lv_has ls 3 [(0, .ref (ad 0)), (1, .int (iZ ((pp : Nat) : Int))), (2, .int (iZ (b)))] := hl
  obtain ⟨hn32, hk2, hpr, hct⟩ := id hI
  refine lv_aload_n hx hb d_D_difference_0 rfl (lv_at hl 0 rfl) ?_
  refine lv_iload_n hx hb d_D_difference_1 rfl (lv_at hl 1 rfl) ?_
  refine z_callVR (As := [.int (iZ ((pp : Nat) : Int))]) (rest := []) zTB Z (k_D_needPair (a := ((pp : Nat) : Int)) (by omega)) ⟨ml_D_83, im_D_needPair, se_D_needPair, ini_D, co_D_needPair⟩ zd_D_needPair ⟨Nat.le_of_ble_eq_true rfl, Nat.le_of_ble_eq_true rfl⟩ hP hK (ci := 0) (q0 := 0) rfl rfl rfl hl.1 rfl (Nat.le_of_ble_eq_true rfl) d_D_difference_2 ⟨Nat.zero_le _, Nat.zero_le _⟩ ?_
  refine W.eq (g2 := F0 m 5 ls []) rfl ?_
  refine lv_iload_n hx hb d_D_difference_5 rfl (lv_at hl 2 rfl) ?_
  refine z_xS (As := [.int (iZ (b))]) (rest := []) Z (x_D_needKind hl0 (a := b) (by omega)) ⟨ml_D_64, sm_D_needKind, ini_D, co_D_needKind⟩ zd_D_needKind ⟨Nat.le_of_ble_eq_true rfl, Nat.le_of_ble_eq_true rfl⟩ hP hK hT hSt hl.1 rfl (Nat.le_of_ble_eq_true rfl) d_D_difference_6 ⟨Nat.le_of_ble_eq_true rfl, Nat.le_of_ble_eq_true rfl⟩ (fun q9 ce9 H9 hz9 hk9 hc9 hv9 hcl9 => ?_)
  exact z_xout Z htab hz9 hk9 hc9 hv9 hcl9

set_option maxHeartbeats 4000000 in
set_option maxRecDepth 100000 in
theorem x_D_rank1 {l : Launch} {D : va_G} (hl0 : l.stackTraces = false) {ad : Nat → Nat} {cI cZ cL : ClassId} {J : SJ} {rd : Nat → Int} {pr : Nat → Nat} {G : SH} {K : SK} {tl : va_W} (hI : JI J) {a b : Int} (h : z32 a ∧ (a < 0 ∨ ((jk J : Nat) : Int) ≤ a)) : zMt l D (tysW cI cZ cL) y_D_rank w_D_rank 9 142 [.ref (ad 0), .int (iZ (a)), .int (iZ (b))] (wdC ad cI cZ cL J rd pr G K tl) "java/lang/IndexOutOfBoundsException" := by
  refine z_ofX (by decide) (Nat.le_of_ble_eq_true rfl) ?_
  intro p e s m below meth c ls Z htab hP hK hT hSt hl
  obtain ⟨hx, hb, hr, hml, hown, hts, hE, hlocks⟩ := id Z
  have hl : lv_has ls 3 [(0, .ref (ad 0)), (1, .int (iZ (a))), (2, .int (iZ (b)))] := hl
  obtain ⟨hn32, hk2, hpr, hct⟩ := id hI
  refine lv_aload_n hx hb d_D_rank_0 rfl (lv_at hl 0 rfl) ?_
  refine lv_iload_n hx hb d_D_rank_1 rfl (lv_at hl 1 rfl) ?_
  refine z_xV (As := [.int (iZ (a))]) (rest := []) Z (x_D_needPair hl0 (a := a) (by omega)) ⟨ml_D_83, im_D_needPair, se_D_needPair, ini_D, co_D_needPair⟩ zd_D_needPair ⟨Nat.le_of_ble_eq_true rfl, Nat.le_of_ble_eq_true rfl⟩ hP hK hT hSt (ci := 0) (q0 := 0) rfl rfl rfl hl.1 rfl (Nat.le_of_ble_eq_true rfl) d_D_rank_2 ⟨Nat.le_of_ble_eq_true rfl, Nat.le_of_ble_eq_true rfl⟩ (fun q9 ce9 H9 hz9 hk9 hc9 hv9 hcl9 => ?_)
  exact z_xout Z htab hz9 hk9 hc9 hv9 hcl9

set_option maxHeartbeats 4000000 in
set_option maxRecDepth 100000 in
theorem x_D_rank2 {l : Launch} {D : va_G} (hl0 : l.stackTraces = false) {ad : Nat → Nat} {cI cZ cL : ClassId} {J : SJ} {rd : Nat → Int} {pr : Nat → Nat} {G : SH} {K : SK} {tl : va_W} (hI : JI J) {pp : Nat} {b : Int} (hp : pp < jk J) (h : z32 b ∧ (b < 0 ∨ 3 ≤ b)) : zMt l D (tysW cI cZ cL) y_D_rank w_D_rank 9 142 [.ref (ad 0), .int (iZ ((pp : Nat) : Int)), .int (iZ (b))] (wdC ad cI cZ cL J rd pr G K tl) "java/lang/IndexOutOfBoundsException" := by
  refine z_ofX (by decide) (Nat.le_of_ble_eq_true rfl) ?_
  intro p e s m below meth c ls Z htab hP hK hT hSt hl
  obtain ⟨hx, hb, hr, hml, hown, hts, hE, hlocks⟩ := id Z
  have hl : lv_has ls 3 [(0, .ref (ad 0)), (1, .int (iZ ((pp : Nat) : Int))), (2, .int (iZ (b)))] := hl
  obtain ⟨hn32, hk2, hpr, hct⟩ := id hI
  refine lv_aload_n hx hb d_D_rank_0 rfl (lv_at hl 0 rfl) ?_
  refine lv_iload_n hx hb d_D_rank_1 rfl (lv_at hl 1 rfl) ?_
  refine z_callVR (As := [.int (iZ ((pp : Nat) : Int))]) (rest := []) zTB Z (k_D_needPair (a := ((pp : Nat) : Int)) (by omega)) ⟨ml_D_83, im_D_needPair, se_D_needPair, ini_D, co_D_needPair⟩ zd_D_needPair ⟨Nat.le_of_ble_eq_true rfl, Nat.le_of_ble_eq_true rfl⟩ hP hK (ci := 0) (q0 := 0) rfl rfl rfl hl.1 rfl (Nat.le_of_ble_eq_true rfl) d_D_rank_2 ⟨Nat.zero_le _, Nat.zero_le _⟩ ?_
  refine W.eq (g2 := F0 m 5 ls []) rfl ?_
  refine lv_iload_n hx hb d_D_rank_5 rfl (lv_at hl 2 rfl) ?_
  refine z_xS (As := [.int (iZ (b))]) (rest := []) Z (x_D_needKind hl0 (a := b) (by omega)) ⟨ml_D_64, sm_D_needKind, ini_D, co_D_needKind⟩ zd_D_needKind ⟨Nat.le_of_ble_eq_true rfl, Nat.le_of_ble_eq_true rfl⟩ hP hK hT hSt hl.1 rfl (Nat.le_of_ble_eq_true rfl) d_D_rank_6 ⟨Nat.le_of_ble_eq_true rfl, Nat.le_of_ble_eq_true rfl⟩ (fun q9 ce9 H9 hz9 hk9 hc9 hv9 hcl9 => ?_)
  exact z_xout Z htab hz9 hk9 hc9 hv9 hcl9

set_option maxHeartbeats 4000000 in
set_option maxRecDepth 100000 in
theorem x_D_kept1 {l : Launch} {D : va_G} (hl0 : l.stackTraces = false) {ad : Nat → Nat} {cI cZ cL : ClassId} {J : SJ} {rd : Nat → Int} {pr : Nat → Nat} {G : SH} {K : SK} {tl : va_W} (hI : JI J) {a : Int} (h : z32 a ∧ (a < 0 ∨ 3 ≤ a)) : zMt l D (tysW cI cZ cL) y_D_kept w_D_kept 9 141 [.ref (ad 0), .int (iZ (a))] (wdC ad cI cZ cL J rd pr G K tl) "java/lang/IndexOutOfBoundsException" := by
  refine z_ofX (by decide) (Nat.le_of_ble_eq_true rfl) ?_
  intro p e s m below meth c ls Z htab hP hK hT hSt hl
  obtain ⟨hx, hb, hr, hml, hown, hts, hE, hlocks⟩ := id Z
  have hl : lv_has ls 2 [(0, .ref (ad 0)), (1, .int (iZ (a)))] := hl
  obtain ⟨hn32, hk2, hpr, hct⟩ := id hI
  refine lv_iload_n hx hb d_D_kept_0 rfl (lv_at hl 1 rfl) ?_
  refine z_xS (As := [.int (iZ (a))]) (rest := []) Z (x_D_needKind hl0 (a := a) (by omega)) ⟨ml_D_64, sm_D_needKind, ini_D, co_D_needKind⟩ zd_D_needKind ⟨Nat.le_of_ble_eq_true rfl, Nat.le_of_ble_eq_true rfl⟩ hP hK hT hSt hl.1 rfl (Nat.le_of_ble_eq_true rfl) d_D_kept_1 ⟨Nat.le_of_ble_eq_true rfl, Nat.le_of_ble_eq_true rfl⟩ (fun q9 ce9 H9 hz9 hk9 hc9 hv9 hcl9 => ?_)
  exact z_xout Z htab hz9 hk9 hc9 hv9 hcl9

set_option maxHeartbeats 4000000 in
set_option maxRecDepth 100000 in
theorem x_D_sum1 {l : Launch} {D : va_G} (hl0 : l.stackTraces = false) {ad : Nat → Nat} {cI cZ cL : ClassId} {J : SJ} {rd : Nat → Int} {pr : Nat → Nat} {G : SH} {K : SK} {tl : va_W} (hI : JI J) {a : Int} (h : z32 a ∧ (a < 0 ∨ 3 ≤ a)) : zMt l D (tysW cI cZ cL) y_D_sum w_D_sum 9 141 [.ref (ad 0), .int (iZ (a))] (wdC ad cI cZ cL J rd pr G K tl) "java/lang/IndexOutOfBoundsException" := by
  refine z_ofX (by decide) (Nat.le_of_ble_eq_true rfl) ?_
  intro p e s m below meth c ls Z htab hP hK hT hSt hl
  obtain ⟨hx, hb, hr, hml, hown, hts, hE, hlocks⟩ := id Z
  have hl : lv_has ls 2 [(0, .ref (ad 0)), (1, .int (iZ (a)))] := hl
  obtain ⟨hn32, hk2, hpr, hct⟩ := id hI
  refine lv_iload_n hx hb d_D_sum_0 rfl (lv_at hl 1 rfl) ?_
  refine z_xS (As := [.int (iZ (a))]) (rest := []) Z (x_D_needKind hl0 (a := a) (by omega)) ⟨ml_D_64, sm_D_needKind, ini_D, co_D_needKind⟩ zd_D_needKind ⟨Nat.le_of_ble_eq_true rfl, Nat.le_of_ble_eq_true rfl⟩ hP hK hT hSt hl.1 rfl (Nat.le_of_ble_eq_true rfl) d_D_sum_1 ⟨Nat.le_of_ble_eq_true rfl, Nat.le_of_ble_eq_true rfl⟩ (fun q9 ce9 H9 hz9 hk9 hc9 hv9 hcl9 => ?_)
  exact z_xout Z htab hz9 hk9 hc9 hv9 hcl9

set_option maxHeartbeats 4000000 in
set_option maxRecDepth 100000 in
theorem x_D_odds1 {l : Launch} {D : va_G} (hl0 : l.stackTraces = false) {ad : Nat → Nat} {cI cZ cL : ClassId} {J : SJ} {rd : Nat → Int} {pr : Nat → Nat} {G : SH} {K : SK} {tl : va_W} (hI : JI J) {a b : Int} (h : z32 a ∧ (a < 0 ∨ 3 ≤ a)) : zMt l D (tysW cI cZ cL) y_D_odds w_D_odds 9 141 [.ref (ad 0), .int (iZ (a)), .int (iZ (b))] (wdC ad cI cZ cL J rd pr G K tl) "java/lang/IndexOutOfBoundsException" := by
  refine z_ofX (by decide) (Nat.le_of_ble_eq_true rfl) ?_
  intro p e s m below meth c ls Z htab hP hK hT hSt hl
  obtain ⟨hx, hb, hr, hml, hown, hts, hE, hlocks⟩ := id Z
  have hl : lv_has ls 5 [(0, .ref (ad 0)), (1, .int (iZ (a))), (2, .int (iZ (b)))] := hl
  obtain ⟨hn32, hk2, hpr, hct⟩ := id hI
  refine lv_iload_n hx hb d_D_odds_0 rfl (lv_at hl 1 rfl) ?_
  refine z_xS (As := [.int (iZ (a))]) (rest := []) Z (x_D_needKind hl0 (a := a) (by omega)) ⟨ml_D_64, sm_D_needKind, ini_D, co_D_needKind⟩ zd_D_needKind ⟨Nat.le_of_ble_eq_true rfl, Nat.le_of_ble_eq_true rfl⟩ hP hK hT hSt hl.1 rfl (Nat.le_of_ble_eq_true rfl) d_D_odds_1 ⟨Nat.le_of_ble_eq_true rfl, Nat.le_of_ble_eq_true rfl⟩ (fun q9 ce9 H9 hz9 hk9 hc9 hv9 hcl9 => ?_)
  exact z_xout Z htab hz9 hk9 hc9 hv9 hcl9

set_option maxHeartbeats 4000000 in
set_option maxRecDepth 100000 in
theorem x_D_odds2 {l : Launch} {D : va_G} (hl0 : l.stackTraces = false) {ad : Nat → Nat} {cI cZ cL : ClassId} {J : SJ} {rd : Nat → Int} {pr : Nat → Nat} {G : SH} {K : SK} {tl : va_W} (hI : JI J) {kd : Nat} {b : Int} (hkd : kd < 3) (h : z32 b ∧ (b < 0 ∨ 2 ≤ b)) : zMt l D (tysW cI cZ cL) y_D_odds w_D_odds 9 141 [.ref (ad 0), .int (iZ ((kd : Nat) : Int)), .int (iZ (b))] (wdC ad cI cZ cL J rd pr G K tl) "java/lang/IndexOutOfBoundsException" := by
  refine z_ofX (by decide) (Nat.le_of_ble_eq_true rfl) ?_
  intro p e s m below meth c ls Z htab hP hK hT hSt hl
  obtain ⟨hx, hb, hr, hml, hown, hts, hE, hlocks⟩ := id Z
  have hl : lv_has ls 5 [(0, .ref (ad 0)), (1, .int (iZ ((kd : Nat) : Int))), (2, .int (iZ (b)))] := hl
  obtain ⟨hn32, hk2, hpr, hct⟩ := id hI
  refine lv_iload_n hx hb d_D_odds_0 rfl (lv_at hl 1 rfl) ?_
  refine z_callSR (As := [.int (iZ ((kd : Nat) : Int))]) (rest := []) zTB Z (k_D_needKind (a := ((kd : Nat) : Int)) (by omega)) ⟨ml_D_64, sm_D_needKind, ini_D, co_D_needKind⟩ zd_D_needKind ⟨Nat.le_of_ble_eq_true rfl, Nat.le_of_ble_eq_true rfl⟩ hP hK hl.1 rfl (Nat.le_of_ble_eq_true rfl) d_D_odds_1 ⟨Nat.zero_le _, Nat.zero_le _⟩ ?_
  refine W.eq (g2 := F0 m 4 ls []) rfl ?_
  refine lv_iload_n hx hb d_D_odds_4 rfl (lv_at hl 2 rfl) ?_
  refine z_xS (As := [.int (iZ (b))]) (rest := []) Z (x_D_needPart hl0 (a := b) (by omega)) ⟨ml_D_112, sm_D_needPart, ini_D, co_D_needPart⟩ zd_D_needPart ⟨Nat.le_of_ble_eq_true rfl, Nat.le_of_ble_eq_true rfl⟩ hP hK hT hSt hl.1 rfl (Nat.le_of_ble_eq_true rfl) d_D_odds_5 ⟨Nat.le_of_ble_eq_true rfl, Nat.le_of_ble_eq_true rfl⟩ (fun q9 ce9 H9 hz9 hk9 hc9 hv9 hcl9 => ?_)
  exact z_xout Z htab hz9 hk9 hc9 hv9 hcl9

set_option maxHeartbeats 4000000 in
set_option maxRecDepth 100000 in
theorem x_D_rankOdds1 {l : Launch} {D : va_G} (hl0 : l.stackTraces = false) {ad : Nat → Nat} {cI cZ cL : ClassId} {J : SJ} {rd : Nat → Int} {pr : Nat → Nat} {G : SH} {K : SK} {tl : va_W} (hI : JI J) {a b : Int} (h : z32 a ∧ (a < 0 ∨ 3 ≤ a)) : zMt l D (tysW cI cZ cL) y_D_rankOdds w_D_rankOdds 9 141 [.ref (ad 0), .int (iZ (a)), .int (iZ (b))] (wdC ad cI cZ cL J rd pr G K tl) "java/lang/IndexOutOfBoundsException" := by
  refine z_ofX (by decide) (Nat.le_of_ble_eq_true rfl) ?_
  intro p e s m below meth c ls Z htab hP hK hT hSt hl
  obtain ⟨hx, hb, hr, hml, hown, hts, hE, hlocks⟩ := id Z
  have hl : lv_has ls 5 [(0, .ref (ad 0)), (1, .int (iZ (a))), (2, .int (iZ (b)))] := hl
  obtain ⟨hn32, hk2, hpr, hct⟩ := id hI
  refine lv_iload_n hx hb d_D_rankOdds_0 rfl (lv_at hl 1 rfl) ?_
  refine z_xS (As := [.int (iZ (a))]) (rest := []) Z (x_D_needKind hl0 (a := a) (by omega)) ⟨ml_D_64, sm_D_needKind, ini_D, co_D_needKind⟩ zd_D_needKind ⟨Nat.le_of_ble_eq_true rfl, Nat.le_of_ble_eq_true rfl⟩ hP hK hT hSt hl.1 rfl (Nat.le_of_ble_eq_true rfl) d_D_rankOdds_1 ⟨Nat.le_of_ble_eq_true rfl, Nat.le_of_ble_eq_true rfl⟩ (fun q9 ce9 H9 hz9 hk9 hc9 hv9 hcl9 => ?_)
  exact z_xout Z htab hz9 hk9 hc9 hv9 hcl9

set_option maxHeartbeats 4000000 in
set_option maxRecDepth 100000 in
theorem x_D_rankOdds2 {l : Launch} {D : va_G} (hl0 : l.stackTraces = false) {ad : Nat → Nat} {cI cZ cL : ClassId} {J : SJ} {rd : Nat → Int} {pr : Nat → Nat} {G : SH} {K : SK} {tl : va_W} (hI : JI J) {kd : Nat} {b : Int} (hkd : kd < 3) (h : z32 b ∧ (b < 0 ∨ 2 ≤ b)) : zMt l D (tysW cI cZ cL) y_D_rankOdds w_D_rankOdds 9 141 [.ref (ad 0), .int (iZ ((kd : Nat) : Int)), .int (iZ (b))] (wdC ad cI cZ cL J rd pr G K tl) "java/lang/IndexOutOfBoundsException" := by
  refine z_ofX (by decide) (Nat.le_of_ble_eq_true rfl) ?_
  intro p e s m below meth c ls Z htab hP hK hT hSt hl
  obtain ⟨hx, hb, hr, hml, hown, hts, hE, hlocks⟩ := id Z
  have hl : lv_has ls 5 [(0, .ref (ad 0)), (1, .int (iZ ((kd : Nat) : Int))), (2, .int (iZ (b)))] := hl
  obtain ⟨hn32, hk2, hpr, hct⟩ := id hI
  refine lv_iload_n hx hb d_D_rankOdds_0 rfl (lv_at hl 1 rfl) ?_
  refine z_callSR (As := [.int (iZ ((kd : Nat) : Int))]) (rest := []) zTB Z (k_D_needKind (a := ((kd : Nat) : Int)) (by omega)) ⟨ml_D_64, sm_D_needKind, ini_D, co_D_needKind⟩ zd_D_needKind ⟨Nat.le_of_ble_eq_true rfl, Nat.le_of_ble_eq_true rfl⟩ hP hK hl.1 rfl (Nat.le_of_ble_eq_true rfl) d_D_rankOdds_1 ⟨Nat.zero_le _, Nat.zero_le _⟩ ?_
  refine W.eq (g2 := F0 m 4 ls []) rfl ?_
  refine lv_iload_n hx hb d_D_rankOdds_4 rfl (lv_at hl 2 rfl) ?_
  refine z_xS (As := [.int (iZ (b))]) (rest := []) Z (x_D_needPart hl0 (a := b) (by omega)) ⟨ml_D_112, sm_D_needPart, ini_D, co_D_needPart⟩ zd_D_needPart ⟨Nat.le_of_ble_eq_true rfl, Nat.le_of_ble_eq_true rfl⟩ hP hK hT hSt hl.1 rfl (Nat.le_of_ble_eq_true rfl) d_D_rankOdds_5 ⟨Nat.le_of_ble_eq_true rfl, Nat.le_of_ble_eq_true rfl⟩ (fun q9 ce9 H9 hz9 hk9 hc9 hv9 hcl9 => ?_)
  exact z_xout Z htab hz9 hk9 hc9 hv9 hcl9

set_option maxHeartbeats 4000000 in
set_option maxRecDepth 100000 in
theorem x_D_joined1 {l : Launch} {D : va_G} (hl0 : l.stackTraces = false) {ad : Nat → Nat} {cI cZ cL : ClassId} {J : SJ} {rd : Nat → Int} {pr : Nat → Nat} {G : SH} {K : SK} {tl : va_W} (hI : JI J) {a b : Int} (h : z32 a ∧ (a < 0 ∨ 3 ≤ a)) : zMt l D (tysW cI cZ cL) y_D_joined w_D_joined 9 141 [.ref (ad 0), .int (iZ (a)), .int (iZ (b))] (wdC ad cI cZ cL J rd pr G K tl) "java/lang/IndexOutOfBoundsException" := by
  refine z_ofX (by decide) (Nat.le_of_ble_eq_true rfl) ?_
  intro p e s m below meth c ls Z htab hP hK hT hSt hl
  obtain ⟨hx, hb, hr, hml, hown, hts, hE, hlocks⟩ := id Z
  have hl : lv_has ls 3 [(0, .ref (ad 0)), (1, .int (iZ (a))), (2, .int (iZ (b)))] := hl
  obtain ⟨hn32, hk2, hpr, hct⟩ := id hI
  refine lv_iload_n hx hb d_D_joined_0 rfl (lv_at hl 1 rfl) ?_
  refine z_xS (As := [.int (iZ (a))]) (rest := []) Z (x_D_needKind hl0 (a := a) (by omega)) ⟨ml_D_64, sm_D_needKind, ini_D, co_D_needKind⟩ zd_D_needKind ⟨Nat.le_of_ble_eq_true rfl, Nat.le_of_ble_eq_true rfl⟩ hP hK hT hSt hl.1 rfl (Nat.le_of_ble_eq_true rfl) d_D_joined_1 ⟨Nat.le_of_ble_eq_true rfl, Nat.le_of_ble_eq_true rfl⟩ (fun q9 ce9 H9 hz9 hk9 hc9 hv9 hcl9 => ?_)
  exact z_xout Z htab hz9 hk9 hc9 hv9 hcl9

set_option maxHeartbeats 4000000 in
set_option maxRecDepth 100000 in
theorem x_D_joined2 {l : Launch} {D : va_G} (hl0 : l.stackTraces = false) {ad : Nat → Nat} {cI cZ cL : ClassId} {J : SJ} {rd : Nat → Int} {pr : Nat → Nat} {G : SH} {K : SK} {tl : va_W} (hI : JI J) {kd : Nat} {b : Int} (hkd : kd < 3) (h : z32 b ∧ (b < 0 ∨ 2 ≤ b)) : zMt l D (tysW cI cZ cL) y_D_joined w_D_joined 9 141 [.ref (ad 0), .int (iZ ((kd : Nat) : Int)), .int (iZ (b))] (wdC ad cI cZ cL J rd pr G K tl) "java/lang/IndexOutOfBoundsException" := by
  refine z_ofX (by decide) (Nat.le_of_ble_eq_true rfl) ?_
  intro p e s m below meth c ls Z htab hP hK hT hSt hl
  obtain ⟨hx, hb, hr, hml, hown, hts, hE, hlocks⟩ := id Z
  have hl : lv_has ls 3 [(0, .ref (ad 0)), (1, .int (iZ ((kd : Nat) : Int))), (2, .int (iZ (b)))] := hl
  obtain ⟨hn32, hk2, hpr, hct⟩ := id hI
  refine lv_iload_n hx hb d_D_joined_0 rfl (lv_at hl 1 rfl) ?_
  refine z_callSR (As := [.int (iZ ((kd : Nat) : Int))]) (rest := []) zTB Z (k_D_needKind (a := ((kd : Nat) : Int)) (by omega)) ⟨ml_D_64, sm_D_needKind, ini_D, co_D_needKind⟩ zd_D_needKind ⟨Nat.le_of_ble_eq_true rfl, Nat.le_of_ble_eq_true rfl⟩ hP hK hl.1 rfl (Nat.le_of_ble_eq_true rfl) d_D_joined_1 ⟨Nat.zero_le _, Nat.zero_le _⟩ ?_
  refine W.eq (g2 := F0 m 4 ls []) rfl ?_
  refine lv_iload_n hx hb d_D_joined_4 rfl (lv_at hl 2 rfl) ?_
  refine z_xS (As := [.int (iZ (b))]) (rest := []) Z (x_D_needPart hl0 (a := b) (by omega)) ⟨ml_D_112, sm_D_needPart, ini_D, co_D_needPart⟩ zd_D_needPart ⟨Nat.le_of_ble_eq_true rfl, Nat.le_of_ble_eq_true rfl⟩ hP hK hT hSt hl.1 rfl (Nat.le_of_ble_eq_true rfl) d_D_joined_5 ⟨Nat.le_of_ble_eq_true rfl, Nat.le_of_ble_eq_true rfl⟩ (fun q9 ce9 H9 hz9 hk9 hc9 hv9 hcl9 => ?_)
  exact z_xout Z htab hz9 hk9 hc9 hv9 hcl9

set_option maxHeartbeats 4000000 in
set_option maxRecDepth 100000 in
theorem x_D_stopped1 {l : Launch} {D : va_G} (hl0 : l.stackTraces = false) {ad : Nat → Nat} {cI cZ cL : ClassId} {J : SJ} {rd : Nat → Int} {pr : Nat → Nat} {G : SH} {K : SK} {tl : va_W} (hI : JI J) {a b c9 : Int} (h : z32 a ∧ (a < 0 ∨ 3 ≤ a)) : zMt l D (tysW cI cZ cL) y_D_stopped w_D_stopped 9 143 [.ref (ad 0), .int (iZ (a)), .int (iZ (b)), .int (iZ (c9))] (wdC ad cI cZ cL J rd pr G K tl) "java/lang/IndexOutOfBoundsException" := by
  refine z_ofX (by decide) (Nat.le_of_ble_eq_true rfl) ?_
  intro p e s m below meth c ls Z htab hP hK hT hSt hl
  obtain ⟨hx, hb, hr, hml, hown, hts, hE, hlocks⟩ := id Z
  have hl : lv_has ls 6 [(0, .ref (ad 0)), (1, .int (iZ (a))), (2, .int (iZ (b))), (3, .int (iZ (c9)))] := hl
  obtain ⟨hn32, hk2, hpr, hct⟩ := id hI
  refine lv_iload_n hx hb d_D_stopped_0 rfl (lv_at hl 1 rfl) ?_
  refine z_xS (As := [.int (iZ (a))]) (rest := []) Z (x_D_needKind hl0 (a := a) (by omega)) ⟨ml_D_64, sm_D_needKind, ini_D, co_D_needKind⟩ zd_D_needKind ⟨Nat.le_of_ble_eq_true rfl, Nat.le_of_ble_eq_true rfl⟩ hP hK hT hSt hl.1 rfl (Nat.le_of_ble_eq_true rfl) d_D_stopped_1 ⟨Nat.le_of_ble_eq_true rfl, Nat.le_of_ble_eq_true rfl⟩ (fun q9 ce9 H9 hz9 hk9 hc9 hv9 hcl9 => ?_)
  exact z_xout Z htab hz9 hk9 hc9 hv9 hcl9

set_option maxHeartbeats 4000000 in
set_option maxRecDepth 100000 in
theorem x_D_stopped2 {l : Launch} {D : va_G} (hl0 : l.stackTraces = false) {ad : Nat → Nat} {cI cZ cL : ClassId} {J : SJ} {rd : Nat → Int} {pr : Nat → Nat} {G : SH} {K : SK} {tl : va_W} (hI : JI J) {kd : Nat} {b c9 : Int} (hkd : kd < 3) (h : z32 b ∧ (b < 1 ∨ 16 < b)) : zMt l D (tysW cI cZ cL) y_D_stopped w_D_stopped 9 143 [.ref (ad 0), .int (iZ ((kd : Nat) : Int)), .int (iZ (b)), .int (iZ (c9))] (wdC ad cI cZ cL J rd pr G K tl) "java/lang/IllegalArgumentException" := by
  refine z_ofX (by decide) (Nat.le_of_ble_eq_true rfl) ?_
  intro p e s m below meth c ls Z htab hP hK hT hSt hl
  obtain ⟨hx, hb, hr, hml, hown, hts, hE, hlocks⟩ := id Z
  have hl : lv_has ls 6 [(0, .ref (ad 0)), (1, .int (iZ ((kd : Nat) : Int))), (2, .int (iZ (b))), (3, .int (iZ (c9)))] := hl
  obtain ⟨hn32, hk2, hpr, hct⟩ := id hI
  refine lv_iload_n hx hb d_D_stopped_0 rfl (lv_at hl 1 rfl) ?_
  refine z_callSR (As := [.int (iZ ((kd : Nat) : Int))]) (rest := []) zTB Z (k_D_needKind (a := ((kd : Nat) : Int)) (by omega)) ⟨ml_D_64, sm_D_needKind, ini_D, co_D_needKind⟩ zd_D_needKind ⟨Nat.le_of_ble_eq_true rfl, Nat.le_of_ble_eq_true rfl⟩ hP hK hl.1 rfl (Nat.le_of_ble_eq_true rfl) d_D_stopped_1 ⟨Nat.zero_le _, Nat.zero_le _⟩ ?_
  refine W.eq (g2 := F0 m 4 ls []) rfl ?_
  refine lv_iload_n hx hb d_D_stopped_4 rfl (lv_at hl 2 rfl) ?_
  refine lv_iload_n hx hb d_D_stopped_5 rfl (lv_at hl 3 rfl) ?_
  refine z_xS (As := [.int (iZ (b)), .int (iZ (c9))]) (rest := []) Z (x_D_needBounds hl0 (a := b) (b := c9) (by omega)) ⟨ml_D_145, sm_D_needBounds, ini_D, co_D_needBounds⟩ zd_D_needBounds ⟨Nat.le_of_ble_eq_true rfl, Nat.le_of_ble_eq_true rfl⟩ hP hK hT hSt hl.1 rfl (Nat.le_of_ble_eq_true rfl) d_D_stopped_6 ⟨Nat.le_of_ble_eq_true rfl, Nat.le_of_ble_eq_true rfl⟩ (fun q9 ce9 H9 hz9 hk9 hc9 hv9 hcl9 => ?_)
  exact z_xout Z htab hz9 hk9 hc9 hv9 hcl9

set_option maxHeartbeats 4000000 in
set_option maxRecDepth 100000 in
theorem x_D_stopped3 {l : Launch} {D : va_G} (hl0 : l.stackTraces = false) {ad : Nat → Nat} {cI cZ cL : ClassId} {J : SJ} {rd : Nat → Int} {pr : Nat → Nat} {G : SH} {K : SK} {tl : va_W} (hI : JI J) {kd : Nat} {b c9 : Int} (hkd : kd < 3) (h : 1 ≤ b ∧ b ≤ 16 ∧ z32 c9 ∧ (c9 < 1 ∨ 16 < c9)) : zMt l D (tysW cI cZ cL) y_D_stopped w_D_stopped 9 143 [.ref (ad 0), .int (iZ ((kd : Nat) : Int)), .int (iZ (b)), .int (iZ (c9))] (wdC ad cI cZ cL J rd pr G K tl) "java/lang/IllegalArgumentException" := by
  refine z_ofX (by decide) (Nat.le_of_ble_eq_true rfl) ?_
  intro p e s m below meth c ls Z htab hP hK hT hSt hl
  obtain ⟨hx, hb, hr, hml, hown, hts, hE, hlocks⟩ := id Z
  have hl : lv_has ls 6 [(0, .ref (ad 0)), (1, .int (iZ ((kd : Nat) : Int))), (2, .int (iZ (b))), (3, .int (iZ (c9)))] := hl
  obtain ⟨hn32, hk2, hpr, hct⟩ := id hI
  refine lv_iload_n hx hb d_D_stopped_0 rfl (lv_at hl 1 rfl) ?_
  refine z_callSR (As := [.int (iZ ((kd : Nat) : Int))]) (rest := []) zTB Z (k_D_needKind (a := ((kd : Nat) : Int)) (by omega)) ⟨ml_D_64, sm_D_needKind, ini_D, co_D_needKind⟩ zd_D_needKind ⟨Nat.le_of_ble_eq_true rfl, Nat.le_of_ble_eq_true rfl⟩ hP hK hl.1 rfl (Nat.le_of_ble_eq_true rfl) d_D_stopped_1 ⟨Nat.zero_le _, Nat.zero_le _⟩ ?_
  refine W.eq (g2 := F0 m 4 ls []) rfl ?_
  refine lv_iload_n hx hb d_D_stopped_4 rfl (lv_at hl 2 rfl) ?_
  refine lv_iload_n hx hb d_D_stopped_5 rfl (lv_at hl 3 rfl) ?_
  refine z_xS (As := [.int (iZ (b)), .int (iZ (c9))]) (rest := []) Z (y_D_needBounds2 hl0 (a := b) (b := c9) (by omega)) ⟨ml_D_145, sm_D_needBounds, ini_D, co_D_needBounds⟩ zd_D_needBounds ⟨Nat.le_of_ble_eq_true rfl, Nat.le_of_ble_eq_true rfl⟩ hP hK hT hSt hl.1 rfl (Nat.le_of_ble_eq_true rfl) d_D_stopped_6 ⟨Nat.le_of_ble_eq_true rfl, Nat.le_of_ble_eq_true rfl⟩ (fun q9 ce9 H9 hz9 hk9 hc9 hv9 hcl9 => ?_)
  exact z_xout Z htab hz9 hk9 hc9 hv9 hcl9

set_option maxHeartbeats 4000000 in
set_option maxRecDepth 100000 in
theorem x_D_crossing1 {l : Launch} {D : va_G} (hl0 : l.stackTraces = false) {ad : Nat → Nat} {cI cZ cL : ClassId} {J : SJ} {rd : Nat → Int} {pr : Nat → Nat} {G : SH} {K : SK} {tl : va_W} (hI : JI J) {a b c9 d9 : Int} (h : z32 d9 ∧ (d9 < 0 ∨ 2 ≤ d9)) : zMt l D (tysW cI cZ cL) y_D_crossing w_D_crossing 9 143 [.ref (ad 0), .int (iZ (a)), .int (iZ (b)), .int (iZ (c9)), .int (iZ (d9))] (wdC ad cI cZ cL J rd pr G K tl) "java/lang/IndexOutOfBoundsException" := by
  refine z_ofX (by decide) (Nat.le_of_ble_eq_true rfl) ?_
  intro p e s m below meth c ls Z htab hP hK hT hSt hl
  obtain ⟨hx, hb, hr, hml, hown, hts, hE, hlocks⟩ := id Z
  have hl : lv_has ls 6 [(0, .ref (ad 0)), (1, .int (iZ (a))), (2, .int (iZ (b))), (3, .int (iZ (c9))), (4, .int (iZ (d9)))] := hl
  obtain ⟨hn32, hk2, hpr, hct⟩ := id hI
  refine lv_iload hx hb d_D_crossing_0 (lv_at hl 4 rfl) ?_
  refine z_xS (As := [.int (iZ (d9))]) (rest := []) Z (x_D_needPart hl0 (a := d9) (by omega)) ⟨ml_D_112, sm_D_needPart, ini_D, co_D_needPart⟩ zd_D_needPart ⟨Nat.le_of_ble_eq_true rfl, Nat.le_of_ble_eq_true rfl⟩ hP hK hT hSt hl.1 rfl (Nat.le_of_ble_eq_true rfl) d_D_crossing_2 ⟨Nat.le_of_ble_eq_true rfl, Nat.le_of_ble_eq_true rfl⟩ (fun q9 ce9 H9 hz9 hk9 hc9 hv9 hcl9 => ?_)
  exact z_xout Z htab hz9 hk9 hc9 hv9 hcl9

set_option maxHeartbeats 4000000 in
set_option maxRecDepth 100000 in
theorem x_D_crossing2 {l : Launch} {D : va_G} (hl0 : l.stackTraces = false) {ad : Nat → Nat} {cI cZ cL : ClassId} {J : SJ} {rd : Nat → Int} {pr : Nat → Nat} {G : SH} {K : SK} {tl : va_W} (hI : JI J) {a b c9 d9 : Int} (h : 0 ≤ d9 ∧ d9 < 2 ∧ z32 a ∧ (a < 0 ∨ 40 < a)) : zMt l D (tysW cI cZ cL) y_D_crossing w_D_crossing 9 143 [.ref (ad 0), .int (iZ (a)), .int (iZ (b)), .int (iZ (c9)), .int (iZ (d9))] (wdC ad cI cZ cL J rd pr G K tl) "java/lang/IllegalArgumentException" := by
  refine z_ofX (by decide) (Nat.le_of_ble_eq_true rfl) ?_
  intro p e s m below meth c ls Z htab hP hK hT hSt hl
  obtain ⟨hx, hb, hr, hml, hown, hts, hE, hlocks⟩ := id Z
  have hl : lv_has ls 6 [(0, .ref (ad 0)), (1, .int (iZ (a))), (2, .int (iZ (b))), (3, .int (iZ (c9))), (4, .int (iZ (d9)))] := hl
  obtain ⟨hn32, hk2, hpr, hct⟩ := id hI
  refine lv_iload hx hb d_D_crossing_0 (lv_at hl 4 rfl) ?_
  refine z_callSR (As := [.int (iZ (d9))]) (rest := []) zTB Z (k_D_needPart (a := d9) (by omega)) ⟨ml_D_112, sm_D_needPart, ini_D, co_D_needPart⟩ zd_D_needPart ⟨Nat.le_of_ble_eq_true rfl, Nat.le_of_ble_eq_true rfl⟩ hP hK hl.1 rfl (Nat.le_of_ble_eq_true rfl) d_D_crossing_2 ⟨Nat.zero_le _, Nat.zero_le _⟩ ?_
  refine W.eq (g2 := F0 m 5 ls []) rfl ?_
  refine lv_iload_n hx hb d_D_crossing_5 rfl (lv_at hl 1 rfl) ?_
  refine lv_iconst (v := iZ ((0 : Nat) : Int)) hx hb d_D_crossing_6 (by decide) ?_
  refine lv_bipush (v := iZ ((40 : Nat) : Int)) hx hb d_D_crossing_7 (by decide) ?_
  refine z_xS (As := [.int (iZ (a)), .int (iZ ((0 : Nat) : Int)), .int (iZ ((40 : Nat) : Int))]) (rest := []) Z (x_D_needNumber hl0 (a := a) (b := ((0 : Nat) : Int)) (c9 := ((40 : Nat) : Int)) (by omega)) ⟨ml_D_67, sm_D_needNumber, ini_D, co_D_needNumber⟩ zd_D_needNumber ⟨Nat.le_of_ble_eq_true rfl, Nat.le_of_ble_eq_true rfl⟩ hP hK hT hSt hl.1 rfl (Nat.le_of_ble_eq_true rfl) d_D_crossing_9 ⟨Nat.le_of_ble_eq_true rfl, Nat.le_of_ble_eq_true rfl⟩ (fun q9 ce9 H9 hz9 hk9 hc9 hv9 hcl9 => ?_)
  exact z_xout Z htab hz9 hk9 hc9 hv9 hcl9

set_option maxHeartbeats 4000000 in
set_option maxRecDepth 100000 in
theorem x_D_crossing3 {l : Launch} {D : va_G} (hl0 : l.stackTraces = false) {ad : Nat → Nat} {cI cZ cL : ClassId} {J : SJ} {rd : Nat → Int} {pr : Nat → Nat} {G : SH} {K : SK} {tl : va_W} (hI : JI J) {a b c9 d9 : Int} (h : 0 ≤ d9 ∧ d9 < 2 ∧ 0 ≤ a ∧ a ≤ 40 ∧ z32 b ∧ (b < 1 ∨ 16 < b)) : zMt l D (tysW cI cZ cL) y_D_crossing w_D_crossing 9 143 [.ref (ad 0), .int (iZ (a)), .int (iZ (b)), .int (iZ (c9)), .int (iZ (d9))] (wdC ad cI cZ cL J rd pr G K tl) "java/lang/IllegalArgumentException" := by
  refine z_ofX (by decide) (Nat.le_of_ble_eq_true rfl) ?_
  intro p e s m below meth c ls Z htab hP hK hT hSt hl
  obtain ⟨hx, hb, hr, hml, hown, hts, hE, hlocks⟩ := id Z
  have hl : lv_has ls 6 [(0, .ref (ad 0)), (1, .int (iZ (a))), (2, .int (iZ (b))), (3, .int (iZ (c9))), (4, .int (iZ (d9)))] := hl
  obtain ⟨hn32, hk2, hpr, hct⟩ := id hI
  refine lv_iload hx hb d_D_crossing_0 (lv_at hl 4 rfl) ?_
  refine z_callSR (As := [.int (iZ (d9))]) (rest := []) zTB Z (k_D_needPart (a := d9) (by omega)) ⟨ml_D_112, sm_D_needPart, ini_D, co_D_needPart⟩ zd_D_needPart ⟨Nat.le_of_ble_eq_true rfl, Nat.le_of_ble_eq_true rfl⟩ hP hK hl.1 rfl (Nat.le_of_ble_eq_true rfl) d_D_crossing_2 ⟨Nat.zero_le _, Nat.zero_le _⟩ ?_
  refine W.eq (g2 := F0 m 5 ls []) rfl ?_
  refine lv_iload_n hx hb d_D_crossing_5 rfl (lv_at hl 1 rfl) ?_
  refine lv_iconst (v := iZ ((0 : Nat) : Int)) hx hb d_D_crossing_6 (by decide) ?_
  refine lv_bipush (v := iZ ((40 : Nat) : Int)) hx hb d_D_crossing_7 (by decide) ?_
  refine z_callSR (As := [.int (iZ (a)), .int (iZ ((0 : Nat) : Int)), .int (iZ ((40 : Nat) : Int))]) (rest := []) zTB Z (k_D_needNumber (a := a) (b := ((0 : Nat) : Int)) (c9 := ((40 : Nat) : Int)) (by omega)) ⟨ml_D_67, sm_D_needNumber, ini_D, co_D_needNumber⟩ zd_D_needNumber ⟨Nat.le_of_ble_eq_true rfl, Nat.le_of_ble_eq_true rfl⟩ hP hK hl.1 rfl (Nat.le_of_ble_eq_true rfl) d_D_crossing_9 ⟨Nat.zero_le _, Nat.zero_le _⟩ ?_
  refine W.eq (g2 := F0 m 12 ls []) rfl ?_
  refine lv_iload_n hx hb d_D_crossing_12 rfl (lv_at hl 2 rfl) ?_
  refine lv_iload_n hx hb d_D_crossing_13 rfl (lv_at hl 3 rfl) ?_
  refine z_xS (As := [.int (iZ (b)), .int (iZ (c9))]) (rest := []) Z (x_D_needBounds hl0 (a := b) (b := c9) (by omega)) ⟨ml_D_145, sm_D_needBounds, ini_D, co_D_needBounds⟩ zd_D_needBounds ⟨Nat.le_of_ble_eq_true rfl, Nat.le_of_ble_eq_true rfl⟩ hP hK hT hSt hl.1 rfl (Nat.le_of_ble_eq_true rfl) d_D_crossing_14 ⟨Nat.le_of_ble_eq_true rfl, Nat.le_of_ble_eq_true rfl⟩ (fun q9 ce9 H9 hz9 hk9 hc9 hv9 hcl9 => ?_)
  exact z_xout Z htab hz9 hk9 hc9 hv9 hcl9

set_option maxHeartbeats 4000000 in
set_option maxRecDepth 100000 in
theorem x_D_crossing4 {l : Launch} {D : va_G} (hl0 : l.stackTraces = false) {ad : Nat → Nat} {cI cZ cL : ClassId} {J : SJ} {rd : Nat → Int} {pr : Nat → Nat} {G : SH} {K : SK} {tl : va_W} (hI : JI J) {a b c9 d9 : Int} (h : 0 ≤ d9 ∧ d9 < 2 ∧ 0 ≤ a ∧ a ≤ 40 ∧ 1 ≤ b ∧ b ≤ 16 ∧ z32 c9 ∧ (c9 < 1 ∨ 16 < c9)) : zMt l D (tysW cI cZ cL) y_D_crossing w_D_crossing 9 143 [.ref (ad 0), .int (iZ (a)), .int (iZ (b)), .int (iZ (c9)), .int (iZ (d9))] (wdC ad cI cZ cL J rd pr G K tl) "java/lang/IllegalArgumentException" := by
  refine z_ofX (by decide) (Nat.le_of_ble_eq_true rfl) ?_
  intro p e s m below meth c ls Z htab hP hK hT hSt hl
  obtain ⟨hx, hb, hr, hml, hown, hts, hE, hlocks⟩ := id Z
  have hl : lv_has ls 6 [(0, .ref (ad 0)), (1, .int (iZ (a))), (2, .int (iZ (b))), (3, .int (iZ (c9))), (4, .int (iZ (d9)))] := hl
  obtain ⟨hn32, hk2, hpr, hct⟩ := id hI
  refine lv_iload hx hb d_D_crossing_0 (lv_at hl 4 rfl) ?_
  refine z_callSR (As := [.int (iZ (d9))]) (rest := []) zTB Z (k_D_needPart (a := d9) (by omega)) ⟨ml_D_112, sm_D_needPart, ini_D, co_D_needPart⟩ zd_D_needPart ⟨Nat.le_of_ble_eq_true rfl, Nat.le_of_ble_eq_true rfl⟩ hP hK hl.1 rfl (Nat.le_of_ble_eq_true rfl) d_D_crossing_2 ⟨Nat.zero_le _, Nat.zero_le _⟩ ?_
  refine W.eq (g2 := F0 m 5 ls []) rfl ?_
  refine lv_iload_n hx hb d_D_crossing_5 rfl (lv_at hl 1 rfl) ?_
  refine lv_iconst (v := iZ ((0 : Nat) : Int)) hx hb d_D_crossing_6 (by decide) ?_
  refine lv_bipush (v := iZ ((40 : Nat) : Int)) hx hb d_D_crossing_7 (by decide) ?_
  refine z_callSR (As := [.int (iZ (a)), .int (iZ ((0 : Nat) : Int)), .int (iZ ((40 : Nat) : Int))]) (rest := []) zTB Z (k_D_needNumber (a := a) (b := ((0 : Nat) : Int)) (c9 := ((40 : Nat) : Int)) (by omega)) ⟨ml_D_67, sm_D_needNumber, ini_D, co_D_needNumber⟩ zd_D_needNumber ⟨Nat.le_of_ble_eq_true rfl, Nat.le_of_ble_eq_true rfl⟩ hP hK hl.1 rfl (Nat.le_of_ble_eq_true rfl) d_D_crossing_9 ⟨Nat.zero_le _, Nat.zero_le _⟩ ?_
  refine W.eq (g2 := F0 m 12 ls []) rfl ?_
  refine lv_iload_n hx hb d_D_crossing_12 rfl (lv_at hl 2 rfl) ?_
  refine lv_iload_n hx hb d_D_crossing_13 rfl (lv_at hl 3 rfl) ?_
  refine z_xS (As := [.int (iZ (b)), .int (iZ (c9))]) (rest := []) Z (y_D_needBounds2 hl0 (a := b) (b := c9) (by omega)) ⟨ml_D_145, sm_D_needBounds, ini_D, co_D_needBounds⟩ zd_D_needBounds ⟨Nat.le_of_ble_eq_true rfl, Nat.le_of_ble_eq_true rfl⟩ hP hK hT hSt hl.1 rfl (Nat.le_of_ble_eq_true rfl) d_D_crossing_14 ⟨Nat.le_of_ble_eq_true rfl, Nat.le_of_ble_eq_true rfl⟩ (fun q9 ce9 H9 hz9 hk9 hc9 hv9 hcl9 => ?_)
  exact z_xout Z htab hz9 hk9 hc9 hv9 hcl9

set_option maxHeartbeats 4000000 in
set_option maxRecDepth 100000 in
theorem x_D_least1 {l : Launch} {D : va_G} (hl0 : l.stackTraces = false) {ad : Nat → Nat} {cI cZ cL : ClassId} {J : SJ} {rd : Nat → Int} {pr : Nat → Nat} {G : SH} {K : SK} {tl : va_W} (hI : JI J) {a b c9 d9 : Int} (h : z32 d9 ∧ (d9 < 1 ∨ 1000 < d9)) : zMt l D (tysW cI cZ cL) y_D_least w_D_least 9 143 [.ref (ad 0), .int (iZ (a)), .int (iZ (b)), .int (iZ (c9)), .int (iZ (d9))] (wdC ad cI cZ cL J rd pr G K tl) "java/lang/IllegalArgumentException" := by
  refine z_ofX (by decide) (Nat.le_of_ble_eq_true rfl) ?_
  intro p e s m below meth c ls Z htab hP hK hT hSt hl
  obtain ⟨hx, hb, hr, hml, hown, hts, hE, hlocks⟩ := id Z
  have hl : lv_has ls 6 [(0, .ref (ad 0)), (1, .int (iZ (a))), (2, .int (iZ (b))), (3, .int (iZ (c9))), (4, .int (iZ (d9)))] := hl
  obtain ⟨hn32, hk2, hpr, hct⟩ := id hI
  refine lv_iload hx hb d_D_least_0 (lv_at hl 4 rfl) ?_
  refine lv_iconst (v := iZ ((1 : Nat) : Int)) hx hb d_D_least_2 (by decide) ?_
  refine lv_sipush (v := iZ ((1000 : Nat) : Int)) hx hb d_D_least_3 (by decide) ?_
  refine z_xS (As := [.int (iZ (d9)), .int (iZ ((1 : Nat) : Int)), .int (iZ ((1000 : Nat) : Int))]) (rest := []) Z (x_D_needNumber hl0 (a := d9) (b := ((1 : Nat) : Int)) (c9 := ((1000 : Nat) : Int)) (by omega)) ⟨ml_D_67, sm_D_needNumber, ini_D, co_D_needNumber⟩ zd_D_needNumber ⟨Nat.le_of_ble_eq_true rfl, Nat.le_of_ble_eq_true rfl⟩ hP hK hT hSt hl.1 rfl (Nat.le_of_ble_eq_true rfl) d_D_least_6 ⟨Nat.le_of_ble_eq_true rfl, Nat.le_of_ble_eq_true rfl⟩ (fun q9 ce9 H9 hz9 hk9 hc9 hv9 hcl9 => ?_)
  exact z_xout Z htab hz9 hk9 hc9 hv9 hcl9

set_option maxHeartbeats 4000000 in
set_option maxRecDepth 100000 in
theorem x_D_least2 {l : Launch} {D : va_G} (hl0 : l.stackTraces = false) {ad : Nat → Nat} {cI cZ cL : ClassId} {J : SJ} {rd : Nat → Int} {pr : Nat → Nat} {G : SH} {K : SK} {tl : va_W} (hI : JI J) {a b c9 d9 : Int} (h : 1 ≤ d9 ∧ d9 ≤ 1000 ∧ z32 c9 ∧ (c9 < 0 ∨ d9 < c9)) : zMt l D (tysW cI cZ cL) y_D_least w_D_least 9 143 [.ref (ad 0), .int (iZ (a)), .int (iZ (b)), .int (iZ (c9)), .int (iZ (d9))] (wdC ad cI cZ cL J rd pr G K tl) "java/lang/IllegalArgumentException" := by
  refine z_ofX (by decide) (Nat.le_of_ble_eq_true rfl) ?_
  intro p e s m below meth c ls Z htab hP hK hT hSt hl
  obtain ⟨hx, hb, hr, hml, hown, hts, hE, hlocks⟩ := id Z
  have hl : lv_has ls 6 [(0, .ref (ad 0)), (1, .int (iZ (a))), (2, .int (iZ (b))), (3, .int (iZ (c9))), (4, .int (iZ (d9)))] := hl
  obtain ⟨hn32, hk2, hpr, hct⟩ := id hI
  refine lv_iload hx hb d_D_least_0 (lv_at hl 4 rfl) ?_
  refine lv_iconst (v := iZ ((1 : Nat) : Int)) hx hb d_D_least_2 (by decide) ?_
  refine lv_sipush (v := iZ ((1000 : Nat) : Int)) hx hb d_D_least_3 (by decide) ?_
  refine z_callSR (As := [.int (iZ (d9)), .int (iZ ((1 : Nat) : Int)), .int (iZ ((1000 : Nat) : Int))]) (rest := []) zTB Z (k_D_needNumber (a := d9) (b := ((1 : Nat) : Int)) (c9 := ((1000 : Nat) : Int)) (by omega)) ⟨ml_D_67, sm_D_needNumber, ini_D, co_D_needNumber⟩ zd_D_needNumber ⟨Nat.le_of_ble_eq_true rfl, Nat.le_of_ble_eq_true rfl⟩ hP hK hl.1 rfl (Nat.le_of_ble_eq_true rfl) d_D_least_6 ⟨Nat.zero_le _, Nat.zero_le _⟩ ?_
  refine W.eq (g2 := F0 m 9 ls []) rfl ?_
  refine lv_iload_n hx hb d_D_least_9 rfl (lv_at hl 3 rfl) ?_
  refine lv_iconst (v := iZ ((0 : Nat) : Int)) hx hb d_D_least_10 (by decide) ?_
  refine lv_iload hx hb d_D_least_11 (lv_at hl 4 rfl) ?_
  refine z_xS (As := [.int (iZ (c9)), .int (iZ ((0 : Nat) : Int)), .int (iZ (d9))]) (rest := []) Z (x_D_needNumber hl0 (a := c9) (b := ((0 : Nat) : Int)) (c9 := d9) (by omega)) ⟨ml_D_67, sm_D_needNumber, ini_D, co_D_needNumber⟩ zd_D_needNumber ⟨Nat.le_of_ble_eq_true rfl, Nat.le_of_ble_eq_true rfl⟩ hP hK hT hSt hl.1 rfl (Nat.le_of_ble_eq_true rfl) d_D_least_13 ⟨Nat.le_of_ble_eq_true rfl, Nat.le_of_ble_eq_true rfl⟩ (fun q9 ce9 H9 hz9 hk9 hc9 hv9 hcl9 => ?_)
  exact z_xout Z htab hz9 hk9 hc9 hv9 hcl9

set_option maxHeartbeats 4000000 in
set_option maxRecDepth 100000 in
theorem x_D_least3 {l : Launch} {D : va_G} (hl0 : l.stackTraces = false) {ad : Nat → Nat} {cI cZ cL : ClassId} {J : SJ} {rd : Nat → Int} {pr : Nat → Nat} {G : SH} {K : SK} {tl : va_W} (hI : JI J) {a b c9 d9 : Int} (h : 1 ≤ d9 ∧ d9 ≤ 1000 ∧ 0 ≤ c9 ∧ c9 ≤ d9 ∧ z32 a ∧ (a < 1 ∨ 16 < a)) : zMt l D (tysW cI cZ cL) y_D_least w_D_least 9 143 [.ref (ad 0), .int (iZ (a)), .int (iZ (b)), .int (iZ (c9)), .int (iZ (d9))] (wdC ad cI cZ cL J rd pr G K tl) "java/lang/IllegalArgumentException" := by
  refine z_ofX (by decide) (Nat.le_of_ble_eq_true rfl) ?_
  intro p e s m below meth c ls Z htab hP hK hT hSt hl
  obtain ⟨hx, hb, hr, hml, hown, hts, hE, hlocks⟩ := id Z
  have hl : lv_has ls 6 [(0, .ref (ad 0)), (1, .int (iZ (a))), (2, .int (iZ (b))), (3, .int (iZ (c9))), (4, .int (iZ (d9)))] := hl
  obtain ⟨hn32, hk2, hpr, hct⟩ := id hI
  refine lv_iload hx hb d_D_least_0 (lv_at hl 4 rfl) ?_
  refine lv_iconst (v := iZ ((1 : Nat) : Int)) hx hb d_D_least_2 (by decide) ?_
  refine lv_sipush (v := iZ ((1000 : Nat) : Int)) hx hb d_D_least_3 (by decide) ?_
  refine z_callSR (As := [.int (iZ (d9)), .int (iZ ((1 : Nat) : Int)), .int (iZ ((1000 : Nat) : Int))]) (rest := []) zTB Z (k_D_needNumber (a := d9) (b := ((1 : Nat) : Int)) (c9 := ((1000 : Nat) : Int)) (by omega)) ⟨ml_D_67, sm_D_needNumber, ini_D, co_D_needNumber⟩ zd_D_needNumber ⟨Nat.le_of_ble_eq_true rfl, Nat.le_of_ble_eq_true rfl⟩ hP hK hl.1 rfl (Nat.le_of_ble_eq_true rfl) d_D_least_6 ⟨Nat.zero_le _, Nat.zero_le _⟩ ?_
  refine W.eq (g2 := F0 m 9 ls []) rfl ?_
  refine lv_iload_n hx hb d_D_least_9 rfl (lv_at hl 3 rfl) ?_
  refine lv_iconst (v := iZ ((0 : Nat) : Int)) hx hb d_D_least_10 (by decide) ?_
  refine lv_iload hx hb d_D_least_11 (lv_at hl 4 rfl) ?_
  refine z_callSR (As := [.int (iZ (c9)), .int (iZ ((0 : Nat) : Int)), .int (iZ (d9))]) (rest := []) zTB Z (k_D_needNumber (a := c9) (b := ((0 : Nat) : Int)) (c9 := d9) (by omega)) ⟨ml_D_67, sm_D_needNumber, ini_D, co_D_needNumber⟩ zd_D_needNumber ⟨Nat.le_of_ble_eq_true rfl, Nat.le_of_ble_eq_true rfl⟩ hP hK hl.1 rfl (Nat.le_of_ble_eq_true rfl) d_D_least_13 ⟨Nat.zero_le _, Nat.zero_le _⟩ ?_
  refine W.eq (g2 := F0 m 16 ls []) rfl ?_
  refine lv_iload_n hx hb d_D_least_16 rfl (lv_at hl 1 rfl) ?_
  refine lv_iload_n hx hb d_D_least_17 rfl (lv_at hl 2 rfl) ?_
  refine z_xS (As := [.int (iZ (a)), .int (iZ (b))]) (rest := []) Z (x_D_needBounds hl0 (a := a) (b := b) (by omega)) ⟨ml_D_145, sm_D_needBounds, ini_D, co_D_needBounds⟩ zd_D_needBounds ⟨Nat.le_of_ble_eq_true rfl, Nat.le_of_ble_eq_true rfl⟩ hP hK hT hSt hl.1 rfl (Nat.le_of_ble_eq_true rfl) d_D_least_18 ⟨Nat.le_of_ble_eq_true rfl, Nat.le_of_ble_eq_true rfl⟩ (fun q9 ce9 H9 hz9 hk9 hc9 hv9 hcl9 => ?_)
  exact z_xout Z htab hz9 hk9 hc9 hv9 hcl9

set_option maxHeartbeats 4000000 in
set_option maxRecDepth 100000 in
theorem x_D_least4 {l : Launch} {D : va_G} (hl0 : l.stackTraces = false) {ad : Nat → Nat} {cI cZ cL : ClassId} {J : SJ} {rd : Nat → Int} {pr : Nat → Nat} {G : SH} {K : SK} {tl : va_W} (hI : JI J) {a b c9 d9 : Int} (h : 1 ≤ d9 ∧ d9 ≤ 1000 ∧ 0 ≤ c9 ∧ c9 ≤ d9 ∧ 1 ≤ a ∧ a ≤ 16 ∧ z32 b ∧ (b < 1 ∨ 16 < b)) : zMt l D (tysW cI cZ cL) y_D_least w_D_least 9 143 [.ref (ad 0), .int (iZ (a)), .int (iZ (b)), .int (iZ (c9)), .int (iZ (d9))] (wdC ad cI cZ cL J rd pr G K tl) "java/lang/IllegalArgumentException" := by
  refine z_ofX (by decide) (Nat.le_of_ble_eq_true rfl) ?_
  intro p e s m below meth c ls Z htab hP hK hT hSt hl
  obtain ⟨hx, hb, hr, hml, hown, hts, hE, hlocks⟩ := id Z
  have hl : lv_has ls 6 [(0, .ref (ad 0)), (1, .int (iZ (a))), (2, .int (iZ (b))), (3, .int (iZ (c9))), (4, .int (iZ (d9)))] := hl
  obtain ⟨hn32, hk2, hpr, hct⟩ := id hI
  refine lv_iload hx hb d_D_least_0 (lv_at hl 4 rfl) ?_
  refine lv_iconst (v := iZ ((1 : Nat) : Int)) hx hb d_D_least_2 (by decide) ?_
  refine lv_sipush (v := iZ ((1000 : Nat) : Int)) hx hb d_D_least_3 (by decide) ?_
  refine z_callSR (As := [.int (iZ (d9)), .int (iZ ((1 : Nat) : Int)), .int (iZ ((1000 : Nat) : Int))]) (rest := []) zTB Z (k_D_needNumber (a := d9) (b := ((1 : Nat) : Int)) (c9 := ((1000 : Nat) : Int)) (by omega)) ⟨ml_D_67, sm_D_needNumber, ini_D, co_D_needNumber⟩ zd_D_needNumber ⟨Nat.le_of_ble_eq_true rfl, Nat.le_of_ble_eq_true rfl⟩ hP hK hl.1 rfl (Nat.le_of_ble_eq_true rfl) d_D_least_6 ⟨Nat.zero_le _, Nat.zero_le _⟩ ?_
  refine W.eq (g2 := F0 m 9 ls []) rfl ?_
  refine lv_iload_n hx hb d_D_least_9 rfl (lv_at hl 3 rfl) ?_
  refine lv_iconst (v := iZ ((0 : Nat) : Int)) hx hb d_D_least_10 (by decide) ?_
  refine lv_iload hx hb d_D_least_11 (lv_at hl 4 rfl) ?_
  refine z_callSR (As := [.int (iZ (c9)), .int (iZ ((0 : Nat) : Int)), .int (iZ (d9))]) (rest := []) zTB Z (k_D_needNumber (a := c9) (b := ((0 : Nat) : Int)) (c9 := d9) (by omega)) ⟨ml_D_67, sm_D_needNumber, ini_D, co_D_needNumber⟩ zd_D_needNumber ⟨Nat.le_of_ble_eq_true rfl, Nat.le_of_ble_eq_true rfl⟩ hP hK hl.1 rfl (Nat.le_of_ble_eq_true rfl) d_D_least_13 ⟨Nat.zero_le _, Nat.zero_le _⟩ ?_
  refine W.eq (g2 := F0 m 16 ls []) rfl ?_
  refine lv_iload_n hx hb d_D_least_16 rfl (lv_at hl 1 rfl) ?_
  refine lv_iload_n hx hb d_D_least_17 rfl (lv_at hl 2 rfl) ?_
  refine z_xS (As := [.int (iZ (a)), .int (iZ (b))]) (rest := []) Z (y_D_needBounds2 hl0 (a := a) (b := b) (by omega)) ⟨ml_D_145, sm_D_needBounds, ini_D, co_D_needBounds⟩ zd_D_needBounds ⟨Nat.le_of_ble_eq_true rfl, Nat.le_of_ble_eq_true rfl⟩ hP hK hT hSt hl.1 rfl (Nat.le_of_ble_eq_true rfl) d_D_least_18 ⟨Nat.le_of_ble_eq_true rfl, Nat.le_of_ble_eq_true rfl⟩ (fun q9 ce9 H9 hz9 hk9 hc9 hv9 hcl9 => ?_)
  exact z_xout Z htab hz9 hk9 hc9 hv9 hcl9

set_option maxHeartbeats 4000000 in
set_option maxRecDepth 100000 in
theorem x_D_mean1 {l : Launch} {D : va_G} (hl0 : l.stackTraces = false) {ad : Nat → Nat} {cI cZ cL : ClassId} {J : SJ} {rd : Nat → Int} {pr : Nat → Nat} {G : SH} {K : SK} {tl : va_W} (hI : JI J) {a b c9 : Int} (h : z32 a ∧ (a < 0 ∨ 4 ≤ a)) : zMt l D (tysW cI cZ cL) y_D_mean w_D_mean 9 141 [.ref (ad 0), .int (iZ (a)), .int (iZ (b)), .int (iZ (c9))] (wdC ad cI cZ cL J rd pr G K tl) "java/lang/IndexOutOfBoundsException" := by
  refine z_ofX (by decide) (Nat.le_of_ble_eq_true rfl) ?_
  intro p e s m below meth c ls Z htab hP hK hT hSt hl
  obtain ⟨hx, hb, hr, hml, hown, hts, hE, hlocks⟩ := id Z
  have hl : lv_has ls 4 [(0, .ref (ad 0)), (1, .int (iZ (a))), (2, .int (iZ (b))), (3, .int (iZ (c9)))] := hl
  obtain ⟨hn32, hk2, hpr, hct⟩ := id hI
  refine lv_iload_n hx hb d_D_mean_0 rfl (lv_at hl 1 rfl) ?_
  refine z_xS (As := [.int (iZ (a))]) (rest := []) Z (x_D_needShip hl0 (a := a) (by omega)) ⟨ml_D_43, sm_D_needShip, ini_D, co_D_needShip⟩ zd_D_needShip ⟨Nat.le_of_ble_eq_true rfl, Nat.le_of_ble_eq_true rfl⟩ hP hK hT hSt hl.1 rfl (Nat.le_of_ble_eq_true rfl) d_D_mean_1 ⟨Nat.le_of_ble_eq_true rfl, Nat.le_of_ble_eq_true rfl⟩ (fun q9 ce9 H9 hz9 hk9 hc9 hv9 hcl9 => ?_)
  exact z_xout Z htab hz9 hk9 hc9 hv9 hcl9

set_option maxHeartbeats 4000000 in
set_option maxRecDepth 100000 in
theorem x_D_mean2 {l : Launch} {D : va_G} (hl0 : l.stackTraces = false) {ad : Nat → Nat} {cI cZ cL : ClassId} {J : SJ} {rd : Nat → Int} {pr : Nat → Nat} {G : SH} {K : SK} {tl : va_W} (hI : JI J) {sh : Nat} {b c9 : Int} (hsh : sh < 4) (h : z32 b ∧ (b < 0 ∨ 3 ≤ b)) : zMt l D (tysW cI cZ cL) y_D_mean w_D_mean 9 141 [.ref (ad 0), .int (iZ ((sh : Nat) : Int)), .int (iZ (b)), .int (iZ (c9))] (wdC ad cI cZ cL J rd pr G K tl) "java/lang/IndexOutOfBoundsException" := by
  refine z_ofX (by decide) (Nat.le_of_ble_eq_true rfl) ?_
  intro p e s m below meth c ls Z htab hP hK hT hSt hl
  obtain ⟨hx, hb, hr, hml, hown, hts, hE, hlocks⟩ := id Z
  have hl : lv_has ls 4 [(0, .ref (ad 0)), (1, .int (iZ ((sh : Nat) : Int))), (2, .int (iZ (b))), (3, .int (iZ (c9)))] := hl
  obtain ⟨hn32, hk2, hpr, hct⟩ := id hI
  refine lv_iload_n hx hb d_D_mean_0 rfl (lv_at hl 1 rfl) ?_
  refine z_callSR (As := [.int (iZ ((sh : Nat) : Int))]) (rest := []) zTB Z (k_D_needShip (a := ((sh : Nat) : Int)) (by omega)) ⟨ml_D_43, sm_D_needShip, ini_D, co_D_needShip⟩ zd_D_needShip ⟨Nat.le_of_ble_eq_true rfl, Nat.le_of_ble_eq_true rfl⟩ hP hK hl.1 rfl (Nat.le_of_ble_eq_true rfl) d_D_mean_1 ⟨Nat.zero_le _, Nat.zero_le _⟩ ?_
  refine W.eq (g2 := F0 m 4 ls []) rfl ?_
  refine lv_iload_n hx hb d_D_mean_4 rfl (lv_at hl 2 rfl) ?_
  refine z_xS (As := [.int (iZ (b))]) (rest := []) Z (x_D_needKind hl0 (a := b) (by omega)) ⟨ml_D_64, sm_D_needKind, ini_D, co_D_needKind⟩ zd_D_needKind ⟨Nat.le_of_ble_eq_true rfl, Nat.le_of_ble_eq_true rfl⟩ hP hK hT hSt hl.1 rfl (Nat.le_of_ble_eq_true rfl) d_D_mean_5 ⟨Nat.le_of_ble_eq_true rfl, Nat.le_of_ble_eq_true rfl⟩ (fun q9 ce9 H9 hz9 hk9 hc9 hv9 hcl9 => ?_)
  exact z_xout Z htab hz9 hk9 hc9 hv9 hcl9

set_option maxHeartbeats 4000000 in
set_option maxRecDepth 100000 in
theorem x_D_mean3 {l : Launch} {D : va_G} (hl0 : l.stackTraces = false) {ad : Nat → Nat} {cI cZ cL : ClassId} {J : SJ} {rd : Nat → Int} {pr : Nat → Nat} {G : SH} {K : SK} {tl : va_W} (hI : JI J) {sh kd : Nat} {c9 : Int} (hsh : sh < 4) (hkd : kd < 3) (h : z32 c9 ∧ (c9 < 0 ∨ 2 ≤ c9)) : zMt l D (tysW cI cZ cL) y_D_mean w_D_mean 9 141 [.ref (ad 0), .int (iZ ((sh : Nat) : Int)), .int (iZ ((kd : Nat) : Int)), .int (iZ (c9))] (wdC ad cI cZ cL J rd pr G K tl) "java/lang/IndexOutOfBoundsException" := by
  refine z_ofX (by decide) (Nat.le_of_ble_eq_true rfl) ?_
  intro p e s m below meth c ls Z htab hP hK hT hSt hl
  obtain ⟨hx, hb, hr, hml, hown, hts, hE, hlocks⟩ := id Z
  have hl : lv_has ls 4 [(0, .ref (ad 0)), (1, .int (iZ ((sh : Nat) : Int))), (2, .int (iZ ((kd : Nat) : Int))), (3, .int (iZ (c9)))] := hl
  obtain ⟨hn32, hk2, hpr, hct⟩ := id hI
  refine lv_iload_n hx hb d_D_mean_0 rfl (lv_at hl 1 rfl) ?_
  refine z_callSR (As := [.int (iZ ((sh : Nat) : Int))]) (rest := []) zTB Z (k_D_needShip (a := ((sh : Nat) : Int)) (by omega)) ⟨ml_D_43, sm_D_needShip, ini_D, co_D_needShip⟩ zd_D_needShip ⟨Nat.le_of_ble_eq_true rfl, Nat.le_of_ble_eq_true rfl⟩ hP hK hl.1 rfl (Nat.le_of_ble_eq_true rfl) d_D_mean_1 ⟨Nat.zero_le _, Nat.zero_le _⟩ ?_
  refine W.eq (g2 := F0 m 4 ls []) rfl ?_
  refine lv_iload_n hx hb d_D_mean_4 rfl (lv_at hl 2 rfl) ?_
  refine z_callSR (As := [.int (iZ ((kd : Nat) : Int))]) (rest := []) zTB Z (k_D_needKind (a := ((kd : Nat) : Int)) (by omega)) ⟨ml_D_64, sm_D_needKind, ini_D, co_D_needKind⟩ zd_D_needKind ⟨Nat.le_of_ble_eq_true rfl, Nat.le_of_ble_eq_true rfl⟩ hP hK hl.1 rfl (Nat.le_of_ble_eq_true rfl) d_D_mean_5 ⟨Nat.zero_le _, Nat.zero_le _⟩ ?_
  refine W.eq (g2 := F0 m 8 ls []) rfl ?_
  refine lv_iload_n hx hb d_D_mean_8 rfl (lv_at hl 3 rfl) ?_
  refine z_xS (As := [.int (iZ (c9))]) (rest := []) Z (x_D_needPart hl0 (a := c9) (by omega)) ⟨ml_D_112, sm_D_needPart, ini_D, co_D_needPart⟩ zd_D_needPart ⟨Nat.le_of_ble_eq_true rfl, Nat.le_of_ble_eq_true rfl⟩ hP hK hT hSt hl.1 rfl (Nat.le_of_ble_eq_true rfl) d_D_mean_9 ⟨Nat.le_of_ble_eq_true rfl, Nat.le_of_ble_eq_true rfl⟩ (fun q9 ce9 H9 hz9 hk9 hc9 hv9 hcl9 => ?_)
  exact z_xout Z htab hz9 hk9 hc9 hv9 hcl9

set_option maxHeartbeats 4000000 in
set_option maxRecDepth 100000 in
theorem x_D_weight1 {l : Launch} {D : va_G} (hl0 : l.stackTraces = false) {ad : Nat → Nat} {cI cZ cL : ClassId} {J : SJ} {rd : Nat → Int} {pr : Nat → Nat} {G : SH} {K : SK} {tl : va_W} (hI : JI J) {a b c9 : Int} (h : z32 a ∧ (a < 0 ∨ 4 ≤ a)) : zMt l D (tysW cI cZ cL) y_D_weight w_D_weight 9 141 [.ref (ad 0), .int (iZ (a)), .int (iZ (b)), .int (iZ (c9))] (wdC ad cI cZ cL J rd pr G K tl) "java/lang/IndexOutOfBoundsException" := by
  refine z_ofX (by decide) (Nat.le_of_ble_eq_true rfl) ?_
  intro p e s m below meth c ls Z htab hP hK hT hSt hl
  obtain ⟨hx, hb, hr, hml, hown, hts, hE, hlocks⟩ := id Z
  have hl : lv_has ls 4 [(0, .ref (ad 0)), (1, .int (iZ (a))), (2, .int (iZ (b))), (3, .int (iZ (c9)))] := hl
  obtain ⟨hn32, hk2, hpr, hct⟩ := id hI
  refine lv_iload_n hx hb d_D_weight_0 rfl (lv_at hl 1 rfl) ?_
  refine z_xS (As := [.int (iZ (a))]) (rest := []) Z (x_D_needShip hl0 (a := a) (by omega)) ⟨ml_D_43, sm_D_needShip, ini_D, co_D_needShip⟩ zd_D_needShip ⟨Nat.le_of_ble_eq_true rfl, Nat.le_of_ble_eq_true rfl⟩ hP hK hT hSt hl.1 rfl (Nat.le_of_ble_eq_true rfl) d_D_weight_1 ⟨Nat.le_of_ble_eq_true rfl, Nat.le_of_ble_eq_true rfl⟩ (fun q9 ce9 H9 hz9 hk9 hc9 hv9 hcl9 => ?_)
  exact z_xout Z htab hz9 hk9 hc9 hv9 hcl9

set_option maxHeartbeats 4000000 in
set_option maxRecDepth 100000 in
theorem x_D_weight2 {l : Launch} {D : va_G} (hl0 : l.stackTraces = false) {ad : Nat → Nat} {cI cZ cL : ClassId} {J : SJ} {rd : Nat → Int} {pr : Nat → Nat} {G : SH} {K : SK} {tl : va_W} (hI : JI J) {sh : Nat} {b c9 : Int} (hsh : sh < 4) (h : z32 b ∧ (b < 0 ∨ 3 ≤ b)) : zMt l D (tysW cI cZ cL) y_D_weight w_D_weight 9 141 [.ref (ad 0), .int (iZ ((sh : Nat) : Int)), .int (iZ (b)), .int (iZ (c9))] (wdC ad cI cZ cL J rd pr G K tl) "java/lang/IndexOutOfBoundsException" := by
  refine z_ofX (by decide) (Nat.le_of_ble_eq_true rfl) ?_
  intro p e s m below meth c ls Z htab hP hK hT hSt hl
  obtain ⟨hx, hb, hr, hml, hown, hts, hE, hlocks⟩ := id Z
  have hl : lv_has ls 4 [(0, .ref (ad 0)), (1, .int (iZ ((sh : Nat) : Int))), (2, .int (iZ (b))), (3, .int (iZ (c9)))] := hl
  obtain ⟨hn32, hk2, hpr, hct⟩ := id hI
  refine lv_iload_n hx hb d_D_weight_0 rfl (lv_at hl 1 rfl) ?_
  refine z_callSR (As := [.int (iZ ((sh : Nat) : Int))]) (rest := []) zTB Z (k_D_needShip (a := ((sh : Nat) : Int)) (by omega)) ⟨ml_D_43, sm_D_needShip, ini_D, co_D_needShip⟩ zd_D_needShip ⟨Nat.le_of_ble_eq_true rfl, Nat.le_of_ble_eq_true rfl⟩ hP hK hl.1 rfl (Nat.le_of_ble_eq_true rfl) d_D_weight_1 ⟨Nat.zero_le _, Nat.zero_le _⟩ ?_
  refine W.eq (g2 := F0 m 4 ls []) rfl ?_
  refine lv_iload_n hx hb d_D_weight_4 rfl (lv_at hl 2 rfl) ?_
  refine z_xS (As := [.int (iZ (b))]) (rest := []) Z (x_D_needKind hl0 (a := b) (by omega)) ⟨ml_D_64, sm_D_needKind, ini_D, co_D_needKind⟩ zd_D_needKind ⟨Nat.le_of_ble_eq_true rfl, Nat.le_of_ble_eq_true rfl⟩ hP hK hT hSt hl.1 rfl (Nat.le_of_ble_eq_true rfl) d_D_weight_5 ⟨Nat.le_of_ble_eq_true rfl, Nat.le_of_ble_eq_true rfl⟩ (fun q9 ce9 H9 hz9 hk9 hc9 hv9 hcl9 => ?_)
  exact z_xout Z htab hz9 hk9 hc9 hv9 hcl9

set_option maxHeartbeats 4000000 in
set_option maxRecDepth 100000 in
theorem x_D_weight3 {l : Launch} {D : va_G} (hl0 : l.stackTraces = false) {ad : Nat → Nat} {cI cZ cL : ClassId} {J : SJ} {rd : Nat → Int} {pr : Nat → Nat} {G : SH} {K : SK} {tl : va_W} (hI : JI J) {sh kd : Nat} {c9 : Int} (hsh : sh < 4) (hkd : kd < 3) (h : z32 c9 ∧ (c9 < 0 ∨ 2 ≤ c9)) : zMt l D (tysW cI cZ cL) y_D_weight w_D_weight 9 141 [.ref (ad 0), .int (iZ ((sh : Nat) : Int)), .int (iZ ((kd : Nat) : Int)), .int (iZ (c9))] (wdC ad cI cZ cL J rd pr G K tl) "java/lang/IndexOutOfBoundsException" := by
  refine z_ofX (by decide) (Nat.le_of_ble_eq_true rfl) ?_
  intro p e s m below meth c ls Z htab hP hK hT hSt hl
  obtain ⟨hx, hb, hr, hml, hown, hts, hE, hlocks⟩ := id Z
  have hl : lv_has ls 4 [(0, .ref (ad 0)), (1, .int (iZ ((sh : Nat) : Int))), (2, .int (iZ ((kd : Nat) : Int))), (3, .int (iZ (c9)))] := hl
  obtain ⟨hn32, hk2, hpr, hct⟩ := id hI
  refine lv_iload_n hx hb d_D_weight_0 rfl (lv_at hl 1 rfl) ?_
  refine z_callSR (As := [.int (iZ ((sh : Nat) : Int))]) (rest := []) zTB Z (k_D_needShip (a := ((sh : Nat) : Int)) (by omega)) ⟨ml_D_43, sm_D_needShip, ini_D, co_D_needShip⟩ zd_D_needShip ⟨Nat.le_of_ble_eq_true rfl, Nat.le_of_ble_eq_true rfl⟩ hP hK hl.1 rfl (Nat.le_of_ble_eq_true rfl) d_D_weight_1 ⟨Nat.zero_le _, Nat.zero_le _⟩ ?_
  refine W.eq (g2 := F0 m 4 ls []) rfl ?_
  refine lv_iload_n hx hb d_D_weight_4 rfl (lv_at hl 2 rfl) ?_
  refine z_callSR (As := [.int (iZ ((kd : Nat) : Int))]) (rest := []) zTB Z (k_D_needKind (a := ((kd : Nat) : Int)) (by omega)) ⟨ml_D_64, sm_D_needKind, ini_D, co_D_needKind⟩ zd_D_needKind ⟨Nat.le_of_ble_eq_true rfl, Nat.le_of_ble_eq_true rfl⟩ hP hK hl.1 rfl (Nat.le_of_ble_eq_true rfl) d_D_weight_5 ⟨Nat.zero_le _, Nat.zero_le _⟩ ?_
  refine W.eq (g2 := F0 m 8 ls []) rfl ?_
  refine lv_iload_n hx hb d_D_weight_8 rfl (lv_at hl 3 rfl) ?_
  refine z_xS (As := [.int (iZ (c9))]) (rest := []) Z (x_D_needPart hl0 (a := c9) (by omega)) ⟨ml_D_112, sm_D_needPart, ini_D, co_D_needPart⟩ zd_D_needPart ⟨Nat.le_of_ble_eq_true rfl, Nat.le_of_ble_eq_true rfl⟩ hP hK hT hSt hl.1 rfl (Nat.le_of_ble_eq_true rfl) d_D_weight_9 ⟨Nat.le_of_ble_eq_true rfl, Nat.le_of_ble_eq_true rfl⟩ (fun q9 ce9 H9 hz9 hk9 hc9 hv9 hcl9 => ?_)
  exact z_xout Z htab hz9 hk9 hc9 hv9 hcl9

set_option maxHeartbeats 4000000 in
set_option maxRecDepth 100000 in
theorem x_D_reader1 {l : Launch} {D : va_G} (hl0 : l.stackTraces = false) {ad : Nat → Nat} {cI cZ cL : ClassId} {J : SJ} {rd : Nat → Int} {pr : Nat → Nat} {G : SH} {K : SK} {tl : va_W} (hI : JI J) {a b c9 : Int} (h : z32 a ∧ (a < 0 ∨ ((jn J : Nat) : Int) ≤ a)) : zMt l D (tysW cI cZ cL) y_D_reader w_D_reader 9 142 [.ref (ad 0), .int (iZ (a)), .int (iZ (b)), .int (iZ (c9))] (wdC ad cI cZ cL J rd pr G K tl) "java/lang/IndexOutOfBoundsException" := by
  refine z_ofX (by decide) (Nat.le_of_ble_eq_true rfl) ?_
  intro p e s m below meth c ls Z htab hP hK hT hSt hl
  obtain ⟨hx, hb, hr, hml, hown, hts, hE, hlocks⟩ := id Z
  have hl : lv_has ls 4 [(0, .ref (ad 0)), (1, .int (iZ (a))), (2, .int (iZ (b))), (3, .int (iZ (c9)))] := hl
  obtain ⟨hn32, hk2, hpr, hct⟩ := id hI
  refine lv_aload_n hx hb d_D_reader_0 rfl (lv_at hl 0 rfl) ?_
  refine lv_iload_n hx hb d_D_reader_1 rfl (lv_at hl 1 rfl) ?_
  refine z_xV (As := [.int (iZ (a))]) (rest := []) Z (x_D_needHaul hl0 (a := a) (by omega)) ⟨ml_D_61, im_D_needHaul, se_D_needHaul, ini_D, co_D_needHaul⟩ zd_D_needHaul ⟨Nat.le_of_ble_eq_true rfl, Nat.le_of_ble_eq_true rfl⟩ hP hK hT hSt (ci := 0) (q0 := 0) rfl rfl rfl hl.1 rfl (Nat.le_of_ble_eq_true rfl) d_D_reader_2 ⟨Nat.le_of_ble_eq_true rfl, Nat.le_of_ble_eq_true rfl⟩ (fun q9 ce9 H9 hz9 hk9 hc9 hv9 hcl9 => ?_)
  exact z_xout Z htab hz9 hk9 hc9 hv9 hcl9

set_option maxHeartbeats 4000000 in
set_option maxRecDepth 100000 in
theorem x_D_reader2 {l : Launch} {D : va_G} (hl0 : l.stackTraces = false) {ad : Nat → Nat} {cI cZ cL : ClassId} {J : SJ} {rd : Nat → Int} {pr : Nat → Nat} {G : SH} {K : SK} {tl : va_W} (hI : JI J) {h : Nat} {b c9 : Int} (hh : h < jn J) (h2 : z32 b ∧ (b < 0 ∨ 2 ≤ b)) : zMt l D (tysW cI cZ cL) y_D_reader w_D_reader 9 142 [.ref (ad 0), .int (iZ ((h : Nat) : Int)), .int (iZ (b)), .int (iZ (c9))] (wdC ad cI cZ cL J rd pr G K tl) "java/lang/IndexOutOfBoundsException" := by
  refine z_ofX (by decide) (Nat.le_of_ble_eq_true rfl) ?_
  intro p e s m below meth c ls Z htab hP hK hT hSt hl
  obtain ⟨hx, hb, hr, hml, hown, hts, hE, hlocks⟩ := id Z
  have hl : lv_has ls 4 [(0, .ref (ad 0)), (1, .int (iZ ((h : Nat) : Int))), (2, .int (iZ (b))), (3, .int (iZ (c9)))] := hl
  obtain ⟨hn32, hk2, hpr, hct⟩ := id hI
  refine lv_aload_n hx hb d_D_reader_0 rfl (lv_at hl 0 rfl) ?_
  refine lv_iload_n hx hb d_D_reader_1 rfl (lv_at hl 1 rfl) ?_
  refine z_callVR (As := [.int (iZ ((h : Nat) : Int))]) (rest := []) zTB Z (k_D_needHaul (a := ((h : Nat) : Int)) (by omega)) ⟨ml_D_61, im_D_needHaul, se_D_needHaul, ini_D, co_D_needHaul⟩ zd_D_needHaul ⟨Nat.le_of_ble_eq_true rfl, Nat.le_of_ble_eq_true rfl⟩ hP hK (ci := 0) (q0 := 0) rfl rfl rfl hl.1 rfl (Nat.le_of_ble_eq_true rfl) d_D_reader_2 ⟨Nat.zero_le _, Nat.zero_le _⟩ ?_
  refine W.eq (g2 := F0 m 5 ls []) rfl ?_
  refine lv_iload_n hx hb d_D_reader_5 rfl (lv_at hl 2 rfl) ?_
  refine lv_iconst (v := iZ ((2 : Nat) : Int)) hx hb d_D_reader_6 (by decide) ?_
  refine z_xS (As := [.int (iZ (b)), .int (iZ ((2 : Nat) : Int))]) (rest := []) Z (x_D_needIndex hl0 (a := b) (b := ((2 : Nat) : Int)) (by omega)) ⟨ml_D_86, sm_D_needIndex, ini_D, co_D_needIndex⟩ zd_D_needIndex ⟨Nat.le_of_ble_eq_true rfl, Nat.le_of_ble_eq_true rfl⟩ hP hK hT hSt hl.1 rfl (Nat.le_of_ble_eq_true rfl) d_D_reader_7 ⟨Nat.le_of_ble_eq_true rfl, Nat.le_of_ble_eq_true rfl⟩ (fun q9 ce9 H9 hz9 hk9 hc9 hv9 hcl9 => ?_)
  exact z_xout Z htab hz9 hk9 hc9 hv9 hcl9

set_option maxHeartbeats 4000000 in
set_option maxRecDepth 100000 in
theorem x_D_reader3 {l : Launch} {D : va_G} (hl0 : l.stackTraces = false) {ad : Nat → Nat} {cI cZ cL : ClassId} {J : SJ} {rd : Nat → Int} {pr : Nat → Nat} {G : SH} {K : SK} {tl : va_W} (hI : JI J) {h rr : Nat} {c9 : Int} (hh : h < jn J) (hrr : rr < 2) (h2 : z32 c9 ∧ (c9 < 0 ∨ 100000 < c9)) : zMt l D (tysW cI cZ cL) y_D_reader w_D_reader 9 142 [.ref (ad 0), .int (iZ ((h : Nat) : Int)), .int (iZ ((rr : Nat) : Int)), .int (iZ (c9))] (wdC ad cI cZ cL J rd pr G K tl) "java/lang/IllegalArgumentException" := by
  refine z_ofX (by decide) (Nat.le_of_ble_eq_true rfl) ?_
  intro p e s m below meth c ls Z htab hP hK hT hSt hl
  obtain ⟨hx, hb, hr, hml, hown, hts, hE, hlocks⟩ := id Z
  have hl : lv_has ls 4 [(0, .ref (ad 0)), (1, .int (iZ ((h : Nat) : Int))), (2, .int (iZ ((rr : Nat) : Int))), (3, .int (iZ (c9)))] := hl
  obtain ⟨hn32, hk2, hpr, hct⟩ := id hI
  refine lv_aload_n hx hb d_D_reader_0 rfl (lv_at hl 0 rfl) ?_
  refine lv_iload_n hx hb d_D_reader_1 rfl (lv_at hl 1 rfl) ?_
  refine z_callVR (As := [.int (iZ ((h : Nat) : Int))]) (rest := []) zTB Z (k_D_needHaul (a := ((h : Nat) : Int)) (by omega)) ⟨ml_D_61, im_D_needHaul, se_D_needHaul, ini_D, co_D_needHaul⟩ zd_D_needHaul ⟨Nat.le_of_ble_eq_true rfl, Nat.le_of_ble_eq_true rfl⟩ hP hK (ci := 0) (q0 := 0) rfl rfl rfl hl.1 rfl (Nat.le_of_ble_eq_true rfl) d_D_reader_2 ⟨Nat.zero_le _, Nat.zero_le _⟩ ?_
  refine W.eq (g2 := F0 m 5 ls []) rfl ?_
  refine lv_iload_n hx hb d_D_reader_5 rfl (lv_at hl 2 rfl) ?_
  refine lv_iconst (v := iZ ((2 : Nat) : Int)) hx hb d_D_reader_6 (by decide) ?_
  refine z_callSR (As := [.int (iZ ((rr : Nat) : Int)), .int (iZ ((2 : Nat) : Int))]) (rest := []) zTB Z (k_D_needIndex (a := ((rr : Nat) : Int)) (b := ((2 : Nat) : Int)) (by omega)) ⟨ml_D_86, sm_D_needIndex, ini_D, co_D_needIndex⟩ zd_D_needIndex ⟨Nat.le_of_ble_eq_true rfl, Nat.le_of_ble_eq_true rfl⟩ hP hK hl.1 rfl (Nat.le_of_ble_eq_true rfl) d_D_reader_7 ⟨Nat.zero_le _, Nat.zero_le _⟩ ?_
  refine W.eq (g2 := F0 m 10 ls []) rfl ?_
  refine lv_iload_n hx hb d_D_reader_10 rfl (lv_at hl 3 rfl) ?_
  refine lv_iconst (v := iZ ((0 : Nat) : Int)) hx hb d_D_reader_11 (by decide) ?_
  refine lv_ldc (v := iZ ((100000 : Nat) : Int)) hx hb hown (hts _ ck9_D_169) d_D_reader_12 ?_
  refine z_xS (As := [.int (iZ (c9)), .int (iZ ((0 : Nat) : Int)), .int (iZ ((100000 : Nat) : Int))]) (rest := []) Z (x_D_needNumber hl0 (a := c9) (b := ((0 : Nat) : Int)) (c9 := ((100000 : Nat) : Int)) (by omega)) ⟨ml_D_67, sm_D_needNumber, ini_D, co_D_needNumber⟩ zd_D_needNumber ⟨Nat.le_of_ble_eq_true rfl, Nat.le_of_ble_eq_true rfl⟩ hP hK hT hSt hl.1 rfl (Nat.le_of_ble_eq_true rfl) d_D_reader_14 ⟨Nat.le_of_ble_eq_true rfl, Nat.le_of_ble_eq_true rfl⟩ (fun q9 ce9 H9 hz9 hk9 hc9 hv9 hcl9 => ?_)
  exact z_xout Z htab hz9 hk9 hc9 hv9 hcl9

set_option maxHeartbeats 4000000 in
set_option maxRecDepth 100000 in
theorem x_D_unlike1 {l : Launch} {D : va_G} (hl0 : l.stackTraces = false) {ad : Nat → Nat} {cI cZ cL : ClassId} {J : SJ} {rd : Nat → Int} {pr : Nat → Nat} {G : SH} {K : SK} {tl : va_W} (hI : JI J) {a : Int} (h : z32 a ∧ (a < 0 ∨ ((jn J : Nat) : Int) < a)) : zMt l D (tysW cI cZ cL) y_D_unlike w_D_unlike 8 121 [.ref (ad 0), .int (iZ (a))] (wdC ad cI cZ cL J rd pr G K tl) "java/lang/IndexOutOfBoundsException" := by
  refine z_ofX (by decide) (Nat.le_of_ble_eq_true rfl) ?_
  intro p e s m below meth c ls Z htab hP hK hT hSt hl
  obtain ⟨hx, hb, hr, hml, hown, hts, hE, hlocks⟩ := id Z
  have hl : lv_has ls 3 [(0, .ref (ad 0)), (1, .int (iZ (a)))] := hl
  obtain ⟨hn32, hk2, hpr, hct⟩ := id hI
  refine lv_iload_n hx hb d_D_unlike_0 rfl (lv_at hl 1 rfl) ?_
  refine lv_aload_n hx hb d_D_unlike_1 rfl (lv_at hl 0 rfl) ?_
  refine va_get (D := D) (ci := 0) (v := .ref (ad 1)) (C := n_D) (T := f_D) (N := 5) hx hb hts in_D hown hK hP 0 rfl rfl 0 (by decide) (hts _ fl_D_14) (fun _ h9 => h9) rfl d_D_unlike_2 ?_
  refine va_getN (D := D) (ci := 1) (v := .int (iZ ((jn J : Nat) : Int))) (C := n_J) (T := f_J) (N := 10) hx hb hts in_J hown hK hP 1 rfl rfl 1 (by decide) (hts _ fl_D_46) (fun _ h9 => h9) rfl d_D_unlike_5 ?_
  refine lv_iconst (v := iZ ((1 : Nat) : Int)) hx hb d_D_unlike_8 (by decide) ?_
  refine z_iaddN (u := jn J) (v := 1) hx hb d_D_unlike_9 ?_
  refine z_xS (As := [.int (iZ (a)), .int (iZ (((jn J) + 1 : Nat) : Int))]) (rest := []) Z (x_D_needIndex hl0 (a := a) (b := (((jn J) + 1 : Nat) : Int)) (by omega)) ⟨ml_D_86, sm_D_needIndex, ini_D, co_D_needIndex⟩ zd_D_needIndex ⟨Nat.le_of_ble_eq_true rfl, Nat.le_of_ble_eq_true rfl⟩ hP hK hT hSt hl.1 rfl (Nat.le_of_ble_eq_true rfl) d_D_unlike_10 ⟨Nat.le_of_ble_eq_true rfl, Nat.le_of_ble_eq_true rfl⟩ (fun q9 ce9 H9 hz9 hk9 hc9 hv9 hcl9 => ?_)
  exact z_xout Z htab hz9 hk9 hc9 hv9 hcl9

set_option maxHeartbeats 4000000 in
set_option maxRecDepth 100000 in
theorem x_D_price1 {l : Launch} {D : va_G} (hl0 : l.stackTraces = false) {ad : Nat → Nat} {cI cZ cL : ClassId} {J : SJ} {rd : Nat → Int} {pr : Nat → Nat} {G : SH} {K : SK} {tl : va_W} (hI : JI J) {a b : Int} (h : z32 a ∧ (a < 0 ∨ 3 ≤ a)) : zMt l D (tysW cI cZ cL) y_D_price w_D_price 9 141 [.ref (ad 0), .int (iZ (a)), .int (iZ (b))] (wdC ad cI cZ cL J rd pr G K tl) "java/lang/IndexOutOfBoundsException" := by
  refine z_ofX (by decide) (Nat.le_of_ble_eq_true rfl) ?_
  intro p e s m below meth c ls Z htab hP hK hT hSt hl
  obtain ⟨hx, hb, hr, hml, hown, hts, hE, hlocks⟩ := id Z
  have hl : lv_has ls 3 [(0, .ref (ad 0)), (1, .int (iZ (a))), (2, .int (iZ (b)))] := hl
  obtain ⟨hn32, hk2, hpr, hct⟩ := id hI
  refine lv_iload_n hx hb d_D_price_0 rfl (lv_at hl 1 rfl) ?_
  refine z_xS (As := [.int (iZ (a))]) (rest := []) Z (x_D_needKind hl0 (a := a) (by omega)) ⟨ml_D_64, sm_D_needKind, ini_D, co_D_needKind⟩ zd_D_needKind ⟨Nat.le_of_ble_eq_true rfl, Nat.le_of_ble_eq_true rfl⟩ hP hK hT hSt hl.1 rfl (Nat.le_of_ble_eq_true rfl) d_D_price_1 ⟨Nat.le_of_ble_eq_true rfl, Nat.le_of_ble_eq_true rfl⟩ (fun q9 ce9 H9 hz9 hk9 hc9 hv9 hcl9 => ?_)
  exact z_xout Z htab hz9 hk9 hc9 hv9 hcl9

set_option maxHeartbeats 4000000 in
set_option maxRecDepth 100000 in
theorem x_D_price2 {l : Launch} {D : va_G} (hl0 : l.stackTraces = false) {ad : Nat → Nat} {cI cZ cL : ClassId} {J : SJ} {rd : Nat → Int} {pr : Nat → Nat} {G : SH} {K : SK} {tl : va_W} (hI : JI J) {kd : Nat} {b : Int} (hkd : kd < 3) (h : z32 b ∧ (b < 0 ∨ 100000 < b)) : zMt l D (tysW cI cZ cL) y_D_price w_D_price 9 141 [.ref (ad 0), .int (iZ ((kd : Nat) : Int)), .int (iZ (b))] (wdC ad cI cZ cL J rd pr G K tl) "java/lang/IllegalArgumentException" := by
  refine z_ofX (by decide) (Nat.le_of_ble_eq_true rfl) ?_
  intro p e s m below meth c ls Z htab hP hK hT hSt hl
  obtain ⟨hx, hb, hr, hml, hown, hts, hE, hlocks⟩ := id Z
  have hl : lv_has ls 3 [(0, .ref (ad 0)), (1, .int (iZ ((kd : Nat) : Int))), (2, .int (iZ (b)))] := hl
  obtain ⟨hn32, hk2, hpr, hct⟩ := id hI
  refine lv_iload_n hx hb d_D_price_0 rfl (lv_at hl 1 rfl) ?_
  refine z_callSR (As := [.int (iZ ((kd : Nat) : Int))]) (rest := []) zTB Z (k_D_needKind (a := ((kd : Nat) : Int)) (by omega)) ⟨ml_D_64, sm_D_needKind, ini_D, co_D_needKind⟩ zd_D_needKind ⟨Nat.le_of_ble_eq_true rfl, Nat.le_of_ble_eq_true rfl⟩ hP hK hl.1 rfl (Nat.le_of_ble_eq_true rfl) d_D_price_1 ⟨Nat.zero_le _, Nat.zero_le _⟩ ?_
  refine W.eq (g2 := F0 m 4 ls []) rfl ?_
  refine lv_iload_n hx hb d_D_price_4 rfl (lv_at hl 2 rfl) ?_
  refine lv_iconst (v := iZ ((0 : Nat) : Int)) hx hb d_D_price_5 (by decide) ?_
  refine lv_ldc (v := iZ ((100000 : Nat) : Int)) hx hb hown (hts _ ck9_D_169) d_D_price_6 ?_
  refine z_xS (As := [.int (iZ (b)), .int (iZ ((0 : Nat) : Int)), .int (iZ ((100000 : Nat) : Int))]) (rest := []) Z (x_D_needNumber hl0 (a := b) (b := ((0 : Nat) : Int)) (c9 := ((100000 : Nat) : Int)) (by omega)) ⟨ml_D_67, sm_D_needNumber, ini_D, co_D_needNumber⟩ zd_D_needNumber ⟨Nat.le_of_ble_eq_true rfl, Nat.le_of_ble_eq_true rfl⟩ hP hK hT hSt hl.1 rfl (Nat.le_of_ble_eq_true rfl) d_D_price_8 ⟨Nat.le_of_ble_eq_true rfl, Nat.le_of_ble_eq_true rfl⟩ (fun q9 ce9 H9 hz9 hk9 hc9 hv9 hcl9 => ?_)
  exact z_xout Z htab hz9 hk9 hc9 hv9 hcl9
end
section
/-! The writing methods. -/
section ZLR
variable {p : Program} {l : Launch} {e : Env} {R : Room} {s : State} {m : MethodId} {args : Array Value} {below : List Frame} {meth : Method} {c : Code} {H : Heap} {locs : List Loc} {cells slots : Nat} {Q : State → Prop}
variable {cc : ByteArray} {pc : Nat} {ls : Array Slot} {rest : List Value}
theorem z_lcmpR_eq (hx : p.tables.exec = Jvm.exec) (hb : c.code = cc) {x y : Int64} {off : Int} {tgt pc1 pc4 : Nat} (hdg : decode cc pc = .ok (.lcmp, 1)) (h1 : pc1 = pc + 1) (h4 : pc4 = pc + 4) (hdg2 : decode cc pc1 = .ok (.ifCond .eq off, 3)) (ht : (pc1 : Int) + off = (tgt : Int)) (kt : x = y → W p l e R s m args below meth c H locs cells slots Q (F0 m tgt ls rest)) (kf : ¬ x = y → W p l e R s m args below meth c H locs cells slots Q (F0 m pc4 ls rest)) : W p l e R s m args below meth c H locs cells slots Q (F0 m pc ls (.long y :: .long x :: rest)) := by
  subst h1; subst h4
  exact W.lcmp hx hb hdg (lv_if_eq hx hb hdg2 ht (fun q => kt ((lg_cmp_eq _ _).mp q)) (fun q => kf (fun h => q ((lg_cmp_eq _ _).mpr h))))
theorem z_lcmpR_ne (hx : p.tables.exec = Jvm.exec) (hb : c.code = cc) {x y : Int64} {off : Int} {tgt pc1 pc4 : Nat} (hdg : decode cc pc = .ok (.lcmp, 1)) (h1 : pc1 = pc + 1) (h4 : pc4 = pc + 4) (hdg2 : decode cc pc1 = .ok (.ifCond .ne off, 3)) (ht : (pc1 : Int) + off = (tgt : Int)) (kt : ¬ x = y → W p l e R s m args below meth c H locs cells slots Q (F0 m tgt ls rest)) (kf : x = y → W p l e R s m args below meth c H locs cells slots Q (F0 m pc4 ls rest)) : W p l e R s m args below meth c H locs cells slots Q (F0 m pc ls (.long y :: .long x :: rest)) := by
  subst h1; subst h4
  exact W.lcmp hx hb hdg (lv_if_ne hx hb hdg2 ht (fun q => kt (fun h => q ((lg_cmp_eq _ _).mpr h))) (fun q => kf ((lg_cmp_eq _ _).mp q)))
end ZLR
theorem wdC_map {ad : Nat → Nat} {cI cZ cL : ClassId} {J J' : SJ} {rd rd' : Nat → Int} {pr pr' : Nat → Nat} {G G' : SH} {K K' : SK} {tl : va_W} : (wdC ad cI cZ cL J rd pr G K tl).map (·.1) = (wdC ad cI cZ cL J' rd' pr' G' K' tl).map (·.1) := rfl
/-- the next state of the draw, and its bit -/
def sDr (x : Int64) : Int64 := x * 6364136223846793005 + 1442695040888963407
def sBt (x : Int64) : Bool := x.toBitVec.getLsbD 40
theorem sBt_l (x : Int64) : ((x.toUInt64 >>> ((iZ ((40 : Nat) : Int)).toInt64.toUInt64 &&& Int64.toUInt64 63)).toInt64 &&& lZ ((1 : Nat) : Int)) = lZ ((1 : Nat) : Int) ↔ sBt x = true := by
  unfold sBt
  rw [← Int64.toBitVec_inj]
  have e1 : ((x.toUInt64 >>> ((iZ ((40 : Nat) : Int)).toInt64.toUInt64 &&& Int64.toUInt64 63)).toInt64 &&& lZ ((1 : Nat) : Int)).toBitVec = (x.toBitVec >>> 40) &&& 1#64 := rfl
  have e2 : (lZ ((1 : Nat) : Int)).toBitVec = 1#64 := rfl
  rw [e1, e2]
  generalize x.toBitVec = v
  constructor
  · intro h
    have h3 := congrArg (fun w : BitVec 64 => w.getLsbD 0) h
    simpa using h3
  · intro h
    apply BitVec.eq_of_getLsbD_eq
    intro i hi
    cases i with
    | zero => simpa using h
    | succ i => simp [BitVec.getLsbD_one]
def sAP (J : SJ) (f se sh : Nat) : SJ := (jx J, jn J, jk J + 1, jop J, jou J, jdv J, jct J, nu (jdh J) (jk J) (if jdv J f = true then f else se), nu (jph J) (jk J) (if jdv J f = true then se else f), nu (jsp J) (jk J) sh)
def sH1 (J : SJ) (sh : Nat) : SJ := (sDr (jx J), jn J + 1, jk J, zu (jop J) sh ((jn J : Nat) : Int), jou J, zub (jdv J) (jn J) (sBt (sDr (jx J))), jct J, jdh J, jph J, jsp J)
def sH2 (J : SJ) (sh f : Nat) : SJ := sAP (jx J, jn J + 1, jk J, zu (jop J) sh (-1), jou J, zub (jdv J) (jn J) (!(jdv J f)), jct J, jdh J, jph J, jsp J) f (jn J) sh
def sPC9 (J : SJ) (j v : Nat) : SJ := (jx J, jn J, jk J, jop J, jou J, jdv J, nu (jct J) j v, jdh J, jph J, jsp J)
def sLO (J : SJ) (sh : Nat) (on : Bool) : SJ := (jx J, jn J, jk J, jop J, zub (jou J) sh on, jdv J, jct J, jdh J, jph J, jsp J)
theorem bI_eq {a b : Bool} (h : bI a = bI b) : (a != b) = false := by
  cases a <;> cases b <;> first | rfl | (exact absurd h (by decide))
theorem bI_ne {a b : Bool} (h : ¬ bI a = bI b) : (a != b) = true := by
  cases a <;> cases b <;> first | rfl | (exact absurd rfl h)
set_option maxHeartbeats 4000000 in
set_option maxRecDepth 100000 in
theorem k_J_drawArm {l : Launch} {D : va_G} {ad : Nat → Nat} {cI cZ cL : ClassId} {J : SJ} {rd : Nat → Int} {pr : Nat → Nat} {G : SH} {K : SK} {tl : va_W} : zMi l TB D classes (tysW cI cZ cL) y_J_drawArm w_J_drawArm 0 0 [.ref (ad 1)] (wdC ad cI cZ cL J rd pr G K tl) (fun r w => r = bI (sBt (sDr (jx J))) ∧ w = wdC ad cI cZ cL (sDr (jx J), jn J, jk J, jop J, jou J, jdv J, jct J, jdh J, jph J, jsp J) rd pr G K tl) := by
  refine z_of (Qc := fun A => va_Qi (fun r w => r = bI (sBt (sDr (jx J))) ∧ w = wdC ad cI cZ cL (sDr (jx J), jn J, jk J, jop J, jou J, jdv J, jct J, jdh J, jph J, jsp J) rd pr G K tl) (zB9 D classes (wdC ad cI cZ cL J rd pr G K tl)) A) (by decide) (Nat.le_of_ble_eq_true rfl) ?_
  intro p e s m below meth c A ls Z hP hK hD hS hA hl
  obtain ⟨hx, hb, hr, hml, hown, hts, hE, hlocks⟩ := id Z
  have hl : lv_has ls 1 [(0, .ref (ad 1))] := hl
  suffices K9 : ∀ (H : Heap) (locs : List Loc) (ls : Array Slot), va_P D classes (wdC ad cI cZ cL J rd pr G K tl) H → va_D A (wdC ad cI cZ cL J rd pr G K tl) → va_S A s.heap H locs → lv_has ls 1 [(0, .ref (ad 1))] → W p l e (zRm 0 0) s m ([.ref (ad 1)] : List Value).toArray below meth c H locs 0 0 (MQ below (va_Qi (fun r w => r = bI (sBt (sDr (jx J))) ∧ w = wdC ad cI cZ cL (sDr (jx J), jn J, jk J, jop J, jou J, jdv J, jct J, jdh J, jph J, jsp J) rd pr G K tl) (zB9 D classes (wdC ad cI cZ cL J rd pr G K tl)) A) ([.ref (ad 1)] : List Value).toArray s 0 0 A) (F0 m 0 ls []) from K9 s.heap [] ls hP hD hS hl
  clear hP hD hS hl
  intro H locs ls hP hD hS hl
  refine lv_aload_n hx hb d_J_drawArm_0 rfl (lv_at hl 0 rfl) ?_
  refine lv_aload_n hx hb d_J_drawArm_1 rfl (lv_at hl 0 rfl) ?_
  refine va_get (D := D) (ci := 1) (v := .long (jx J)) (C := n_J) (T := f_J) (N := 10) hx hb hts in_J hown hK hP 1 rfl rfl 0 (by decide) (hts _ fl_J_9) (fun _ h9 => h9) rfl d_J_drawArm_2 ?_
  refine lv_ldc2 (v := (6364136223846793005 : Int64)) hx hb hown (hts _ ck9_J_53) d_J_drawArm_5 ?_
  refine lv_lmul hx hb d_J_drawArm_8 ?_
  refine lv_ldc2 (v := (1442695040888963407 : Int64)) hx hb hown (hts _ ck9_J_55) d_J_drawArm_9 ?_
  refine lv_ladd hx hb d_J_drawArm_12 ?_
  refine va_put (D := D) (ci := 1) (v := .long (((jx J) * (6364136223846793005 : Int64)) + (1442695040888963407 : Int64))) (ty := .long) (C := n_J) (T := f_J) (N := 10) hx hb hts in_J ty_J tyo_J nm_J hown hK hP hD hS 1 rfl rfl 0 (by decide) (hts _ fl_J_9) (fun _ h9 => h9) rfl (by decide +kernel) rfl rfl (Nat.le_of_ble_eq_true rfl) d_J_drawArm_13 (fun H locs hP hD hS => ?_)
  have hP : va_P D classes (wdC ad cI cZ cL ((((jx J) * (6364136223846793005 : Int64)) + (1442695040888963407 : Int64)), jn J, jk J, jop J, jou J, jdv J, jct J, jdh J, jph J, jsp J) rd pr G K tl) H := hP
  have hD : va_D A (wdC ad cI cZ cL ((((jx J) * (6364136223846793005 : Int64)) + (1442695040888963407 : Int64)), jn J, jk J, jop J, jou J, jdv J, jct J, jdh J, jph J, jsp J) rd pr G K tl) := hD
  refine lv_aload_n hx hb d_J_drawArm_16 rfl (lv_at hl 0 rfl) ?_
  refine va_get (D := D) (ci := 1) (v := .long ((((jx J) * (6364136223846793005 : Int64)) + (1442695040888963407 : Int64)))) (C := n_J) (T := f_J) (N := 10) hx hb hts in_J hown hK hP 1 rfl rfl 0 (by decide) (hts _ fl_J_9) (fun _ h9 => h9) rfl d_J_drawArm_17 ?_
  refine lv_bipush (v := iZ ((40 : Nat) : Int)) hx hb d_J_drawArm_20 (by decide) ?_
  refine lv_lushr (v := (((((jx J) * (6364136223846793005 : Int64)) + (1442695040888963407 : Int64))).toUInt64 >>> ((iZ ((40 : Nat) : Int)).toInt64.toUInt64 &&& Int64.toUInt64 63)).toInt64) hx hb d_J_drawArm_22 rfl ?_
  refine lv_lconst (v := lZ ((1 : Nat) : Int)) hx hb d_J_drawArm_23 (by decide) ?_
  refine lv_land hx hb d_J_drawArm_24 ?_
  refine lv_lconst (v := lZ ((1 : Nat) : Int)) hx hb d_J_drawArm_25 (by decide) ?_
  refine z_lcmpR_ne (tgt := 34) (pc1 := 27) (pc4 := 30) hx hb d_J_drawArm_26 rfl rfl d_J_drawArm_27 (by decide) (fun q26 => ?_) (fun q26 => ?_)
  · skip
    refine lv_iconst (v := iZ ((0 : Nat) : Int)) hx hb d_J_drawArm_34 (by decide) ?_
    refine W.eq (g2 := F0 m 35 ls [.int (bI false)]) rfl ?_
    exact z_zret Z hP hS d_J_drawArm_35 wdC_map (⟨by first | rw [show sBt (sDr (jx J)) = true from (sBt_l _).mp q26] | rw [show sBt (sDr (jx J)) = false from Bool.eq_false_iff.mpr (fun z => q26 ((sBt_l _).mpr z))], rfl⟩)
  · skip
    refine lv_iconst (v := iZ ((1 : Nat) : Int)) hx hb d_J_drawArm_30 (by decide) ?_
    refine lv_goto (tgt := 35) hx hb d_J_drawArm_31 (by decide) ?_
    refine W.eq (g2 := F0 m 35 ls [.int (bI true)]) rfl ?_
    exact z_zret Z hP hS d_J_drawArm_35 wdC_map (⟨by first | rw [show sBt (sDr (jx J)) = true from (sBt_l _).mp q26] | rw [show sBt (sDr (jx J)) = false from Bool.eq_false_iff.mpr (fun z => q26 ((sBt_l _).mpr z))], rfl⟩)

set_option maxHeartbeats 4000000 in
set_option maxRecDepth 100000 in
theorem k_J_addPair {l : Launch} {D : va_G} {ad : Nat → Nat} {cI cZ cL : ClassId} {J : SJ} {rd : Nat → Int} {pr : Nat → Nat} {G : SH} {K : SK} {tl : va_W} {f se sh : Nat} (hf : f < 32 ∧ se < 32 ∧ sh < 4 ∧ jk J < 16) : zMv l TB D classes (tysW cI cZ cL) y_J_addPair w_J_addPair 0 0 [.ref (ad 1), .int (iZ ((f : Nat) : Int)), .int (iZ ((se : Nat) : Int)), .int (iZ ((sh : Nat) : Int))] (wdC ad cI cZ cL J rd pr G K tl) (fun w => w = wdC ad cI cZ cL (sAP J f se sh) rd pr G K tl) := by
  refine z_of (Qc := fun A => va_Qv (fun w => w = wdC ad cI cZ cL (sAP J f se sh) rd pr G K tl) (zB9 D classes (wdC ad cI cZ cL J rd pr G K tl)) A) (by decide) (Nat.le_of_ble_eq_true rfl) ?_
  intro p e s m below meth c A ls Z hP hK hD hS hA hl
  obtain ⟨hx, hb, hr, hml, hown, hts, hE, hlocks⟩ := id Z
  have hl : lv_has ls 5 [(0, .ref (ad 1)), (1, .int (iZ ((f : Nat) : Int))), (2, .int (iZ ((se : Nat) : Int))), (3, .int (iZ ((sh : Nat) : Int)))] := hl
  suffices K9 : ∀ (H : Heap) (locs : List Loc) (ls : Array Slot), va_P D classes (wdC ad cI cZ cL J rd pr G K tl) H → va_D A (wdC ad cI cZ cL J rd pr G K tl) → va_S A s.heap H locs → lv_has ls 5 [(0, .ref (ad 1)), (1, .int (iZ ((f : Nat) : Int))), (2, .int (iZ ((se : Nat) : Int))), (3, .int (iZ ((sh : Nat) : Int)))] → W p l e (zRm 0 0) s m ([.ref (ad 1), .int (iZ ((f : Nat) : Int)), .int (iZ ((se : Nat) : Int)), .int (iZ ((sh : Nat) : Int))] : List Value).toArray below meth c H locs 0 0 (MQ below (va_Qv (fun w => w = wdC ad cI cZ cL (sAP J f se sh) rd pr G K tl) (zB9 D classes (wdC ad cI cZ cL J rd pr G K tl)) A) ([.ref (ad 1), .int (iZ ((f : Nat) : Int)), .int (iZ ((se : Nat) : Int)), .int (iZ ((sh : Nat) : Int))] : List Value).toArray s 0 0 A) (F0 m 0 ls []) from K9 s.heap [] ls hP hD hS hl
  clear hP hD hS hl
  intro H locs ls hP hD hS hl
  refine lv_aload_n hx hb d_J_addPair_0 rfl (lv_at hl 0 rfl) ?_
  refine va_get (D := D) (ci := 1) (v := .ref (ad 4)) (C := n_J) (T := f_J) (N := 10) hx hb hts in_J hown hK hP 1 rfl rfl 5 (by decide) (hts _ fl_J_30) (fun _ h9 => h9) rfl d_J_addPair_1 ?_
  refine lv_iload_n hx hb d_J_addPair_4 rfl (lv_at hl 1 rfl) ?_
  refine z_zald (f := jdv J) hx hb hK hP 4 1 rfl rfl (f) (by omega) d_J_addPair_5 ?_
  refine lv_istore (lv' := [(4, .int (bI ((jdv J) (f)))), (0, .ref (ad 1)), (1, .int (iZ ((f : Nat) : Int))), (2, .int (iZ ((se : Nat) : Int))), (3, .int (iZ ((sh : Nat) : Int)))]) hx hb d_J_addPair_6 hl (by decide) rfl (fun ls hl => ?_)
  refine lv_aload_n hx hb d_J_addPair_8 rfl (lv_at hl 1 rfl) ?_
  refine va_get (D := D) (ci := 1) (v := .ref (ad 6)) (C := n_J) (T := f_J) (N := 10) hx hb hts in_J hown hK hP 1 rfl rfl 7 (by decide) (hts _ fl_J_36) (fun _ h9 => h9) rfl d_J_addPair_9 ?_
  refine lv_aload_n hx hb d_J_addPair_12 rfl (lv_at hl 1 rfl) ?_
  refine va_get (D := D) (ci := 1) (v := .int (iZ ((jk J : Nat) : Int))) (C := n_J) (T := f_J) (N := 10) hx hb hts in_J hown hK hP 1 rfl rfl 2 (by decide) (hts _ fl_J_19) (fun _ h9 => h9) rfl d_J_addPair_13 ?_
  refine lv_iload hx hb d_J_addPair_16 (lv_at hl 0 rfl) ?_
  refine z_if_eqB (b := (jdv J) (f)) (tgt := 25) hx hb d_J_addPair_18 (by decide) (fun q18 => ?_) (fun q18 => ?_)
  · skip
    refine lv_iload_n hx hb d_J_addPair_25 rfl (lv_at hl 3 rfl) ?_
    refine z_iastN (f := jdh J) (v := se) hx hb hK hP hD hS 6 0 rfl rfl (jk J) (by omega) d_J_addPair_26 (fun H locs hP hD hS => ?_)
    have hP : va_P D classes (wdC ad cI cZ cL (jx J, jn J, jk J, jop J, jou J, jdv J, jct J, (nu (jdh J) (jk J) se), jph J, jsp J) rd pr G K tl) H := hP
    have hD : va_D A (wdC ad cI cZ cL (jx J, jn J, jk J, jop J, jou J, jdv J, jct J, (nu (jdh J) (jk J) se), jph J, jsp J) rd pr G K tl) := hD
    refine lv_aload_n hx hb d_J_addPair_27 rfl (lv_at hl 1 rfl) ?_
    refine va_get (D := D) (ci := 1) (v := .ref (ad 7)) (C := n_J) (T := f_J) (N := 10) hx hb hts in_J hown hK hP 1 rfl rfl 8 (by decide) (hts _ fl_J_39) (fun _ h9 => h9) rfl d_J_addPair_28 ?_
    refine lv_aload_n hx hb d_J_addPair_31 rfl (lv_at hl 1 rfl) ?_
    refine va_get (D := D) (ci := 1) (v := .int (iZ ((jk J : Nat) : Int))) (C := n_J) (T := f_J) (N := 10) hx hb hts in_J hown hK hP 1 rfl rfl 2 (by decide) (hts _ fl_J_19) (fun _ h9 => h9) rfl d_J_addPair_32 ?_
    refine lv_iload hx hb d_J_addPair_35 (lv_at hl 0 rfl) ?_
    refine z_if_eqB (b := (jdv J) (f)) (tgt := 44) hx hb d_J_addPair_37 (by decide) (fun q37 => ?_) (fun q37 => ?_)
    · skip
      refine lv_iload_n hx hb d_J_addPair_44 rfl (lv_at hl 2 rfl) ?_
      refine z_iastN (f := jph J) (v := f) hx hb hK hP hD hS 7 0 rfl rfl (jk J) (by omega) d_J_addPair_45 (fun H locs hP hD hS => ?_)
      have hP : va_P D classes (wdC ad cI cZ cL (jx J, jn J, jk J, jop J, jou J, jdv J, jct J, (nu (jdh J) (jk J) se), (nu (jph J) (jk J) f), jsp J) rd pr G K tl) H := hP
      have hD : va_D A (wdC ad cI cZ cL (jx J, jn J, jk J, jop J, jou J, jdv J, jct J, (nu (jdh J) (jk J) se), (nu (jph J) (jk J) f), jsp J) rd pr G K tl) := hD
      refine lv_aload_n hx hb d_J_addPair_46 rfl (lv_at hl 1 rfl) ?_
      refine va_get (D := D) (ci := 1) (v := .ref (ad 8)) (C := n_J) (T := f_J) (N := 10) hx hb hts in_J hown hK hP 1 rfl rfl 9 (by decide) (hts _ fl_J_42) (fun _ h9 => h9) rfl d_J_addPair_47 ?_
      refine lv_aload_n hx hb d_J_addPair_50 rfl (lv_at hl 1 rfl) ?_
      refine va_get (D := D) (ci := 1) (v := .int (iZ ((jk J : Nat) : Int))) (C := n_J) (T := f_J) (N := 10) hx hb hts in_J hown hK hP 1 rfl rfl 2 (by decide) (hts _ fl_J_19) (fun _ h9 => h9) rfl d_J_addPair_51 ?_
      refine lv_iload_n hx hb d_J_addPair_54 rfl (lv_at hl 4 rfl) ?_
      refine z_iastN (f := jsp J) (v := sh) hx hb hK hP hD hS 8 0 rfl rfl (jk J) (by omega) d_J_addPair_55 (fun H locs hP hD hS => ?_)
      have hP : va_P D classes (wdC ad cI cZ cL (jx J, jn J, jk J, jop J, jou J, jdv J, jct J, (nu (jdh J) (jk J) se), (nu (jph J) (jk J) f), (nu (jsp J) (jk J) sh)) rd pr G K tl) H := hP
      have hD : va_D A (wdC ad cI cZ cL (jx J, jn J, jk J, jop J, jou J, jdv J, jct J, (nu (jdh J) (jk J) se), (nu (jph J) (jk J) f), (nu (jsp J) (jk J) sh)) rd pr G K tl) := hD
      refine lv_aload_n hx hb d_J_addPair_56 rfl (lv_at hl 1 rfl) ?_
      refine lv_dup hx hb d_J_addPair_57 rfl ?_
      refine va_get (D := D) (ci := 1) (v := .int (iZ ((jk J : Nat) : Int))) (C := n_J) (T := f_J) (N := 10) hx hb hts in_J hown hK hP 1 rfl rfl 2 (by decide) (hts _ fl_J_19) (fun _ h9 => h9) rfl d_J_addPair_58 ?_
      refine lv_iconst (v := iZ ((1 : Nat) : Int)) hx hb d_J_addPair_61 (by decide) ?_
      refine z_iaddN (u := jk J) (v := 1) hx hb d_J_addPair_62 ?_
      refine va_put (D := D) (ci := 1) (v := .int (iZ (((jk J) + 1 : Nat) : Int))) (ty := .int) (C := n_J) (T := f_J) (N := 10) hx hb hts in_J ty_J tyo_J nm_J hown hK hP hD hS 1 rfl rfl 2 (by decide) (hts _ fl_J_19) (fun _ h9 => h9) rfl (by decide +kernel) rfl rfl (Nat.le_of_ble_eq_true rfl) d_J_addPair_63 (fun H locs hP hD hS => ?_)
      have hP : va_P D classes (wdC ad cI cZ cL (jx J, jn J, ((jk J) + 1), jop J, jou J, jdv J, jct J, (nu (jdh J) (jk J) se), (nu (jph J) (jk J) f), (nu (jsp J) (jk J) sh)) rd pr G K tl) H := hP
      have hD : va_D A (wdC ad cI cZ cL (jx J, jn J, ((jk J) + 1), jop J, jou J, jdv J, jct J, (nu (jdh J) (jk J) se), (nu (jph J) (jk J) f), (nu (jsp J) (jk J) sh)) rd pr G K tl) := hD
      exact z_vret Z hP hS d_J_addPair_66 wdC_map (by unfold sAP; rw [q18]; rfl)
    · skip
      exact absurd (q18.symm.trans q37) (by decide)
  · skip
    refine lv_iload_n hx hb d_J_addPair_21 rfl (lv_at hl 2 rfl) ?_
    refine lv_goto (tgt := 26) hx hb d_J_addPair_22 (by decide) ?_
    refine z_iastN (f := jdh J) (v := f) hx hb hK hP hD hS 6 0 rfl rfl (jk J) (by omega) d_J_addPair_26 (fun H locs hP hD hS => ?_)
    have hP : va_P D classes (wdC ad cI cZ cL (jx J, jn J, jk J, jop J, jou J, jdv J, jct J, (nu (jdh J) (jk J) f), jph J, jsp J) rd pr G K tl) H := hP
    have hD : va_D A (wdC ad cI cZ cL (jx J, jn J, jk J, jop J, jou J, jdv J, jct J, (nu (jdh J) (jk J) f), jph J, jsp J) rd pr G K tl) := hD
    refine lv_aload_n hx hb d_J_addPair_27 rfl (lv_at hl 1 rfl) ?_
    refine va_get (D := D) (ci := 1) (v := .ref (ad 7)) (C := n_J) (T := f_J) (N := 10) hx hb hts in_J hown hK hP 1 rfl rfl 8 (by decide) (hts _ fl_J_39) (fun _ h9 => h9) rfl d_J_addPair_28 ?_
    refine lv_aload_n hx hb d_J_addPair_31 rfl (lv_at hl 1 rfl) ?_
    refine va_get (D := D) (ci := 1) (v := .int (iZ ((jk J : Nat) : Int))) (C := n_J) (T := f_J) (N := 10) hx hb hts in_J hown hK hP 1 rfl rfl 2 (by decide) (hts _ fl_J_19) (fun _ h9 => h9) rfl d_J_addPair_32 ?_
    refine lv_iload hx hb d_J_addPair_35 (lv_at hl 0 rfl) ?_
    refine z_if_eqB (b := (jdv J) (f)) (tgt := 44) hx hb d_J_addPair_37 (by decide) (fun q37 => ?_) (fun q37 => ?_)
    · skip
      exact absurd (q18.symm.trans q37) (by decide)
    · skip
      refine lv_iload_n hx hb d_J_addPair_40 rfl (lv_at hl 3 rfl) ?_
      refine lv_goto (tgt := 45) hx hb d_J_addPair_41 (by decide) ?_
      refine z_iastN (f := jph J) (v := se) hx hb hK hP hD hS 7 0 rfl rfl (jk J) (by omega) d_J_addPair_45 (fun H locs hP hD hS => ?_)
      have hP : va_P D classes (wdC ad cI cZ cL (jx J, jn J, jk J, jop J, jou J, jdv J, jct J, (nu (jdh J) (jk J) f), (nu (jph J) (jk J) se), jsp J) rd pr G K tl) H := hP
      have hD : va_D A (wdC ad cI cZ cL (jx J, jn J, jk J, jop J, jou J, jdv J, jct J, (nu (jdh J) (jk J) f), (nu (jph J) (jk J) se), jsp J) rd pr G K tl) := hD
      refine lv_aload_n hx hb d_J_addPair_46 rfl (lv_at hl 1 rfl) ?_
      refine va_get (D := D) (ci := 1) (v := .ref (ad 8)) (C := n_J) (T := f_J) (N := 10) hx hb hts in_J hown hK hP 1 rfl rfl 9 (by decide) (hts _ fl_J_42) (fun _ h9 => h9) rfl d_J_addPair_47 ?_
      refine lv_aload_n hx hb d_J_addPair_50 rfl (lv_at hl 1 rfl) ?_
      refine va_get (D := D) (ci := 1) (v := .int (iZ ((jk J : Nat) : Int))) (C := n_J) (T := f_J) (N := 10) hx hb hts in_J hown hK hP 1 rfl rfl 2 (by decide) (hts _ fl_J_19) (fun _ h9 => h9) rfl d_J_addPair_51 ?_
      refine lv_iload_n hx hb d_J_addPair_54 rfl (lv_at hl 4 rfl) ?_
      refine z_iastN (f := jsp J) (v := sh) hx hb hK hP hD hS 8 0 rfl rfl (jk J) (by omega) d_J_addPair_55 (fun H locs hP hD hS => ?_)
      have hP : va_P D classes (wdC ad cI cZ cL (jx J, jn J, jk J, jop J, jou J, jdv J, jct J, (nu (jdh J) (jk J) f), (nu (jph J) (jk J) se), (nu (jsp J) (jk J) sh)) rd pr G K tl) H := hP
      have hD : va_D A (wdC ad cI cZ cL (jx J, jn J, jk J, jop J, jou J, jdv J, jct J, (nu (jdh J) (jk J) f), (nu (jph J) (jk J) se), (nu (jsp J) (jk J) sh)) rd pr G K tl) := hD
      refine lv_aload_n hx hb d_J_addPair_56 rfl (lv_at hl 1 rfl) ?_
      refine lv_dup hx hb d_J_addPair_57 rfl ?_
      refine va_get (D := D) (ci := 1) (v := .int (iZ ((jk J : Nat) : Int))) (C := n_J) (T := f_J) (N := 10) hx hb hts in_J hown hK hP 1 rfl rfl 2 (by decide) (hts _ fl_J_19) (fun _ h9 => h9) rfl d_J_addPair_58 ?_
      refine lv_iconst (v := iZ ((1 : Nat) : Int)) hx hb d_J_addPair_61 (by decide) ?_
      refine z_iaddN (u := jk J) (v := 1) hx hb d_J_addPair_62 ?_
      refine va_put (D := D) (ci := 1) (v := .int (iZ (((jk J) + 1 : Nat) : Int))) (ty := .int) (C := n_J) (T := f_J) (N := 10) hx hb hts in_J ty_J tyo_J nm_J hown hK hP hD hS 1 rfl rfl 2 (by decide) (hts _ fl_J_19) (fun _ h9 => h9) rfl (by decide +kernel) rfl rfl (Nat.le_of_ble_eq_true rfl) d_J_addPair_63 (fun H locs hP hD hS => ?_)
      have hP : va_P D classes (wdC ad cI cZ cL (jx J, jn J, ((jk J) + 1), jop J, jou J, jdv J, jct J, (nu (jdh J) (jk J) f), (nu (jph J) (jk J) se), (nu (jsp J) (jk J) sh)) rd pr G K tl) H := hP
      have hD : va_D A (wdC ad cI cZ cL (jx J, jn J, ((jk J) + 1), jop J, jou J, jdv J, jct J, (nu (jdh J) (jk J) f), (nu (jph J) (jk J) se), (nu (jsp J) (jk J) sh)) rd pr G K tl) := hD
      exact z_vret Z hP hS d_J_addPair_66 wdC_map (by unfold sAP; rw [q18]; rfl)

set_option maxHeartbeats 4000000 in
set_option maxRecDepth 100000 in
theorem k_J_addHaul1 {l : Launch} {D : va_G} {ad : Nat → Nat} {cI cZ cL : ClassId} {J : SJ} {rd : Nat → Int} {pr : Nat → Nat} {G : SH} {K : SK} {tl : va_W} {sh : Nat} (hsh : sh < 4) (hn : jn J < 32) (hop : jop J sh = -1) : zMi l TB D classes (tysW cI cZ cL) y_J_addHaul w_J_addHaul 1 24 [.ref (ad 1), .int (iZ ((sh : Nat) : Int))] (wdC ad cI cZ cL J rd pr G K tl) (fun r w => r = iZ ((jn J : Nat) : Int) ∧ w = wdC ad cI cZ cL (sH1 J sh) rd pr G K tl) := by
  refine z_of (Qc := fun A => va_Qi (fun r w => r = iZ ((jn J : Nat) : Int) ∧ w = wdC ad cI cZ cL (sH1 J sh) rd pr G K tl) (zB9 D classes (wdC ad cI cZ cL J rd pr G K tl)) A) (by decide) (Nat.le_of_ble_eq_true rfl) ?_
  intro p e s m below meth c A ls Z hP hK hD hS hA hl
  obtain ⟨hx, hb, hr, hml, hown, hts, hE, hlocks⟩ := id Z
  have hl : lv_has ls 4 [(0, .ref (ad 1)), (1, .int (iZ ((sh : Nat) : Int)))] := hl
  suffices K9 : ∀ (H : Heap) (locs : List Loc) (ls : Array Slot), va_P D classes (wdC ad cI cZ cL J rd pr G K tl) H → va_D A (wdC ad cI cZ cL J rd pr G K tl) → va_S A s.heap H locs → lv_has ls 4 [(0, .ref (ad 1)), (1, .int (iZ ((sh : Nat) : Int)))] → W p l e (zRm 1 24) s m ([.ref (ad 1), .int (iZ ((sh : Nat) : Int))] : List Value).toArray below meth c H locs 0 0 (MQ below (va_Qi (fun r w => r = iZ ((jn J : Nat) : Int) ∧ w = wdC ad cI cZ cL (sH1 J sh) rd pr G K tl) (zB9 D classes (wdC ad cI cZ cL J rd pr G K tl)) A) ([.ref (ad 1), .int (iZ ((sh : Nat) : Int))] : List Value).toArray s 0 0 A) (F0 m 0 ls []) from K9 s.heap [] ls hP hD hS hl
  clear hP hD hS hl
  intro H locs ls hP hD hS hl
  refine lv_aload_n hx hb d_J_addHaul_0 rfl (lv_at hl 0 rfl) ?_
  refine va_get (D := D) (ci := 1) (v := .int (iZ ((jn J : Nat) : Int))) (C := n_J) (T := f_J) (N := 10) hx hb hts in_J hown hK hP 1 rfl rfl 1 (by decide) (hts _ fl_J_15) (fun _ h9 => h9) rfl d_J_addHaul_1 ?_
  refine lv_istore_n (lv' := [(2, .int (iZ ((jn J : Nat) : Int))), (0, .ref (ad 1)), (1, .int (iZ ((sh : Nat) : Int)))]) hx hb d_J_addHaul_4 rfl hl (by decide) rfl (fun ls hl => ?_)
  refine lv_aload_n hx hb d_J_addHaul_5 rfl (lv_at hl 1 rfl) ?_
  refine va_get (D := D) (ci := 1) (v := .ref (ad 2)) (C := n_J) (T := f_J) (N := 10) hx hb hts in_J hown hK hP 1 rfl rfl 3 (by decide) (hts _ fl_J_22) (fun _ h9 => h9) rfl d_J_addHaul_6 ?_
  refine lv_iload_n hx hb d_J_addHaul_9 rfl (lv_at hl 2 rfl) ?_
  refine z_iald (f := jop J) hx hb hK hP 2 0 rfl rfl (sh) (by omega) d_J_addHaul_10 ?_
  refine lv_istore_n (lv' := [(3, .int (iZ ((jop J) (sh)))), (2, .int (iZ ((jn J : Nat) : Int))), (0, .ref (ad 1)), (1, .int (iZ ((sh : Nat) : Int)))]) hx hb d_J_addHaul_11 rfl hl (by decide) rfl (fun ls hl => ?_)
  refine lv_aload_n hx hb d_J_addHaul_12 rfl (lv_at hl 2 rfl) ?_
  refine lv_dup hx hb d_J_addHaul_13 rfl ?_
  refine va_get (D := D) (ci := 1) (v := .int (iZ ((jn J : Nat) : Int))) (C := n_J) (T := f_J) (N := 10) hx hb hts in_J hown hK hP 1 rfl rfl 1 (by decide) (hts _ fl_J_15) (fun _ h9 => h9) rfl d_J_addHaul_14 ?_
  refine lv_iconst (v := iZ ((1 : Nat) : Int)) hx hb d_J_addHaul_17 (by decide) ?_
  refine z_iaddN (u := jn J) (v := 1) hx hb d_J_addHaul_18 ?_
  refine va_put (D := D) (ci := 1) (v := .int (iZ (((jn J) + 1 : Nat) : Int))) (ty := .int) (C := n_J) (T := f_J) (N := 10) hx hb hts in_J ty_J tyo_J nm_J hown hK hP hD hS 1 rfl rfl 1 (by decide) (hts _ fl_J_15) (fun _ h9 => h9) rfl (by decide +kernel) rfl rfl (Nat.le_of_ble_eq_true rfl) d_J_addHaul_19 (fun H locs hP hD hS => ?_)
  have hP : va_P D classes (wdC ad cI cZ cL (jx J, ((jn J) + 1), jk J, jop J, jou J, jdv J, jct J, jdh J, jph J, jsp J) rd pr G K tl) H := hP
  have hD : va_D A (wdC ad cI cZ cL (jx J, ((jn J) + 1), jk J, jop J, jou J, jdv J, jct J, jdh J, jph J, jsp J) rd pr G K tl) := hD
  refine lv_iload_n hx hb d_J_addHaul_22 rfl (lv_at hl 0 rfl) ?_
  refine lv_iconst (v := iZ ((-1 : Int))) hx hb d_J_addHaul_23 (by decide) ?_
  refine z_icmp_ne (a := (jop J) (sh)) (b := (-1 : Int)) (tgt := 47) hx hb (by omega) d_J_addHaul_24 (by decide) (fun q24 => ?_) (fun q24 => ?_)
  · skip
    exfalso; omega
  · skip
    refine lv_aload_n hx hb d_J_addHaul_27 rfl (lv_at hl 2 rfl) ?_
    refine va_get (D := D) (ci := 1) (v := .ref (ad 4)) (C := n_J) (T := f_J) (N := 10) hx hb hts in_J hown hK hP 1 rfl rfl 5 (by decide) (hts _ fl_J_30) (fun _ h9 => h9) rfl d_J_addHaul_28 ?_
    refine lv_iload_n hx hb d_J_addHaul_31 rfl (lv_at hl 1 rfl) ?_
    refine lv_aload_n hx hb d_J_addHaul_32 rfl (lv_at hl 2 rfl) ?_
    refine z_ki (z_runV (As := []) (rest := [.int (iZ ((jn J : Nat) : Int)), .ref (ad 4)]) zTB Z k_J_drawArm ⟨ml_J_45, im_J_drawArm, se_J_drawArm, ini_J, co_J_drawArm⟩ zd_J_drawArm ⟨Nat.le_of_ble_eq_true rfl, Nat.le_of_ble_eq_true rfl⟩ hP hK hD (ci := 1) (q0 := 1) rfl rfl rfl hl.1 rfl (Nat.le_of_ble_eq_true rfl) d_J_addHaul_33 ⟨Nat.zero_le _, Nat.zero_le _⟩) hD hS hA (fun r9 w9 H locs hp9 hP hD hS => ?_)
    obtain ⟨rfl, rfl⟩ := hp9
    have hP : va_P D classes (wdC ad cI cZ cL ((sDr (jx J)), ((jn J) + 1), jk J, jop J, jou J, jdv J, jct J, jdh J, jph J, jsp J) rd pr G K tl) H := hP
    have hD : va_D A (wdC ad cI cZ cL ((sDr (jx J)), ((jn J) + 1), jk J, jop J, jou J, jdv J, jct J, jdh J, jph J, jsp J) rd pr G K tl) := hD
    refine W.eq (g2 := F0 m 36 ls [.int (bI (sBt (sDr (jx J)))), .int (iZ ((jn J : Nat) : Int)), .ref (ad 4)]) rfl ?_
    refine z_zast (f := jdv J) (v := sBt (sDr (jx J))) hx hb hK hP hD hS 4 1 rfl rfl (jn J) (by omega) d_J_addHaul_36 (fun H locs hP hD hS => ?_)
    have hP : va_P D classes (wdC ad cI cZ cL ((sDr (jx J)), ((jn J) + 1), jk J, jop J, jou J, (zub (jdv J) (jn J) (sBt (sDr (jx J)))), jct J, jdh J, jph J, jsp J) rd pr G K tl) H := hP
    have hD : va_D A (wdC ad cI cZ cL ((sDr (jx J)), ((jn J) + 1), jk J, jop J, jou J, (zub (jdv J) (jn J) (sBt (sDr (jx J)))), jct J, jdh J, jph J, jsp J) rd pr G K tl) := hD
    refine lv_aload_n hx hb d_J_addHaul_37 rfl (lv_at hl 2 rfl) ?_
    refine va_get (D := D) (ci := 1) (v := .ref (ad 2)) (C := n_J) (T := f_J) (N := 10) hx hb hts in_J hown hK hP 1 rfl rfl 3 (by decide) (hts _ fl_J_22) (fun _ h9 => h9) rfl d_J_addHaul_38 ?_
    refine lv_iload_n hx hb d_J_addHaul_41 rfl (lv_at hl 3 rfl) ?_
    refine lv_iload_n hx hb d_J_addHaul_42 rfl (lv_at hl 1 rfl) ?_
    refine z_iast (f := jop J) (v := ((jn J : Nat) : Int)) hx hb hK hP hD hS 2 0 rfl rfl (sh) (by omega) d_J_addHaul_43 (fun H locs hP hD hS => ?_)
    have hP : va_P D classes (wdC ad cI cZ cL ((sDr (jx J)), ((jn J) + 1), jk J, (zu (jop J) (sh) ((jn J : Nat) : Int)), jou J, (zub (jdv J) (jn J) (sBt (sDr (jx J)))), jct J, jdh J, jph J, jsp J) rd pr G K tl) H := hP
    have hD : va_D A (wdC ad cI cZ cL ((sDr (jx J)), ((jn J) + 1), jk J, (zu (jop J) (sh) ((jn J : Nat) : Int)), jou J, (zub (jdv J) (jn J) (sBt (sDr (jx J)))), jct J, jdh J, jph J, jsp J) rd pr G K tl) := hD
    refine lv_goto (tgt := 81) hx hb d_J_addHaul_44 (by decide) ?_
    refine lv_iload_n hx hb d_J_addHaul_81 rfl (lv_at hl 1 rfl) ?_
    exact z_iret Z hP hS d_J_addHaul_82 wdC_map (⟨rfl, rfl⟩)

set_option maxHeartbeats 4000000 in
set_option maxRecDepth 100000 in
theorem k_J_addHaul2 {l : Launch} {D : va_G} {ad : Nat → Nat} {cI cZ cL : ClassId} {J : SJ} {rd : Nat → Int} {pr : Nat → Nat} {G : SH} {K : SK} {tl : va_W} {sh f : Nat} (hsh : sh < 4) (hn : jn J < 32) (hk : jk J < 16) (hop : jop J sh = ((f : Nat) : Int)) (hf : f < 32) : zMi l TB D classes (tysW cI cZ cL) y_J_addHaul w_J_addHaul 1 24 [.ref (ad 1), .int (iZ ((sh : Nat) : Int))] (wdC ad cI cZ cL J rd pr G K tl) (fun r w => r = iZ ((jn J : Nat) : Int) ∧ w = wdC ad cI cZ cL (sH2 J sh f) rd pr G K tl) := by
  refine z_of (Qc := fun A => va_Qi (fun r w => r = iZ ((jn J : Nat) : Int) ∧ w = wdC ad cI cZ cL (sH2 J sh f) rd pr G K tl) (zB9 D classes (wdC ad cI cZ cL J rd pr G K tl)) A) (by decide) (Nat.le_of_ble_eq_true rfl) ?_
  intro p e s m below meth c A ls Z hP hK hD hS hA hl
  obtain ⟨hx, hb, hr, hml, hown, hts, hE, hlocks⟩ := id Z
  have hl : lv_has ls 4 [(0, .ref (ad 1)), (1, .int (iZ ((sh : Nat) : Int)))] := hl
  suffices K9 : ∀ (H : Heap) (locs : List Loc) (ls : Array Slot), va_P D classes (wdC ad cI cZ cL J rd pr G K tl) H → va_D A (wdC ad cI cZ cL J rd pr G K tl) → va_S A s.heap H locs → lv_has ls 4 [(0, .ref (ad 1)), (1, .int (iZ ((sh : Nat) : Int)))] → W p l e (zRm 1 24) s m ([.ref (ad 1), .int (iZ ((sh : Nat) : Int))] : List Value).toArray below meth c H locs 0 0 (MQ below (va_Qi (fun r w => r = iZ ((jn J : Nat) : Int) ∧ w = wdC ad cI cZ cL (sH2 J sh f) rd pr G K tl) (zB9 D classes (wdC ad cI cZ cL J rd pr G K tl)) A) ([.ref (ad 1), .int (iZ ((sh : Nat) : Int))] : List Value).toArray s 0 0 A) (F0 m 0 ls []) from K9 s.heap [] ls hP hD hS hl
  clear hP hD hS hl
  intro H locs ls hP hD hS hl
  refine lv_aload_n hx hb d_J_addHaul_0 rfl (lv_at hl 0 rfl) ?_
  refine va_get (D := D) (ci := 1) (v := .int (iZ ((jn J : Nat) : Int))) (C := n_J) (T := f_J) (N := 10) hx hb hts in_J hown hK hP 1 rfl rfl 1 (by decide) (hts _ fl_J_15) (fun _ h9 => h9) rfl d_J_addHaul_1 ?_
  refine lv_istore_n (lv' := [(2, .int (iZ ((jn J : Nat) : Int))), (0, .ref (ad 1)), (1, .int (iZ ((sh : Nat) : Int)))]) hx hb d_J_addHaul_4 rfl hl (by decide) rfl (fun ls hl => ?_)
  refine lv_aload_n hx hb d_J_addHaul_5 rfl (lv_at hl 1 rfl) ?_
  refine va_get (D := D) (ci := 1) (v := .ref (ad 2)) (C := n_J) (T := f_J) (N := 10) hx hb hts in_J hown hK hP 1 rfl rfl 3 (by decide) (hts _ fl_J_22) (fun _ h9 => h9) rfl d_J_addHaul_6 ?_
  refine lv_iload_n hx hb d_J_addHaul_9 rfl (lv_at hl 2 rfl) ?_
  refine z_iald (f := jop J) hx hb hK hP 2 0 rfl rfl (sh) (by omega) d_J_addHaul_10 ?_
  refine z_topZ (b := ((f : Nat) : Int)) (hop) ?_
  refine lv_istore_n (lv' := [(3, .int (iZ ((f : Nat) : Int))), (2, .int (iZ ((jn J : Nat) : Int))), (0, .ref (ad 1)), (1, .int (iZ ((sh : Nat) : Int)))]) hx hb d_J_addHaul_11 rfl hl (by decide) rfl (fun ls hl => ?_)
  refine lv_aload_n hx hb d_J_addHaul_12 rfl (lv_at hl 2 rfl) ?_
  refine lv_dup hx hb d_J_addHaul_13 rfl ?_
  refine va_get (D := D) (ci := 1) (v := .int (iZ ((jn J : Nat) : Int))) (C := n_J) (T := f_J) (N := 10) hx hb hts in_J hown hK hP 1 rfl rfl 1 (by decide) (hts _ fl_J_15) (fun _ h9 => h9) rfl d_J_addHaul_14 ?_
  refine lv_iconst (v := iZ ((1 : Nat) : Int)) hx hb d_J_addHaul_17 (by decide) ?_
  refine z_iaddN (u := jn J) (v := 1) hx hb d_J_addHaul_18 ?_
  refine va_put (D := D) (ci := 1) (v := .int (iZ (((jn J) + 1 : Nat) : Int))) (ty := .int) (C := n_J) (T := f_J) (N := 10) hx hb hts in_J ty_J tyo_J nm_J hown hK hP hD hS 1 rfl rfl 1 (by decide) (hts _ fl_J_15) (fun _ h9 => h9) rfl (by decide +kernel) rfl rfl (Nat.le_of_ble_eq_true rfl) d_J_addHaul_19 (fun H locs hP hD hS => ?_)
  have hP : va_P D classes (wdC ad cI cZ cL (jx J, ((jn J) + 1), jk J, jop J, jou J, jdv J, jct J, jdh J, jph J, jsp J) rd pr G K tl) H := hP
  have hD : va_D A (wdC ad cI cZ cL (jx J, ((jn J) + 1), jk J, jop J, jou J, jdv J, jct J, jdh J, jph J, jsp J) rd pr G K tl) := hD
  refine lv_iload_n hx hb d_J_addHaul_22 rfl (lv_at hl 0 rfl) ?_
  refine lv_iconst (v := iZ ((-1 : Int))) hx hb d_J_addHaul_23 (by decide) ?_
  refine z_icmp_ne (a := ((f : Nat) : Int)) (b := (-1 : Int)) (tgt := 47) hx hb (by omega) d_J_addHaul_24 (by decide) (fun q24 => ?_) (fun q24 => ?_)
  · skip
    refine lv_aload_n hx hb d_J_addHaul_47 rfl (lv_at hl 2 rfl) ?_
    refine va_get (D := D) (ci := 1) (v := .ref (ad 4)) (C := n_J) (T := f_J) (N := 10) hx hb hts in_J hown hK hP 1 rfl rfl 5 (by decide) (hts _ fl_J_30) (fun _ h9 => h9) rfl d_J_addHaul_48 ?_
    refine lv_iload_n hx hb d_J_addHaul_51 rfl (lv_at hl 1 rfl) ?_
    refine lv_aload_n hx hb d_J_addHaul_52 rfl (lv_at hl 2 rfl) ?_
    refine va_get (D := D) (ci := 1) (v := .ref (ad 4)) (C := n_J) (T := f_J) (N := 10) hx hb hts in_J hown hK hP 1 rfl rfl 5 (by decide) (hts _ fl_J_30) (fun _ h9 => h9) rfl d_J_addHaul_53 ?_
    refine lv_iload_n hx hb d_J_addHaul_56 rfl (lv_at hl 0 rfl) ?_
    refine z_zald (f := jdv J) hx hb hK hP 4 1 rfl rfl (f) (by omega) d_J_addHaul_57 ?_
    refine z_if_neB (b := (jdv J) (f)) (tgt := 65) hx hb d_J_addHaul_58 (by decide) (fun q58 => ?_) (fun q58 => ?_)
    · skip
      refine lv_iconst (v := iZ ((0 : Nat) : Int)) hx hb d_J_addHaul_65 (by decide) ?_
      refine W.eq (g2 := F0 m 66 ls [.int (bI (false)), .int (iZ ((jn J : Nat) : Int)), .ref (ad 4)]) rfl ?_
      refine z_zast (f := jdv J) (v := false) hx hb hK hP hD hS 4 1 rfl rfl (jn J) (by omega) d_J_addHaul_66 (fun H locs hP hD hS => ?_)
      have hP : va_P D classes (wdC ad cI cZ cL (jx J, ((jn J) + 1), jk J, jop J, jou J, (zub (jdv J) (jn J) false), jct J, jdh J, jph J, jsp J) rd pr G K tl) H := hP
      have hD : va_D A (wdC ad cI cZ cL (jx J, ((jn J) + 1), jk J, jop J, jou J, (zub (jdv J) (jn J) false), jct J, jdh J, jph J, jsp J) rd pr G K tl) := hD
      refine lv_aload_n hx hb d_J_addHaul_67 rfl (lv_at hl 2 rfl) ?_
      refine va_get (D := D) (ci := 1) (v := .ref (ad 2)) (C := n_J) (T := f_J) (N := 10) hx hb hts in_J hown hK hP 1 rfl rfl 3 (by decide) (hts _ fl_J_22) (fun _ h9 => h9) rfl d_J_addHaul_68 ?_
      refine lv_iload_n hx hb d_J_addHaul_71 rfl (lv_at hl 3 rfl) ?_
      refine lv_iconst (v := iZ ((-1 : Int))) hx hb d_J_addHaul_72 (by decide) ?_
      refine z_iast (f := jop J) (v := (-1 : Int)) hx hb hK hP hD hS 2 0 rfl rfl (sh) (by omega) d_J_addHaul_73 (fun H locs hP hD hS => ?_)
      have hP : va_P D classes (wdC ad cI cZ cL (jx J, ((jn J) + 1), jk J, (zu (jop J) (sh) (-1 : Int)), jou J, (zub (jdv J) (jn J) false), jct J, jdh J, jph J, jsp J) rd pr G K tl) H := hP
      have hD : va_D A (wdC ad cI cZ cL (jx J, ((jn J) + 1), jk J, (zu (jop J) (sh) (-1 : Int)), jou J, (zub (jdv J) (jn J) false), jct J, jdh J, jph J, jsp J) rd pr G K tl) := hD
      refine lv_aload_n hx hb d_J_addHaul_74 rfl (lv_at hl 2 rfl) ?_
      refine lv_iload_n hx hb d_J_addHaul_75 rfl (lv_at hl 0 rfl) ?_
      refine lv_iload_n hx hb d_J_addHaul_76 rfl (lv_at hl 1 rfl) ?_
      refine lv_iload_n hx hb d_J_addHaul_77 rfl (lv_at hl 3 rfl) ?_
      refine z_kv (z_runV (As := [.int (iZ ((f : Nat) : Int)), .int (iZ ((jn J : Nat) : Int)), .int (iZ ((sh : Nat) : Int))]) (rest := []) zTB Z (k_J_addPair (f := f) (se := jn J) (sh := sh) (by show _ ∧ _ ∧ _ ∧ jk J < 16; omega)) ⟨ml_J_49, im_J_addPair, se_J_addPair, ini_J, co_J_addPair⟩ zd_J_addPair ⟨Nat.le_of_ble_eq_true rfl, Nat.le_of_ble_eq_true rfl⟩ hP hK hD (ci := 1) (q0 := 1) rfl rfl rfl hl.1 rfl (Nat.le_of_ble_eq_true rfl) d_J_addHaul_78 ⟨Nat.zero_le _, Nat.zero_le _⟩) hD hS hA (fun w9 H locs hp9 hP hD hS => ?_)
      obtain rfl := hp9
      have hP : va_P D classes (wdC ad cI cZ cL (sAP (jx J, ((jn J) + 1), jk J, (zu (jop J) (sh) (-1 : Int)), jou J, (zub (jdv J) (jn J) false), jct J, jdh J, jph J, jsp J) f (jn J) sh) rd pr G K tl) H := hP
      have hD : va_D A (wdC ad cI cZ cL (sAP (jx J, ((jn J) + 1), jk J, (zu (jop J) (sh) (-1 : Int)), jou J, (zub (jdv J) (jn J) false), jct J, jdh J, jph J, jsp J) f (jn J) sh) rd pr G K tl) := hD
      refine W.eq (g2 := F0 m 81 ls []) rfl ?_
      refine lv_iload_n hx hb d_J_addHaul_81 rfl (lv_at hl 1 rfl) ?_
      exact z_iret Z hP hS d_J_addHaul_82 wdC_map (⟨rfl, by unfold sH2; rw [q58]; rfl⟩)
    · skip
      refine lv_iconst (v := iZ ((1 : Nat) : Int)) hx hb d_J_addHaul_61 (by decide) ?_
      refine lv_goto (tgt := 66) hx hb d_J_addHaul_62 (by decide) ?_
      refine W.eq (g2 := F0 m 66 ls [.int (bI (true)), .int (iZ ((jn J : Nat) : Int)), .ref (ad 4)]) rfl ?_
      refine z_zast (f := jdv J) (v := true) hx hb hK hP hD hS 4 1 rfl rfl (jn J) (by omega) d_J_addHaul_66 (fun H locs hP hD hS => ?_)
      have hP : va_P D classes (wdC ad cI cZ cL (jx J, ((jn J) + 1), jk J, jop J, jou J, (zub (jdv J) (jn J) true), jct J, jdh J, jph J, jsp J) rd pr G K tl) H := hP
      have hD : va_D A (wdC ad cI cZ cL (jx J, ((jn J) + 1), jk J, jop J, jou J, (zub (jdv J) (jn J) true), jct J, jdh J, jph J, jsp J) rd pr G K tl) := hD
      refine lv_aload_n hx hb d_J_addHaul_67 rfl (lv_at hl 2 rfl) ?_
      refine va_get (D := D) (ci := 1) (v := .ref (ad 2)) (C := n_J) (T := f_J) (N := 10) hx hb hts in_J hown hK hP 1 rfl rfl 3 (by decide) (hts _ fl_J_22) (fun _ h9 => h9) rfl d_J_addHaul_68 ?_
      refine lv_iload_n hx hb d_J_addHaul_71 rfl (lv_at hl 3 rfl) ?_
      refine lv_iconst (v := iZ ((-1 : Int))) hx hb d_J_addHaul_72 (by decide) ?_
      refine z_iast (f := jop J) (v := (-1 : Int)) hx hb hK hP hD hS 2 0 rfl rfl (sh) (by omega) d_J_addHaul_73 (fun H locs hP hD hS => ?_)
      have hP : va_P D classes (wdC ad cI cZ cL (jx J, ((jn J) + 1), jk J, (zu (jop J) (sh) (-1 : Int)), jou J, (zub (jdv J) (jn J) true), jct J, jdh J, jph J, jsp J) rd pr G K tl) H := hP
      have hD : va_D A (wdC ad cI cZ cL (jx J, ((jn J) + 1), jk J, (zu (jop J) (sh) (-1 : Int)), jou J, (zub (jdv J) (jn J) true), jct J, jdh J, jph J, jsp J) rd pr G K tl) := hD
      refine lv_aload_n hx hb d_J_addHaul_74 rfl (lv_at hl 2 rfl) ?_
      refine lv_iload_n hx hb d_J_addHaul_75 rfl (lv_at hl 0 rfl) ?_
      refine lv_iload_n hx hb d_J_addHaul_76 rfl (lv_at hl 1 rfl) ?_
      refine lv_iload_n hx hb d_J_addHaul_77 rfl (lv_at hl 3 rfl) ?_
      refine z_kv (z_runV (As := [.int (iZ ((f : Nat) : Int)), .int (iZ ((jn J : Nat) : Int)), .int (iZ ((sh : Nat) : Int))]) (rest := []) zTB Z (k_J_addPair (f := f) (se := jn J) (sh := sh) (by show _ ∧ _ ∧ _ ∧ jk J < 16; omega)) ⟨ml_J_49, im_J_addPair, se_J_addPair, ini_J, co_J_addPair⟩ zd_J_addPair ⟨Nat.le_of_ble_eq_true rfl, Nat.le_of_ble_eq_true rfl⟩ hP hK hD (ci := 1) (q0 := 1) rfl rfl rfl hl.1 rfl (Nat.le_of_ble_eq_true rfl) d_J_addHaul_78 ⟨Nat.zero_le _, Nat.zero_le _⟩) hD hS hA (fun w9 H locs hp9 hP hD hS => ?_)
      obtain rfl := hp9
      have hP : va_P D classes (wdC ad cI cZ cL (sAP (jx J, ((jn J) + 1), jk J, (zu (jop J) (sh) (-1 : Int)), jou J, (zub (jdv J) (jn J) true), jct J, jdh J, jph J, jsp J) f (jn J) sh) rd pr G K tl) H := hP
      have hD : va_D A (wdC ad cI cZ cL (sAP (jx J, ((jn J) + 1), jk J, (zu (jop J) (sh) (-1 : Int)), jou J, (zub (jdv J) (jn J) true), jct J, jdh J, jph J, jsp J) f (jn J) sh) rd pr G K tl) := hD
      refine W.eq (g2 := F0 m 81 ls []) rfl ?_
      refine lv_iload_n hx hb d_J_addHaul_81 rfl (lv_at hl 1 rfl) ?_
      exact z_iret Z hP hS d_J_addHaul_82 wdC_map (⟨rfl, by unfold sH2; rw [q58]; rfl⟩)
  · skip
    exfalso; omega

set_option maxHeartbeats 4000000 in
set_option maxRecDepth 100000 in
theorem k_J_putCount {l : Launch} {D : va_G} {ad : Nat → Nat} {cI cZ cL : ClassId} {J : SJ} {rd : Nat → Int} {pr : Nat → Nat} {G : SH} {K : SK} {tl : va_W} {h kd v : Nat} (hh : h < 32 ∧ kd < 3 ∧ v ≤ 1000) (hct : ∀ j, jct J j ≤ 1000) : zMi l TB D classes (tysW cI cZ cL) y_J_putCount w_J_putCount 0 0 [.ref (ad 1), .int (iZ ((h : Nat) : Int)), .int (iZ ((kd : Nat) : Int)), .int (iZ ((v : Nat) : Int))] (wdC ad cI cZ cL J rd pr G K tl) (fun r w => r = bI (decide (jct J (h * 3 + kd) ≠ v)) ∧ w = wdC ad cI cZ cL (sPC9 J (h * 3 + kd) v) rd pr G K tl) := by
  refine z_of (Qc := fun A => va_Qi (fun r w => r = bI (decide (jct J (h * 3 + kd) ≠ v)) ∧ w = wdC ad cI cZ cL (sPC9 J (h * 3 + kd) v) rd pr G K tl) (zB9 D classes (wdC ad cI cZ cL J rd pr G K tl)) A) (by decide) (Nat.le_of_ble_eq_true rfl) ?_
  intro p e s m below meth c A ls Z hP hK hD hS hA hl
  obtain ⟨hx, hb, hr, hml, hown, hts, hE, hlocks⟩ := id Z
  have hl : lv_has ls 6 [(0, .ref (ad 1)), (1, .int (iZ ((h : Nat) : Int))), (2, .int (iZ ((kd : Nat) : Int))), (3, .int (iZ ((v : Nat) : Int)))] := hl
  have hc9 := hct (h * 3 + kd)
  suffices K9 : ∀ (H : Heap) (locs : List Loc) (ls : Array Slot), va_P D classes (wdC ad cI cZ cL J rd pr G K tl) H → va_D A (wdC ad cI cZ cL J rd pr G K tl) → va_S A s.heap H locs → lv_has ls 6 [(0, .ref (ad 1)), (1, .int (iZ ((h : Nat) : Int))), (2, .int (iZ ((kd : Nat) : Int))), (3, .int (iZ ((v : Nat) : Int)))] → W p l e (zRm 0 0) s m ([.ref (ad 1), .int (iZ ((h : Nat) : Int)), .int (iZ ((kd : Nat) : Int)), .int (iZ ((v : Nat) : Int))] : List Value).toArray below meth c H locs 0 0 (MQ below (va_Qi (fun r w => r = bI (decide (jct J (h * 3 + kd) ≠ v)) ∧ w = wdC ad cI cZ cL (sPC9 J (h * 3 + kd) v) rd pr G K tl) (zB9 D classes (wdC ad cI cZ cL J rd pr G K tl)) A) ([.ref (ad 1), .int (iZ ((h : Nat) : Int)), .int (iZ ((kd : Nat) : Int)), .int (iZ ((v : Nat) : Int))] : List Value).toArray s 0 0 A) (F0 m 0 ls []) from K9 s.heap [] ls hP hD hS hl
  clear hP hD hS hl
  intro H locs ls hP hD hS hl
  refine lv_iload_n hx hb d_J_putCount_0 rfl (lv_at hl 1 rfl) ?_
  refine lv_iconst (v := iZ ((3 : Nat) : Int)) hx hb d_J_putCount_1 (by decide) ?_
  refine z_imulN (u := h) (v := 3) hx hb d_J_putCount_2 ?_
  refine lv_iload_n hx hb d_J_putCount_3 rfl (lv_at hl 2 rfl) ?_
  refine z_iaddN (u := h * 3) (v := kd) hx hb d_J_putCount_4 ?_
  refine lv_istore (lv' := [(4, .int (iZ (((h * 3) + kd : Nat) : Int))), (0, .ref (ad 1)), (1, .int (iZ ((h : Nat) : Int))), (2, .int (iZ ((kd : Nat) : Int))), (3, .int (iZ ((v : Nat) : Int)))]) hx hb d_J_putCount_5 hl (by decide) rfl (fun ls hl => ?_)
  refine lv_aload_n hx hb d_J_putCount_7 rfl (lv_at hl 1 rfl) ?_
  refine va_get (D := D) (ci := 1) (v := .ref (ad 5)) (C := n_J) (T := f_J) (N := 10) hx hb hts in_J hown hK hP 1 rfl rfl 6 (by decide) (hts _ fl_J_33) (fun _ h9 => h9) rfl d_J_putCount_8 ?_
  refine lv_iload hx hb d_J_putCount_11 (lv_at hl 0 rfl) ?_
  refine z_ialdN (f := jct J) hx hb hK hP 5 0 rfl rfl ((h * 3) + kd) (by omega) d_J_putCount_13 ?_
  refine lv_iload_n hx hb d_J_putCount_14 rfl (lv_at hl 4 rfl) ?_
  refine z_icmp_eq (a := (((jct J) ((h * 3) + kd) : Nat) : Int)) (b := ((v : Nat) : Int)) (tgt := 22) hx hb (by omega) d_J_putCount_15 (by decide) (fun q15 => ?_) (fun q15 => ?_)
  · skip
    refine lv_iconst (v := iZ ((0 : Nat) : Int)) hx hb d_J_putCount_22 (by decide) ?_
    refine lv_istore (lv' := [(5, .int (iZ ((0 : Nat) : Int))), (4, .int (iZ (((h * 3) + kd : Nat) : Int))), (0, .ref (ad 1)), (1, .int (iZ ((h : Nat) : Int))), (2, .int (iZ ((kd : Nat) : Int))), (3, .int (iZ ((v : Nat) : Int)))]) hx hb d_J_putCount_23 hl (by decide) rfl (fun ls hl => ?_)
    refine lv_aload_n hx hb d_J_putCount_25 rfl (lv_at hl 2 rfl) ?_
    refine va_get (D := D) (ci := 1) (v := .ref (ad 5)) (C := n_J) (T := f_J) (N := 10) hx hb hts in_J hown hK hP 1 rfl rfl 6 (by decide) (hts _ fl_J_33) (fun _ h9 => h9) rfl d_J_putCount_26 ?_
    refine lv_iload hx hb d_J_putCount_29 (lv_at hl 1 rfl) ?_
    refine lv_iload_n hx hb d_J_putCount_31 rfl (lv_at hl 5 rfl) ?_
    refine z_iastN (f := jct J) (v := v) hx hb hK hP hD hS 5 0 rfl rfl ((h * 3) + kd) (by omega) d_J_putCount_32 (fun H locs hP hD hS => ?_)
    have hP : va_P D classes (wdC ad cI cZ cL (jx J, jn J, jk J, jop J, jou J, jdv J, (nu (jct J) ((h * 3) + kd) v), jdh J, jph J, jsp J) rd pr G K tl) H := hP
    have hD : va_D A (wdC ad cI cZ cL (jx J, jn J, jk J, jop J, jou J, jdv J, (nu (jct J) ((h * 3) + kd) v), jdh J, jph J, jsp J) rd pr G K tl) := hD
    refine lv_iload hx hb d_J_putCount_33 (lv_at hl 0 rfl) ?_
    refine W.eq (g2 := F0 m 35 ls [.int (bI false)]) rfl ?_
    exact z_zret Z hP hS d_J_putCount_35 wdC_map (⟨by first | rw [show decide (jct J (h * 3 + kd) ≠ v) = true from decide_eq_true (by omega)] | rw [show decide (jct J (h * 3 + kd) ≠ v) = false from decide_eq_false (by omega)], rfl⟩)
  · skip
    refine lv_iconst (v := iZ ((1 : Nat) : Int)) hx hb d_J_putCount_18 (by decide) ?_
    refine lv_goto (tgt := 23) hx hb d_J_putCount_19 (by decide) ?_
    refine lv_istore (lv' := [(5, .int (iZ ((1 : Nat) : Int))), (4, .int (iZ (((h * 3) + kd : Nat) : Int))), (0, .ref (ad 1)), (1, .int (iZ ((h : Nat) : Int))), (2, .int (iZ ((kd : Nat) : Int))), (3, .int (iZ ((v : Nat) : Int)))]) hx hb d_J_putCount_23 hl (by decide) rfl (fun ls hl => ?_)
    refine lv_aload_n hx hb d_J_putCount_25 rfl (lv_at hl 2 rfl) ?_
    refine va_get (D := D) (ci := 1) (v := .ref (ad 5)) (C := n_J) (T := f_J) (N := 10) hx hb hts in_J hown hK hP 1 rfl rfl 6 (by decide) (hts _ fl_J_33) (fun _ h9 => h9) rfl d_J_putCount_26 ?_
    refine lv_iload hx hb d_J_putCount_29 (lv_at hl 1 rfl) ?_
    refine lv_iload_n hx hb d_J_putCount_31 rfl (lv_at hl 5 rfl) ?_
    refine z_iastN (f := jct J) (v := v) hx hb hK hP hD hS 5 0 rfl rfl ((h * 3) + kd) (by omega) d_J_putCount_32 (fun H locs hP hD hS => ?_)
    have hP : va_P D classes (wdC ad cI cZ cL (jx J, jn J, jk J, jop J, jou J, jdv J, (nu (jct J) ((h * 3) + kd) v), jdh J, jph J, jsp J) rd pr G K tl) H := hP
    have hD : va_D A (wdC ad cI cZ cL (jx J, jn J, jk J, jop J, jou J, jdv J, (nu (jct J) ((h * 3) + kd) v), jdh J, jph J, jsp J) rd pr G K tl) := hD
    refine lv_iload hx hb d_J_putCount_33 (lv_at hl 0 rfl) ?_
    refine W.eq (g2 := F0 m 35 ls [.int (bI true)]) rfl ?_
    exact z_zret Z hP hS d_J_putCount_35 wdC_map (⟨by first | rw [show decide (jct J (h * 3 + kd) ≠ v) = true from decide_eq_true (by omega)] | rw [show decide (jct J (h * 3 + kd) ≠ v) = false from decide_eq_false (by omega)], rfl⟩)

set_option maxHeartbeats 4000000 in
set_option maxRecDepth 100000 in
theorem k_J_leaveOut {l : Launch} {D : va_G} {ad : Nat → Nat} {cI cZ cL : ClassId} {J : SJ} {rd : Nat → Int} {pr : Nat → Nat} {G : SH} {K : SK} {tl : va_W} {sh : Nat} {on : Bool} (hsh : sh < 4) : zMi l TB D classes (tysW cI cZ cL) y_J_leaveOut w_J_leaveOut 0 0 [.ref (ad 1), .int (iZ ((sh : Nat) : Int)), .int (bI (on))] (wdC ad cI cZ cL J rd pr G K tl) (fun r w => r = bI (jou J sh != on) ∧ w = wdC ad cI cZ cL (sLO J sh on) rd pr G K tl) := by
  refine z_of (Qc := fun A => va_Qi (fun r w => r = bI (jou J sh != on) ∧ w = wdC ad cI cZ cL (sLO J sh on) rd pr G K tl) (zB9 D classes (wdC ad cI cZ cL J rd pr G K tl)) A) (by decide) (Nat.le_of_ble_eq_true rfl) ?_
  intro p e s m below meth c A ls Z hP hK hD hS hA hl
  obtain ⟨hx, hb, hr, hml, hown, hts, hE, hlocks⟩ := id Z
  have hl : lv_has ls 4 [(0, .ref (ad 1)), (1, .int (iZ ((sh : Nat) : Int))), (2, .int (bI (on)))] := hl
  suffices K9 : ∀ (H : Heap) (locs : List Loc) (ls : Array Slot), va_P D classes (wdC ad cI cZ cL J rd pr G K tl) H → va_D A (wdC ad cI cZ cL J rd pr G K tl) → va_S A s.heap H locs → lv_has ls 4 [(0, .ref (ad 1)), (1, .int (iZ ((sh : Nat) : Int))), (2, .int (bI (on)))] → W p l e (zRm 0 0) s m ([.ref (ad 1), .int (iZ ((sh : Nat) : Int)), .int (bI (on))] : List Value).toArray below meth c H locs 0 0 (MQ below (va_Qi (fun r w => r = bI (jou J sh != on) ∧ w = wdC ad cI cZ cL (sLO J sh on) rd pr G K tl) (zB9 D classes (wdC ad cI cZ cL J rd pr G K tl)) A) ([.ref (ad 1), .int (iZ ((sh : Nat) : Int)), .int (bI (on))] : List Value).toArray s 0 0 A) (F0 m 0 ls []) from K9 s.heap [] ls hP hD hS hl
  clear hP hD hS hl
  intro H locs ls hP hD hS hl
  refine lv_aload_n hx hb d_J_leaveOut_0 rfl (lv_at hl 0 rfl) ?_
  refine va_get (D := D) (ci := 1) (v := .ref (ad 3)) (C := n_J) (T := f_J) (N := 10) hx hb hts in_J hown hK hP 1 rfl rfl 4 (by decide) (hts _ fl_J_26) (fun _ h9 => h9) rfl d_J_leaveOut_1 ?_
  refine lv_iload_n hx hb d_J_leaveOut_4 rfl (lv_at hl 1 rfl) ?_
  refine z_zald (f := jou J) hx hb hK hP 3 1 rfl rfl (sh) (by omega) d_J_leaveOut_5 ?_
  refine lv_iload_n hx hb d_J_leaveOut_6 rfl (lv_at hl 2 rfl) ?_
  refine lv_icmp_eq (tgt := 14) hx hb d_J_leaveOut_7 (by decide) (fun q7 => ?_) (fun q7 => ?_)
  · skip
    refine lv_iconst (v := iZ ((0 : Nat) : Int)) hx hb d_J_leaveOut_14 (by decide) ?_
    refine lv_istore_n (lv' := [(3, .int (iZ ((0 : Nat) : Int))), (0, .ref (ad 1)), (1, .int (iZ ((sh : Nat) : Int))), (2, .int (bI (on)))]) hx hb d_J_leaveOut_15 rfl hl (by decide) rfl (fun ls hl => ?_)
    refine lv_aload_n hx hb d_J_leaveOut_16 rfl (lv_at hl 1 rfl) ?_
    refine va_get (D := D) (ci := 1) (v := .ref (ad 3)) (C := n_J) (T := f_J) (N := 10) hx hb hts in_J hown hK hP 1 rfl rfl 4 (by decide) (hts _ fl_J_26) (fun _ h9 => h9) rfl d_J_leaveOut_17 ?_
    refine lv_iload_n hx hb d_J_leaveOut_20 rfl (lv_at hl 2 rfl) ?_
    refine lv_iload_n hx hb d_J_leaveOut_21 rfl (lv_at hl 3 rfl) ?_
    refine z_zast (f := jou J) (v := on) hx hb hK hP hD hS 3 1 rfl rfl (sh) (by omega) d_J_leaveOut_22 (fun H locs hP hD hS => ?_)
    have hP : va_P D classes (wdC ad cI cZ cL (jx J, jn J, jk J, jop J, (zub (jou J) (sh) on), jdv J, jct J, jdh J, jph J, jsp J) rd pr G K tl) H := hP
    have hD : va_D A (wdC ad cI cZ cL (jx J, jn J, jk J, jop J, (zub (jou J) (sh) on), jdv J, jct J, jdh J, jph J, jsp J) rd pr G K tl) := hD
    refine lv_iload_n hx hb d_J_leaveOut_23 rfl (lv_at hl 0 rfl) ?_
    refine W.eq (g2 := F0 m 24 ls [.int (bI false)]) rfl ?_
    exact z_zret Z hP hS d_J_leaveOut_24 wdC_map (⟨by first | rw [show (jou J sh != on) = true from bI_ne q7] | rw [show (jou J sh != on) = false from bI_eq q7], rfl⟩)
  · skip
    refine lv_iconst (v := iZ ((1 : Nat) : Int)) hx hb d_J_leaveOut_10 (by decide) ?_
    refine lv_goto (tgt := 15) hx hb d_J_leaveOut_11 (by decide) ?_
    refine lv_istore_n (lv' := [(3, .int (iZ ((1 : Nat) : Int))), (0, .ref (ad 1)), (1, .int (iZ ((sh : Nat) : Int))), (2, .int (bI (on)))]) hx hb d_J_leaveOut_15 rfl hl (by decide) rfl (fun ls hl => ?_)
    refine lv_aload_n hx hb d_J_leaveOut_16 rfl (lv_at hl 1 rfl) ?_
    refine va_get (D := D) (ci := 1) (v := .ref (ad 3)) (C := n_J) (T := f_J) (N := 10) hx hb hts in_J hown hK hP 1 rfl rfl 4 (by decide) (hts _ fl_J_26) (fun _ h9 => h9) rfl d_J_leaveOut_17 ?_
    refine lv_iload_n hx hb d_J_leaveOut_20 rfl (lv_at hl 2 rfl) ?_
    refine lv_iload_n hx hb d_J_leaveOut_21 rfl (lv_at hl 3 rfl) ?_
    refine z_zast (f := jou J) (v := on) hx hb hK hP hD hS 3 1 rfl rfl (sh) (by omega) d_J_leaveOut_22 (fun H locs hP hD hS => ?_)
    have hP : va_P D classes (wdC ad cI cZ cL (jx J, jn J, jk J, jop J, (zub (jou J) (sh) on), jdv J, jct J, jdh J, jph J, jsp J) rd pr G K tl) H := hP
    have hD : va_D A (wdC ad cI cZ cL (jx J, jn J, jk J, jop J, (zub (jou J) (sh) on), jdv J, jct J, jdh J, jph J, jsp J) rd pr G K tl) := hD
    refine lv_iload_n hx hb d_J_leaveOut_23 rfl (lv_at hl 0 rfl) ?_
    refine W.eq (g2 := F0 m 24 ls [.int (bI true)]) rfl ?_
    exact z_zret Z hP hS d_J_leaveOut_24 wdC_map (⟨by first | rw [show (jou J sh != on) = true from bI_ne q7] | rw [show (jou J sh != on) = false from bI_eq q7], rfl⟩)

set_option maxHeartbeats 4000000 in
set_option maxRecDepth 100000 in
theorem k_C_putReading {l : Launch} {D : va_G} {ad : Nat → Nat} {cI cZ cL : ClassId} {J : SJ} {rd : Nat → Int} {pr : Nat → Nat} {G : SH} {K : SK} {tl : va_W} {h rr v : Nat} (hh : h < 32 ∧ rr < 2) : zMv l TB D classes (tysW cI cZ cL) y_C_putReading w_C_putReading 0 0 [.ref (ad 9), .int (iZ ((h : Nat) : Int)), .int (iZ ((rr : Nat) : Int)), .int (iZ ((v : Nat) : Int))] (wdC ad cI cZ cL J rd pr G K tl) (fun w => w = wdC ad cI cZ cL J (zu rd (h * 2 + rr) ((v : Nat) : Int)) pr G K tl) := by
  refine z_of (Qc := fun A => va_Qv (fun w => w = wdC ad cI cZ cL J (zu rd (h * 2 + rr) ((v : Nat) : Int)) pr G K tl) (zB9 D classes (wdC ad cI cZ cL J rd pr G K tl)) A) (by decide) (Nat.le_of_ble_eq_true rfl) ?_
  intro p e s m below meth c A ls Z hP hK hD hS hA hl
  obtain ⟨hx, hb, hr, hml, hown, hts, hE, hlocks⟩ := id Z
  have hl : lv_has ls 4 [(0, .ref (ad 9)), (1, .int (iZ ((h : Nat) : Int))), (2, .int (iZ ((rr : Nat) : Int))), (3, .int (iZ ((v : Nat) : Int)))] := hl
  suffices K9 : ∀ (H : Heap) (locs : List Loc) (ls : Array Slot), va_P D classes (wdC ad cI cZ cL J rd pr G K tl) H → va_D A (wdC ad cI cZ cL J rd pr G K tl) → va_S A s.heap H locs → lv_has ls 4 [(0, .ref (ad 9)), (1, .int (iZ ((h : Nat) : Int))), (2, .int (iZ ((rr : Nat) : Int))), (3, .int (iZ ((v : Nat) : Int)))] → W p l e (zRm 0 0) s m ([.ref (ad 9), .int (iZ ((h : Nat) : Int)), .int (iZ ((rr : Nat) : Int)), .int (iZ ((v : Nat) : Int))] : List Value).toArray below meth c H locs 0 0 (MQ below (va_Qv (fun w => w = wdC ad cI cZ cL J (zu rd (h * 2 + rr) ((v : Nat) : Int)) pr G K tl) (zB9 D classes (wdC ad cI cZ cL J rd pr G K tl)) A) ([.ref (ad 9), .int (iZ ((h : Nat) : Int)), .int (iZ ((rr : Nat) : Int)), .int (iZ ((v : Nat) : Int))] : List Value).toArray s 0 0 A) (F0 m 0 ls []) from K9 s.heap [] ls hP hD hS hl
  clear hP hD hS hl
  intro H locs ls hP hD hS hl
  refine lv_aload_n hx hb d_C_putReading_0 rfl (lv_at hl 0 rfl) ?_
  refine va_get (D := D) (ci := 2) (v := .ref (ad 10)) (C := n_C) (T := f_C) (N := 1) hx hb hts in_C hown hK hP 9 rfl rfl 0 (by decide) (hts _ fl_C_9) (fun _ h9 => h9) rfl d_C_putReading_1 ?_
  refine lv_iload_n hx hb d_C_putReading_4 rfl (lv_at hl 1 rfl) ?_
  refine lv_iconst (v := iZ ((2 : Nat) : Int)) hx hb d_C_putReading_5 (by decide) ?_
  refine z_imulN (u := h) (v := 2) hx hb d_C_putReading_6 ?_
  refine lv_iload_n hx hb d_C_putReading_7 rfl (lv_at hl 2 rfl) ?_
  refine z_iaddN (u := h * 2) (v := rr) hx hb d_C_putReading_8 ?_
  refine lv_iload_n hx hb d_C_putReading_9 rfl (lv_at hl 3 rfl) ?_
  refine z_iast (f := rd) (v := ((v : Nat) : Int)) hx hb hK hP hD hS 10 0 rfl rfl ((h * 2) + rr) (by omega) d_C_putReading_10 (fun H locs hP hD hS => ?_)
  have hP : va_P D classes (wdC ad cI cZ cL J (zu rd ((h * 2) + rr) ((v : Nat) : Int)) pr G K tl) H := hP
  have hD : va_D A (wdC ad cI cZ cL J (zu rd ((h * 2) + rr) ((v : Nat) : Int)) pr G K tl) := hD
  exact z_vret Z hP hS d_C_putReading_11 wdC_map (rfl)

set_option maxHeartbeats 4000000 in
set_option maxRecDepth 100000 in
theorem k_D_haul1 {l : Launch} {D : va_G} {ad : Nat → Nat} {cI cZ cL : ClassId} {J : SJ} {rd : Nat → Int} {pr : Nat → Nat} {G : SH} {K : SK} {tl : va_W} {sh : Nat} (hI : JI J) (hsh : sh < 4) (hn : jn J < 32) (hop : jop J sh = -1) : zMi l TB D classes (tysW cI cZ cL) y_D_haul w_D_haul 3 81 [.ref (ad 0), .int (iZ ((sh : Nat) : Int))] (wdC ad cI cZ cL J rd pr G K tl) (fun r w => r = iZ ((jn J : Nat) : Int) ∧ w = wdC ad cI cZ cL (sH1 J sh) rd pr G K tl) := by
  refine z_of (Qc := fun A => va_Qi (fun r w => r = iZ ((jn J : Nat) : Int) ∧ w = wdC ad cI cZ cL (sH1 J sh) rd pr G K tl) (zB9 D classes (wdC ad cI cZ cL J rd pr G K tl)) A) (by decide) (Nat.le_of_ble_eq_true rfl) ?_
  intro p e s m below meth c A ls Z hP hK hD hS hA hl
  obtain ⟨hx, hb, hr, hml, hown, hts, hE, hlocks⟩ := id Z
  have hl : lv_has ls 2 [(0, .ref (ad 0)), (1, .int (iZ ((sh : Nat) : Int)))] := hl
  obtain ⟨hn32, hk2, hpr, hct⟩ := id hI
  suffices K9 : ∀ (H : Heap) (locs : List Loc) (ls : Array Slot), va_P D classes (wdC ad cI cZ cL J rd pr G K tl) H → va_D A (wdC ad cI cZ cL J rd pr G K tl) → va_S A s.heap H locs → lv_has ls 2 [(0, .ref (ad 0)), (1, .int (iZ ((sh : Nat) : Int)))] → W p l e (zRm 3 81) s m ([.ref (ad 0), .int (iZ ((sh : Nat) : Int))] : List Value).toArray below meth c H locs 0 0 (MQ below (va_Qi (fun r w => r = iZ ((jn J : Nat) : Int) ∧ w = wdC ad cI cZ cL (sH1 J sh) rd pr G K tl) (zB9 D classes (wdC ad cI cZ cL J rd pr G K tl)) A) ([.ref (ad 0), .int (iZ ((sh : Nat) : Int))] : List Value).toArray s 0 0 A) (F0 m 0 ls []) from K9 s.heap [] ls hP hD hS hl
  clear hP hD hS hl
  intro H locs ls hP hD hS hl
  refine lv_iload_n hx hb d_D_haul_0 rfl (lv_at hl 1 rfl) ?_
  refine z_callSR (As := [.int (iZ ((sh : Nat) : Int))]) (rest := []) zTB Z (k_D_needShip (a := ((sh : Nat) : Int)) (by omega)) ⟨ml_D_43, sm_D_needShip, ini_D, co_D_needShip⟩ zd_D_needShip ⟨Nat.le_of_ble_eq_true rfl, Nat.le_of_ble_eq_true rfl⟩ hP hK hl.1 rfl (Nat.le_of_ble_eq_true rfl) d_D_haul_1 ⟨Nat.zero_le _, Nat.zero_le _⟩ ?_
  refine W.eq (g2 := F0 m 4 ls []) rfl ?_
  refine lv_aload_n hx hb d_D_haul_4 rfl (lv_at hl 0 rfl) ?_
  refine va_get (D := D) (ci := 0) (v := .ref (ad 1)) (C := n_D) (T := f_D) (N := 5) hx hb hts in_D hown hK hP 0 rfl rfl 0 (by decide) (hts _ fl_D_14) (fun _ h9 => h9) rfl d_D_haul_5 ?_
  refine va_getN (D := D) (ci := 1) (v := .int (iZ ((jn J : Nat) : Int))) (C := n_J) (T := f_J) (N := 10) hx hb hts in_J hown hK hP 1 rfl rfl 1 (by decide) (hts _ fl_D_46) (fun _ h9 => h9) rfl d_D_haul_8 ?_
  refine lv_bipush (v := iZ ((32 : Nat) : Int)) hx hb d_D_haul_11 (by decide) ?_
  refine z_icmp_lt (a := ((jn J : Nat) : Int)) (b := ((32 : Nat) : Int)) (tgt := 26) hx hb (by omega) d_D_haul_13 (by decide) (fun q13 => ?_) (fun q13 => ?_)
  · skip
    refine lv_aload_n hx hb d_D_haul_26 rfl (lv_at hl 0 rfl) ?_
    refine va_get (D := D) (ci := 0) (v := .ref (ad 1)) (C := n_D) (T := f_D) (N := 5) hx hb hts in_D hown hK hP 0 rfl rfl 0 (by decide) (hts _ fl_D_14) (fun _ h9 => h9) rfl d_D_haul_27 ?_
    refine lv_iload_n hx hb d_D_haul_30 rfl (lv_at hl 1 rfl) ?_
    refine z_ki (z_runV (As := [.int (iZ ((sh : Nat) : Int))]) (rest := []) zTB Z (k_J_addHaul1 hsh hn hop) ⟨ml_D_57, im_J_addHaul, se_J_addHaul, ini_J, co_J_addHaul⟩ zd_J_addHaul ⟨Nat.le_of_ble_eq_true rfl, Nat.le_of_ble_eq_true rfl⟩ hP hK hD (ci := 1) (q0 := 1) rfl rfl rfl hl.1 rfl (Nat.le_of_ble_eq_true rfl) d_D_haul_31 ⟨Nat.zero_le _, Nat.zero_le _⟩) hD hS hA (fun r9 w9 H locs hp9 hP hD hS => ?_)
    obtain ⟨rfl, rfl⟩ := hp9
    have hP : va_P D classes (wdC ad cI cZ cL (sH1 J sh) rd pr G K tl) H := hP
    have hD : va_D A (wdC ad cI cZ cL (sH1 J sh) rd pr G K tl) := hD
    refine W.eq (g2 := F0 m 34 ls [.int (iZ ((jn J : Nat) : Int))]) rfl ?_
    exact z_iret Z hP hS d_D_haul_34 wdC_map (⟨rfl, rfl⟩)
  · skip
    exfalso; omega

set_option maxHeartbeats 4000000 in
set_option maxRecDepth 100000 in
theorem k_D_haul2 {l : Launch} {D : va_G} {ad : Nat → Nat} {cI cZ cL : ClassId} {J : SJ} {rd : Nat → Int} {pr : Nat → Nat} {G : SH} {K : SK} {tl : va_W} {sh f : Nat} (hI : JI J) (hsh : sh < 4) (hn : jn J < 32) (hk : jk J < 16) (hop : jop J sh = ((f : Nat) : Int)) (hf : f < 32) : zMi l TB D classes (tysW cI cZ cL) y_D_haul w_D_haul 3 81 [.ref (ad 0), .int (iZ ((sh : Nat) : Int))] (wdC ad cI cZ cL J rd pr G K tl) (fun r w => r = iZ ((jn J : Nat) : Int) ∧ w = wdC ad cI cZ cL (sH2 J sh f) rd pr G K tl) := by
  refine z_of (Qc := fun A => va_Qi (fun r w => r = iZ ((jn J : Nat) : Int) ∧ w = wdC ad cI cZ cL (sH2 J sh f) rd pr G K tl) (zB9 D classes (wdC ad cI cZ cL J rd pr G K tl)) A) (by decide) (Nat.le_of_ble_eq_true rfl) ?_
  intro p e s m below meth c A ls Z hP hK hD hS hA hl
  obtain ⟨hx, hb, hr, hml, hown, hts, hE, hlocks⟩ := id Z
  have hl : lv_has ls 2 [(0, .ref (ad 0)), (1, .int (iZ ((sh : Nat) : Int)))] := hl
  obtain ⟨hn32, hk2, hpr, hct⟩ := id hI
  suffices K9 : ∀ (H : Heap) (locs : List Loc) (ls : Array Slot), va_P D classes (wdC ad cI cZ cL J rd pr G K tl) H → va_D A (wdC ad cI cZ cL J rd pr G K tl) → va_S A s.heap H locs → lv_has ls 2 [(0, .ref (ad 0)), (1, .int (iZ ((sh : Nat) : Int)))] → W p l e (zRm 3 81) s m ([.ref (ad 0), .int (iZ ((sh : Nat) : Int))] : List Value).toArray below meth c H locs 0 0 (MQ below (va_Qi (fun r w => r = iZ ((jn J : Nat) : Int) ∧ w = wdC ad cI cZ cL (sH2 J sh f) rd pr G K tl) (zB9 D classes (wdC ad cI cZ cL J rd pr G K tl)) A) ([.ref (ad 0), .int (iZ ((sh : Nat) : Int))] : List Value).toArray s 0 0 A) (F0 m 0 ls []) from K9 s.heap [] ls hP hD hS hl
  clear hP hD hS hl
  intro H locs ls hP hD hS hl
  refine lv_iload_n hx hb d_D_haul_0 rfl (lv_at hl 1 rfl) ?_
  refine z_callSR (As := [.int (iZ ((sh : Nat) : Int))]) (rest := []) zTB Z (k_D_needShip (a := ((sh : Nat) : Int)) (by omega)) ⟨ml_D_43, sm_D_needShip, ini_D, co_D_needShip⟩ zd_D_needShip ⟨Nat.le_of_ble_eq_true rfl, Nat.le_of_ble_eq_true rfl⟩ hP hK hl.1 rfl (Nat.le_of_ble_eq_true rfl) d_D_haul_1 ⟨Nat.zero_le _, Nat.zero_le _⟩ ?_
  refine W.eq (g2 := F0 m 4 ls []) rfl ?_
  refine lv_aload_n hx hb d_D_haul_4 rfl (lv_at hl 0 rfl) ?_
  refine va_get (D := D) (ci := 0) (v := .ref (ad 1)) (C := n_D) (T := f_D) (N := 5) hx hb hts in_D hown hK hP 0 rfl rfl 0 (by decide) (hts _ fl_D_14) (fun _ h9 => h9) rfl d_D_haul_5 ?_
  refine va_getN (D := D) (ci := 1) (v := .int (iZ ((jn J : Nat) : Int))) (C := n_J) (T := f_J) (N := 10) hx hb hts in_J hown hK hP 1 rfl rfl 1 (by decide) (hts _ fl_D_46) (fun _ h9 => h9) rfl d_D_haul_8 ?_
  refine lv_bipush (v := iZ ((32 : Nat) : Int)) hx hb d_D_haul_11 (by decide) ?_
  refine z_icmp_lt (a := ((jn J : Nat) : Int)) (b := ((32 : Nat) : Int)) (tgt := 26) hx hb (by omega) d_D_haul_13 (by decide) (fun q13 => ?_) (fun q13 => ?_)
  · skip
    refine lv_aload_n hx hb d_D_haul_26 rfl (lv_at hl 0 rfl) ?_
    refine va_get (D := D) (ci := 0) (v := .ref (ad 1)) (C := n_D) (T := f_D) (N := 5) hx hb hts in_D hown hK hP 0 rfl rfl 0 (by decide) (hts _ fl_D_14) (fun _ h9 => h9) rfl d_D_haul_27 ?_
    refine lv_iload_n hx hb d_D_haul_30 rfl (lv_at hl 1 rfl) ?_
    refine z_ki (z_runV (As := [.int (iZ ((sh : Nat) : Int))]) (rest := []) zTB Z (k_J_addHaul2 hsh hn hk hop hf) ⟨ml_D_57, im_J_addHaul, se_J_addHaul, ini_J, co_J_addHaul⟩ zd_J_addHaul ⟨Nat.le_of_ble_eq_true rfl, Nat.le_of_ble_eq_true rfl⟩ hP hK hD (ci := 1) (q0 := 1) rfl rfl rfl hl.1 rfl (Nat.le_of_ble_eq_true rfl) d_D_haul_31 ⟨Nat.zero_le _, Nat.zero_le _⟩) hD hS hA (fun r9 w9 H locs hp9 hP hD hS => ?_)
    obtain ⟨rfl, rfl⟩ := hp9
    have hP : va_P D classes (wdC ad cI cZ cL (sH2 J sh f) rd pr G K tl) H := hP
    have hD : va_D A (wdC ad cI cZ cL (sH2 J sh f) rd pr G K tl) := hD
    refine W.eq (g2 := F0 m 34 ls [.int (iZ ((jn J : Nat) : Int))]) rfl ?_
    exact z_iret Z hP hS d_D_haul_34 wdC_map (⟨rfl, rfl⟩)
  · skip
    exfalso; omega

set_option maxHeartbeats 4000000 in
set_option maxRecDepth 100000 in
theorem k_D_caught {l : Launch} {D : va_G} {ad : Nat → Nat} {cI cZ cL : ClassId} {J : SJ} {rd : Nat → Int} {pr : Nat → Nat} {G : SH} {K : SK} {tl : va_W} {h kd v : Nat} (hI : JI J) (hh : h < jn J) (hkd : kd < 3) (hv : v ≤ 1000) : zMi l TB D classes (tysW cI cZ cL) y_D_caught w_D_caught 3 82 [.ref (ad 0), .int (iZ ((h : Nat) : Int)), .int (iZ ((kd : Nat) : Int)), .int (iZ ((v : Nat) : Int))] (wdC ad cI cZ cL J rd pr G K tl) (fun r w => r = bI (decide (jct J (h * 3 + kd) ≠ v)) ∧ w = wdC ad cI cZ cL (sPC9 J (h * 3 + kd) v) rd pr G K tl) := by
  refine z_of (Qc := fun A => va_Qi (fun r w => r = bI (decide (jct J (h * 3 + kd) ≠ v)) ∧ w = wdC ad cI cZ cL (sPC9 J (h * 3 + kd) v) rd pr G K tl) (zB9 D classes (wdC ad cI cZ cL J rd pr G K tl)) A) (by decide) (Nat.le_of_ble_eq_true rfl) ?_
  intro p e s m below meth c A ls Z hP hK hD hS hA hl
  obtain ⟨hx, hb, hr, hml, hown, hts, hE, hlocks⟩ := id Z
  have hl : lv_has ls 4 [(0, .ref (ad 0)), (1, .int (iZ ((h : Nat) : Int))), (2, .int (iZ ((kd : Nat) : Int))), (3, .int (iZ ((v : Nat) : Int)))] := hl
  obtain ⟨hn32, hk2, hpr, hct⟩ := id hI
  suffices K9 : ∀ (H : Heap) (locs : List Loc) (ls : Array Slot), va_P D classes (wdC ad cI cZ cL J rd pr G K tl) H → va_D A (wdC ad cI cZ cL J rd pr G K tl) → va_S A s.heap H locs → lv_has ls 4 [(0, .ref (ad 0)), (1, .int (iZ ((h : Nat) : Int))), (2, .int (iZ ((kd : Nat) : Int))), (3, .int (iZ ((v : Nat) : Int)))] → W p l e (zRm 3 82) s m ([.ref (ad 0), .int (iZ ((h : Nat) : Int)), .int (iZ ((kd : Nat) : Int)), .int (iZ ((v : Nat) : Int))] : List Value).toArray below meth c H locs 0 0 (MQ below (va_Qi (fun r w => r = bI (decide (jct J (h * 3 + kd) ≠ v)) ∧ w = wdC ad cI cZ cL (sPC9 J (h * 3 + kd) v) rd pr G K tl) (zB9 D classes (wdC ad cI cZ cL J rd pr G K tl)) A) ([.ref (ad 0), .int (iZ ((h : Nat) : Int)), .int (iZ ((kd : Nat) : Int)), .int (iZ ((v : Nat) : Int))] : List Value).toArray s 0 0 A) (F0 m 0 ls []) from K9 s.heap [] ls hP hD hS hl
  clear hP hD hS hl
  intro H locs ls hP hD hS hl
  refine lv_aload_n hx hb d_D_caught_0 rfl (lv_at hl 0 rfl) ?_
  refine lv_iload_n hx hb d_D_caught_1 rfl (lv_at hl 1 rfl) ?_
  refine z_callVR (As := [.int (iZ ((h : Nat) : Int))]) (rest := []) zTB Z (k_D_needHaul (a := ((h : Nat) : Int)) (by omega)) ⟨ml_D_61, im_D_needHaul, se_D_needHaul, ini_D, co_D_needHaul⟩ zd_D_needHaul ⟨Nat.le_of_ble_eq_true rfl, Nat.le_of_ble_eq_true rfl⟩ hP hK (ci := 0) (q0 := 0) rfl rfl rfl hl.1 rfl (Nat.le_of_ble_eq_true rfl) d_D_caught_2 ⟨Nat.zero_le _, Nat.zero_le _⟩ ?_
  refine W.eq (g2 := F0 m 5 ls []) rfl ?_
  refine lv_iload_n hx hb d_D_caught_5 rfl (lv_at hl 2 rfl) ?_
  refine z_callSR (As := [.int (iZ ((kd : Nat) : Int))]) (rest := []) zTB Z (k_D_needKind (a := ((kd : Nat) : Int)) (by omega)) ⟨ml_D_64, sm_D_needKind, ini_D, co_D_needKind⟩ zd_D_needKind ⟨Nat.le_of_ble_eq_true rfl, Nat.le_of_ble_eq_true rfl⟩ hP hK hl.1 rfl (Nat.le_of_ble_eq_true rfl) d_D_caught_6 ⟨Nat.zero_le _, Nat.zero_le _⟩ ?_
  refine W.eq (g2 := F0 m 9 ls []) rfl ?_
  refine lv_iload_n hx hb d_D_caught_9 rfl (lv_at hl 3 rfl) ?_
  refine lv_iconst (v := iZ ((0 : Nat) : Int)) hx hb d_D_caught_10 (by decide) ?_
  refine lv_sipush (v := iZ ((1000 : Nat) : Int)) hx hb d_D_caught_11 (by decide) ?_
  refine z_callSR (As := [.int (iZ ((v : Nat) : Int)), .int (iZ ((0 : Nat) : Int)), .int (iZ ((1000 : Nat) : Int))]) (rest := []) zTB Z (k_D_needNumber (a := ((v : Nat) : Int)) (b := ((0 : Nat) : Int)) (c9 := ((1000 : Nat) : Int)) (by omega)) ⟨ml_D_67, sm_D_needNumber, ini_D, co_D_needNumber⟩ zd_D_needNumber ⟨Nat.le_of_ble_eq_true rfl, Nat.le_of_ble_eq_true rfl⟩ hP hK hl.1 rfl (Nat.le_of_ble_eq_true rfl) d_D_caught_14 ⟨Nat.zero_le _, Nat.zero_le _⟩ ?_
  refine W.eq (g2 := F0 m 17 ls []) rfl ?_
  refine lv_aload_n hx hb d_D_caught_17 rfl (lv_at hl 0 rfl) ?_
  refine va_get (D := D) (ci := 0) (v := .ref (ad 1)) (C := n_D) (T := f_D) (N := 5) hx hb hts in_D hown hK hP 0 rfl rfl 0 (by decide) (hts _ fl_D_14) (fun _ h9 => h9) rfl d_D_caught_18 ?_
  refine lv_iload_n hx hb d_D_caught_21 rfl (lv_at hl 1 rfl) ?_
  refine lv_iload_n hx hb d_D_caught_22 rfl (lv_at hl 2 rfl) ?_
  refine lv_iload_n hx hb d_D_caught_23 rfl (lv_at hl 3 rfl) ?_
  refine z_ki (z_runV (As := [.int (iZ ((h : Nat) : Int)), .int (iZ ((kd : Nat) : Int)), .int (iZ ((v : Nat) : Int))]) (rest := []) zTB Z (k_J_putCount (h := h) (kd := kd) (v := v) (by omega) hct) ⟨ml_D_71, im_J_putCount, se_J_putCount, ini_J, co_J_putCount⟩ zd_J_putCount ⟨Nat.le_of_ble_eq_true rfl, Nat.le_of_ble_eq_true rfl⟩ hP hK hD (ci := 1) (q0 := 1) rfl rfl rfl hl.1 rfl (Nat.le_of_ble_eq_true rfl) d_D_caught_24 ⟨Nat.zero_le _, Nat.zero_le _⟩) hD hS hA (fun r9 w9 H locs hp9 hP hD hS => ?_)
  obtain ⟨rfl, rfl⟩ := hp9
  have hP : va_P D classes (wdC ad cI cZ cL (sPC9 J (h * 3 + kd) v) rd pr G K tl) H := hP
  have hD : va_D A (wdC ad cI cZ cL (sPC9 J (h * 3 + kd) v) rd pr G K tl) := hD
  refine W.eq (g2 := F0 m 27 ls [.int (bI (decide (jct J (h * 3 + kd) ≠ v)))]) rfl ?_
  exact z_zret Z hP hS d_D_caught_27 wdC_map (⟨rfl, rfl⟩)

set_option maxHeartbeats 4000000 in
set_option maxRecDepth 100000 in
theorem k_D_out {l : Launch} {D : va_G} {ad : Nat → Nat} {cI cZ cL : ClassId} {J : SJ} {rd : Nat → Int} {pr : Nat → Nat} {G : SH} {K : SK} {tl : va_W} {sh : Nat} {on : Bool} (hsh : sh < 4) : zMi l TB D classes (tysW cI cZ cL) y_D_out w_D_out 3 81 [.ref (ad 0), .int (iZ ((sh : Nat) : Int)), .int (bI (on))] (wdC ad cI cZ cL J rd pr G K tl) (fun r w => r = bI (jou J sh != on) ∧ w = wdC ad cI cZ cL (sLO J sh on) rd pr G K tl) := by
  refine z_of (Qc := fun A => va_Qi (fun r w => r = bI (jou J sh != on) ∧ w = wdC ad cI cZ cL (sLO J sh on) rd pr G K tl) (zB9 D classes (wdC ad cI cZ cL J rd pr G K tl)) A) (by decide) (Nat.le_of_ble_eq_true rfl) ?_
  intro p e s m below meth c A ls Z hP hK hD hS hA hl
  obtain ⟨hx, hb, hr, hml, hown, hts, hE, hlocks⟩ := id Z
  have hl : lv_has ls 3 [(0, .ref (ad 0)), (1, .int (iZ ((sh : Nat) : Int))), (2, .int (bI (on)))] := hl
  suffices K9 : ∀ (H : Heap) (locs : List Loc) (ls : Array Slot), va_P D classes (wdC ad cI cZ cL J rd pr G K tl) H → va_D A (wdC ad cI cZ cL J rd pr G K tl) → va_S A s.heap H locs → lv_has ls 3 [(0, .ref (ad 0)), (1, .int (iZ ((sh : Nat) : Int))), (2, .int (bI (on)))] → W p l e (zRm 3 81) s m ([.ref (ad 0), .int (iZ ((sh : Nat) : Int)), .int (bI (on))] : List Value).toArray below meth c H locs 0 0 (MQ below (va_Qi (fun r w => r = bI (jou J sh != on) ∧ w = wdC ad cI cZ cL (sLO J sh on) rd pr G K tl) (zB9 D classes (wdC ad cI cZ cL J rd pr G K tl)) A) ([.ref (ad 0), .int (iZ ((sh : Nat) : Int)), .int (bI (on))] : List Value).toArray s 0 0 A) (F0 m 0 ls []) from K9 s.heap [] ls hP hD hS hl
  clear hP hD hS hl
  intro H locs ls hP hD hS hl
  refine lv_iload_n hx hb d_D_out_0 rfl (lv_at hl 1 rfl) ?_
  refine z_callSR (As := [.int (iZ ((sh : Nat) : Int))]) (rest := []) zTB Z (k_D_needShip (a := ((sh : Nat) : Int)) (by omega)) ⟨ml_D_43, sm_D_needShip, ini_D, co_D_needShip⟩ zd_D_needShip ⟨Nat.le_of_ble_eq_true rfl, Nat.le_of_ble_eq_true rfl⟩ hP hK hl.1 rfl (Nat.le_of_ble_eq_true rfl) d_D_out_1 ⟨Nat.zero_le _, Nat.zero_le _⟩ ?_
  refine W.eq (g2 := F0 m 4 ls []) rfl ?_
  refine lv_aload_n hx hb d_D_out_4 rfl (lv_at hl 0 rfl) ?_
  refine va_get (D := D) (ci := 0) (v := .ref (ad 1)) (C := n_D) (T := f_D) (N := 5) hx hb hts in_D hown hK hP 0 rfl rfl 0 (by decide) (hts _ fl_D_14) (fun _ h9 => h9) rfl d_D_out_5 ?_
  refine lv_iload_n hx hb d_D_out_8 rfl (lv_at hl 1 rfl) ?_
  refine lv_iload_n hx hb d_D_out_9 rfl (lv_at hl 2 rfl) ?_
  refine z_ki (z_runV (As := [.int (iZ ((sh : Nat) : Int)), .int (bI (on))]) (rest := []) zTB Z (k_J_leaveOut (sh := sh) (on := on) hsh) ⟨ml_D_75, im_J_leaveOut, se_J_leaveOut, ini_J, co_J_leaveOut⟩ zd_J_leaveOut ⟨Nat.le_of_ble_eq_true rfl, Nat.le_of_ble_eq_true rfl⟩ hP hK hD (ci := 1) (q0 := 1) rfl rfl rfl hl.1 rfl (Nat.le_of_ble_eq_true rfl) d_D_out_10 ⟨Nat.zero_le _, Nat.zero_le _⟩) hD hS hA (fun r9 w9 H locs hp9 hP hD hS => ?_)
  obtain ⟨rfl, rfl⟩ := hp9
  have hP : va_P D classes (wdC ad cI cZ cL (sLO J sh on) rd pr G K tl) H := hP
  have hD : va_D A (wdC ad cI cZ cL (sLO J sh on) rd pr G K tl) := hD
  refine W.eq (g2 := F0 m 13 ls [.int (bI (jou J sh != on))]) rfl ?_
  exact z_zret Z hP hS d_D_out_13 wdC_map (⟨rfl, rfl⟩)

theorem RI_u {rd : Nat → Int} (hR : RI rd) {j : Nat} {v : Int} (h : -1 ≤ v ∧ v ≤ 100000) : RI (zu rd j v) := fun i => by
  unfold zu
  split
  · exact h
  · exact hR i
set_option maxHeartbeats 4000000 in
set_option maxRecDepth 100000 in
theorem k_D_reader {l : Launch} {D : va_G} {ad : Nat → Nat} {cI cZ cL : ClassId} {J : SJ} {rd : Nat → Int} {pr : Nat → Nat} {G : SH} {K : SK} {tl : va_W} {h rr v : Nat} (hI : JI J) (hR : RI rd) (hh : h < jn J) (hrr : rr < 2) (hv : v ≤ 100000) : zMi l TB D classes (tysW cI cZ cL) y_D_reader w_D_reader 3 82 [.ref (ad 0), .int (iZ ((h : Nat) : Int)), .int (iZ ((rr : Nat) : Int)), .int (iZ ((v : Nat) : Int))] (wdC ad cI cZ cL J rd pr G K tl) (fun r w => r = bI (sUn (zu rd (h * 2 + rr) ((v : Nat) : Int)) h) ∧ w = wdC ad cI cZ cL J (zu rd (h * 2 + rr) ((v : Nat) : Int)) pr G K tl) := by
  refine z_of (Qc := fun A => va_Qi (fun r w => r = bI (sUn (zu rd (h * 2 + rr) ((v : Nat) : Int)) h) ∧ w = wdC ad cI cZ cL J (zu rd (h * 2 + rr) ((v : Nat) : Int)) pr G K tl) (zB9 D classes (wdC ad cI cZ cL J rd pr G K tl)) A) (by decide) (Nat.le_of_ble_eq_true rfl) ?_
  intro p e s m below meth c A ls Z hP hK hD hS hA hl
  obtain ⟨hx, hb, hr, hml, hown, hts, hE, hlocks⟩ := id Z
  have hl : lv_has ls 4 [(0, .ref (ad 0)), (1, .int (iZ ((h : Nat) : Int))), (2, .int (iZ ((rr : Nat) : Int))), (3, .int (iZ ((v : Nat) : Int)))] := hl
  obtain ⟨hn32, hk2, hpr, hct⟩ := id hI
  have hR2 : RI (zu rd (h * 2 + rr) ((v : Nat) : Int)) := RI_u hR (by omega)
  suffices K9 : ∀ (H : Heap) (locs : List Loc) (ls : Array Slot), va_P D classes (wdC ad cI cZ cL J rd pr G K tl) H → va_D A (wdC ad cI cZ cL J rd pr G K tl) → va_S A s.heap H locs → lv_has ls 4 [(0, .ref (ad 0)), (1, .int (iZ ((h : Nat) : Int))), (2, .int (iZ ((rr : Nat) : Int))), (3, .int (iZ ((v : Nat) : Int)))] → W p l e (zRm 3 82) s m ([.ref (ad 0), .int (iZ ((h : Nat) : Int)), .int (iZ ((rr : Nat) : Int)), .int (iZ ((v : Nat) : Int))] : List Value).toArray below meth c H locs 0 0 (MQ below (va_Qi (fun r w => r = bI (sUn (zu rd (h * 2 + rr) ((v : Nat) : Int)) h) ∧ w = wdC ad cI cZ cL J (zu rd (h * 2 + rr) ((v : Nat) : Int)) pr G K tl) (zB9 D classes (wdC ad cI cZ cL J rd pr G K tl)) A) ([.ref (ad 0), .int (iZ ((h : Nat) : Int)), .int (iZ ((rr : Nat) : Int)), .int (iZ ((v : Nat) : Int))] : List Value).toArray s 0 0 A) (F0 m 0 ls []) from K9 s.heap [] ls hP hD hS hl
  clear hP hD hS hl
  intro H locs ls hP hD hS hl
  refine lv_aload_n hx hb d_D_reader_0 rfl (lv_at hl 0 rfl) ?_
  refine lv_iload_n hx hb d_D_reader_1 rfl (lv_at hl 1 rfl) ?_
  refine z_callVR (As := [.int (iZ ((h : Nat) : Int))]) (rest := []) zTB Z (k_D_needHaul (a := ((h : Nat) : Int)) (by omega)) ⟨ml_D_61, im_D_needHaul, se_D_needHaul, ini_D, co_D_needHaul⟩ zd_D_needHaul ⟨Nat.le_of_ble_eq_true rfl, Nat.le_of_ble_eq_true rfl⟩ hP hK (ci := 0) (q0 := 0) rfl rfl rfl hl.1 rfl (Nat.le_of_ble_eq_true rfl) d_D_reader_2 ⟨Nat.zero_le _, Nat.zero_le _⟩ ?_
  refine W.eq (g2 := F0 m 5 ls []) rfl ?_
  refine lv_iload_n hx hb d_D_reader_5 rfl (lv_at hl 2 rfl) ?_
  refine lv_iconst (v := iZ ((2 : Nat) : Int)) hx hb d_D_reader_6 (by decide) ?_
  refine z_callSR (As := [.int (iZ ((rr : Nat) : Int)), .int (iZ ((2 : Nat) : Int))]) (rest := []) zTB Z (k_D_needIndex (a := ((rr : Nat) : Int)) (b := ((2 : Nat) : Int)) (by omega)) ⟨ml_D_86, sm_D_needIndex, ini_D, co_D_needIndex⟩ zd_D_needIndex ⟨Nat.le_of_ble_eq_true rfl, Nat.le_of_ble_eq_true rfl⟩ hP hK hl.1 rfl (Nat.le_of_ble_eq_true rfl) d_D_reader_7 ⟨Nat.zero_le _, Nat.zero_le _⟩ ?_
  refine W.eq (g2 := F0 m 10 ls []) rfl ?_
  refine lv_iload_n hx hb d_D_reader_10 rfl (lv_at hl 3 rfl) ?_
  refine lv_iconst (v := iZ ((0 : Nat) : Int)) hx hb d_D_reader_11 (by decide) ?_
  refine lv_ldc (v := iZ ((100000 : Nat) : Int)) hx hb hown (hts _ ck9_D_169) d_D_reader_12 ?_
  refine z_callSR (As := [.int (iZ ((v : Nat) : Int)), .int (iZ ((0 : Nat) : Int)), .int (iZ ((100000 : Nat) : Int))]) (rest := []) zTB Z (k_D_needNumber (a := ((v : Nat) : Int)) (b := ((0 : Nat) : Int)) (c9 := ((100000 : Nat) : Int)) (by omega)) ⟨ml_D_67, sm_D_needNumber, ini_D, co_D_needNumber⟩ zd_D_needNumber ⟨Nat.le_of_ble_eq_true rfl, Nat.le_of_ble_eq_true rfl⟩ hP hK hl.1 rfl (Nat.le_of_ble_eq_true rfl) d_D_reader_14 ⟨Nat.zero_le _, Nat.zero_le _⟩ ?_
  refine W.eq (g2 := F0 m 17 ls []) rfl ?_
  refine lv_aload_n hx hb d_D_reader_17 rfl (lv_at hl 0 rfl) ?_
  refine va_get (D := D) (ci := 0) (v := .ref (ad 9)) (C := n_D) (T := f_D) (N := 5) hx hb hts in_D hown hK hP 0 rfl rfl 1 (by decide) (hts _ fl_D_21) (fun _ h9 => h9) rfl d_D_reader_18 ?_
  refine lv_iload_n hx hb d_D_reader_21 rfl (lv_at hl 1 rfl) ?_
  refine lv_iload_n hx hb d_D_reader_22 rfl (lv_at hl 2 rfl) ?_
  refine lv_iload_n hx hb d_D_reader_23 rfl (lv_at hl 3 rfl) ?_
  refine z_kv (z_runV (As := [.int (iZ ((h : Nat) : Int)), .int (iZ ((rr : Nat) : Int)), .int (iZ ((v : Nat) : Int))]) (rest := []) zTB Z (k_C_putReading (h := h) (rr := rr) (v := v) (by omega)) ⟨ml_D_170, im_C_putReading, se_C_putReading, ini_C, co_C_putReading⟩ zd_C_putReading ⟨Nat.le_of_ble_eq_true rfl, Nat.le_of_ble_eq_true rfl⟩ hP hK hD (ci := 2) (q0 := 9) rfl rfl rfl hl.1 rfl (Nat.le_of_ble_eq_true rfl) d_D_reader_24 ⟨Nat.zero_le _, Nat.zero_le _⟩) hD hS hA (fun w9 H locs hp9 hP hD hS => ?_)
  obtain rfl := hp9
  have hP : va_P D classes (wdC ad cI cZ cL J (zu rd (h * 2 + rr) ((v : Nat) : Int)) pr G K tl) H := hP
  have hD : va_D A (wdC ad cI cZ cL J (zu rd (h * 2 + rr) ((v : Nat) : Int)) pr G K tl) := hD
  refine W.eq (g2 := F0 m 27 ls []) rfl ?_
  refine lv_aload_n hx hb d_D_reader_27 rfl (lv_at hl 0 rfl) ?_
  refine va_get (D := D) (ci := 0) (v := .ref (ad 9)) (C := n_D) (T := f_D) (N := 5) hx hb hts in_D hown hK hP 0 rfl rfl 1 (by decide) (hts _ fl_D_21) (fun _ h9 => h9) rfl d_D_reader_28 ?_
  refine lv_iload_n hx hb d_D_reader_31 rfl (lv_at hl 1 rfl) ?_
  refine z_callVR (As := [.int (iZ ((h : Nat) : Int))]) (rest := []) zTB Z (k_C_differs hR2 (h := h) (by omega)) ⟨ml_D_173, im_C_differs, se_C_differs, ini_C, co_C_differs⟩ zd_C_differs ⟨Nat.le_of_ble_eq_true rfl, Nat.le_of_ble_eq_true rfl⟩ hP hK (ci := 2) (q0 := 9) rfl rfl rfl hl.1 rfl (Nat.le_of_ble_eq_true rfl) d_D_reader_32 ⟨Nat.zero_le _, Nat.zero_le _⟩ ?_
  refine W.eq (g2 := F0 m 35 ls [.int (bI (sUn (zu rd (h * 2 + rr) ((v : Nat) : Int)) h))]) rfl ?_
  exact z_zret Z hP hS d_D_reader_35 wdC_map (⟨rfl, rfl⟩)

set_option maxHeartbeats 4000000 in
set_option maxRecDepth 100000 in
theorem k_D_price {l : Launch} {D : va_G} {ad : Nat → Nat} {cI cZ cL : ClassId} {J : SJ} {rd : Nat → Int} {pr : Nat → Nat} {G : SH} {K : SK} {tl : va_W} {kd v : Nat} (hkd : kd < 3) (hv : v ≤ 100000) : zMv l TB D classes (tysW cI cZ cL) y_D_price w_D_price 3 81 [.ref (ad 0), .int (iZ ((kd : Nat) : Int)), .int (iZ ((v : Nat) : Int))] (wdC ad cI cZ cL J rd pr G K tl) (fun w => w = wdC ad cI cZ cL J rd (nu pr kd v) G K tl) := by
  refine z_of (Qc := fun A => va_Qv (fun w => w = wdC ad cI cZ cL J rd (nu pr kd v) G K tl) (zB9 D classes (wdC ad cI cZ cL J rd pr G K tl)) A) (by decide) (Nat.le_of_ble_eq_true rfl) ?_
  intro p e s m below meth c A ls Z hP hK hD hS hA hl
  obtain ⟨hx, hb, hr, hml, hown, hts, hE, hlocks⟩ := id Z
  have hl : lv_has ls 3 [(0, .ref (ad 0)), (1, .int (iZ ((kd : Nat) : Int))), (2, .int (iZ ((v : Nat) : Int)))] := hl
  suffices K9 : ∀ (H : Heap) (locs : List Loc) (ls : Array Slot), va_P D classes (wdC ad cI cZ cL J rd pr G K tl) H → va_D A (wdC ad cI cZ cL J rd pr G K tl) → va_S A s.heap H locs → lv_has ls 3 [(0, .ref (ad 0)), (1, .int (iZ ((kd : Nat) : Int))), (2, .int (iZ ((v : Nat) : Int)))] → W p l e (zRm 3 81) s m ([.ref (ad 0), .int (iZ ((kd : Nat) : Int)), .int (iZ ((v : Nat) : Int))] : List Value).toArray below meth c H locs 0 0 (MQ below (va_Qv (fun w => w = wdC ad cI cZ cL J rd (nu pr kd v) G K tl) (zB9 D classes (wdC ad cI cZ cL J rd pr G K tl)) A) ([.ref (ad 0), .int (iZ ((kd : Nat) : Int)), .int (iZ ((v : Nat) : Int))] : List Value).toArray s 0 0 A) (F0 m 0 ls []) from K9 s.heap [] ls hP hD hS hl
  clear hP hD hS hl
  intro H locs ls hP hD hS hl
  refine lv_iload_n hx hb d_D_price_0 rfl (lv_at hl 1 rfl) ?_
  refine z_callSR (As := [.int (iZ ((kd : Nat) : Int))]) (rest := []) zTB Z (k_D_needKind (a := ((kd : Nat) : Int)) (by omega)) ⟨ml_D_64, sm_D_needKind, ini_D, co_D_needKind⟩ zd_D_needKind ⟨Nat.le_of_ble_eq_true rfl, Nat.le_of_ble_eq_true rfl⟩ hP hK hl.1 rfl (Nat.le_of_ble_eq_true rfl) d_D_price_1 ⟨Nat.zero_le _, Nat.zero_le _⟩ ?_
  refine W.eq (g2 := F0 m 4 ls []) rfl ?_
  refine lv_iload_n hx hb d_D_price_4 rfl (lv_at hl 2 rfl) ?_
  refine lv_iconst (v := iZ ((0 : Nat) : Int)) hx hb d_D_price_5 (by decide) ?_
  refine lv_ldc (v := iZ ((100000 : Nat) : Int)) hx hb hown (hts _ ck9_D_169) d_D_price_6 ?_
  refine z_callSR (As := [.int (iZ ((v : Nat) : Int)), .int (iZ ((0 : Nat) : Int)), .int (iZ ((100000 : Nat) : Int))]) (rest := []) zTB Z (k_D_needNumber (a := ((v : Nat) : Int)) (b := ((0 : Nat) : Int)) (c9 := ((100000 : Nat) : Int)) (by omega)) ⟨ml_D_67, sm_D_needNumber, ini_D, co_D_needNumber⟩ zd_D_needNumber ⟨Nat.le_of_ble_eq_true rfl, Nat.le_of_ble_eq_true rfl⟩ hP hK hl.1 rfl (Nat.le_of_ble_eq_true rfl) d_D_price_8 ⟨Nat.zero_le _, Nat.zero_le _⟩ ?_
  refine W.eq (g2 := F0 m 11 ls []) rfl ?_
  refine lv_aload_n hx hb d_D_price_11 rfl (lv_at hl 0 rfl) ?_
  refine va_get (D := D) (ci := 0) (v := .ref (ad 18)) (C := n_D) (T := f_D) (N := 5) hx hb hts in_D hown hK hP 0 rfl rfl 4 (by decide) (hts _ fl_D_39) (fun _ h9 => h9) rfl d_D_price_12 ?_
  refine lv_iload_n hx hb d_D_price_15 rfl (lv_at hl 1 rfl) ?_
  refine lv_iload_n hx hb d_D_price_16 rfl (lv_at hl 2 rfl) ?_
  refine z_iastN (f := pr) (v := v) hx hb hK hP hD hS 18 0 rfl rfl (kd) (by omega) d_D_price_17 (fun H locs hP hD hS => ?_)
  have hP : va_P D classes (wdC ad cI cZ cL J rd (nu pr (kd) v) G K tl) H := hP
  have hD : va_D A (wdC ad cI cZ cL J rd (nu pr (kd) v) G K tl) := hD
  exact z_vret Z hP hS d_D_price_18 wdC_map (rfl)
end
section
/-! Sums over all choices; merging; copying. -/
/-- the sum of g over 0 .. n-1 -/
def su_to (g : Nat → Nat) : Nat → Nat
  | 0 => 0
  | n + 1 => su_to g n + g n
theorem su_to_congr {g h : Nat → Nat} : ∀ (n : Nat), (∀ j, j < n → g j = h j) → su_to g n = su_to h n
  | 0, _ => rfl
  | n + 1, e => by
    show su_to g n + g n = su_to h n + h n
    rw [su_to_congr n (fun j hj => e j (by omega)), e n (by omega)]
theorem su_to_add (g h : Nat → Nat) : ∀ (n : Nat), su_to (fun j => g j + h j) n = su_to g n + su_to h n
  | 0 => rfl
  | n + 1 => by
    show su_to (fun j => g j + h j) n + (g n + h n) = (su_to g n + g n) + (su_to h n + h n)
    rw [su_to_add g h n]; omega
/-- the sum of f over all choices' sums, of the weights wt a .. wt (a + n - 1) -/
def su_S (wt : Nat → Int) (a : Nat) : Nat → (Int → Nat) → Nat
  | 0, f => f 0
  | n + 1, f => su_S wt a n f + su_S wt a n (fun s => f (s + wt (a + n)))
theorem su_S_add (wt : Nat → Int) (a : Nat) : ∀ (n : Nat) (f g : Int → Nat), su_S wt a n (fun s => f s + g s) = su_S wt a n f + su_S wt a n g
  | 0, _, _ => rfl
  | n + 1, f, g => by
    show su_S wt a n (fun s => f s + g s) + su_S wt a n (fun s => f (s + wt (a + n)) + g (s + wt (a + n))) = _
    rw [su_S_add wt a n f g, su_S_add wt a n (fun s => f (s + wt (a + n))) (fun s => g (s + wt (a + n)))]
    show _ = (su_S wt a n f + su_S wt a n (fun s => f (s + wt (a + n)))) + (su_S wt a n g + su_S wt a n (fun s => g (s + wt (a + n))))
    omega
theorem su_S_congr {wt wt' : Nat → Int} {a : Nat} : ∀ (n : Nat) {f g : Int → Nat}, (∀ j, j < n → wt (a + j) = wt' (a + j)) → (∀ s, f s = g s) → su_S wt a n f = su_S wt' a n g
  | 0, f, g, _, e => e 0
  | n + 1, f, g, hw, e => by
    show su_S wt a n f + su_S wt a n (fun s => f (s + wt (a + n))) = su_S wt' a n g + su_S wt' a n (fun s => g (s + wt' (a + n)))
    rw [su_S_congr n (fun j hj => hw j (by omega)) e, su_S_congr (f := fun s => f (s + wt (a + n))) (g := fun s => g (s + wt' (a + n))) n (fun j hj => hw j (by omega)) (fun s => by rw [e, hw n (by omega)])]
/-- first h weights, then m more -/
theorem su_S_split (wt : Nat → Int) (a h : Nat) : ∀ (m : Nat) (f : Int → Nat), su_S wt a (h + m) f = su_S wt a h (fun x => su_S wt (a + h) m (fun y => f (x + y)))
  | 0, f => by
    show su_S wt a h f = su_S wt a h (fun x => f (x + 0))
    exact su_S_congr h (fun _ _ => rfl) (fun s => by rw [Int.add_zero])
  | m + 1, f => by
    show su_S wt a (h + m) f + su_S wt a (h + m) (fun s => f (s + wt (a + (h + m)))) = su_S wt a h (fun x => su_S wt (a + h) m (fun y => f (x + y)) + su_S wt (a + h) m (fun y => f (x + (y + wt (a + h + m)))))
    rw [su_S_add, su_S_split wt a h m f, su_S_split wt a h m (fun s => f (s + wt (a + (h + m))))]
    congr 1
    refine su_S_congr h (fun _ _ => rfl) (fun x => su_S_congr m (fun _ _ => rfl) (fun y => ?_))
    rw [← Nat.add_assoc, Int.add_assoc]
/-- an array's first n entries stand for all sums of the weights -/
def su_R (wt : Nat → Int) (a m : Nat) (L : Nat → Int) (n : Nat) : Prop := ∀ f : Int → Nat, su_to (fun j => f (L j)) n = su_S wt a m f
theorem su_R_0 (wt : Nat → Int) (a : Nat) {L : Nat → Int} (h : L 0 = 0) : su_R wt a 0 L 1 := fun f => by
  show 0 + f (L 0) = f 0
  rw [h, Nat.zero_add]
theorem su_R_s {wt : Nat → Int} {a m n : Nat} {L L' : Nat → Int} (h : su_R wt a m L n) (e : ∀ f : Int → Nat, su_to (fun j => f (L' j)) (2 * n) = su_to (fun j => f (L j)) n + su_to (fun j => f (L j + wt (a + m))) n) : su_R wt a (m + 1) L' (2 * n) := fun f => by
  rw [e f, h f, h (fun s => f (s + wt (a + m)))]
  rfl
/-- in order -/
def su_O (L : Nat → Int) (n : Nat) : Prop := ∀ i j, i ≤ j → j < n → L i ≤ L j
/-- so many of an ordered row lie at or under a bound -/
theorem su_cut {L : Nat → Int} {n h : Nat} {c : Int} (hh : h ≤ n) (h1 : ∀ j, j < h → L j ≤ c) (h2 : ∀ j, h ≤ j → j < n → c < L j) : su_to (fun j => if L j ≤ c then 1 else 0) n = h := by
  induction n with
  | zero => show 0 = h; omega
  | succ n ih =>
    show su_to (fun j => if L j ≤ c then 1 else 0) n + (if L n ≤ c then 1 else 0) = h
    by_cases e : h = n + 1
    · subst e
      rw [if_pos (h1 n (by omega))]
      have : su_to (fun j => if L j ≤ c then 1 else 0) n = n := by
        clear ih h2 hh
        have hx : ∀ m, m ≤ n → su_to (fun j => if L j ≤ c then 1 else 0) m = m := by
          intro m
          induction m with
          | zero => intro _; rfl
          | succ m ihm =>
            intro hm
            show su_to (fun j => if L j ≤ c then 1 else 0) m + (if L m ≤ c then 1 else 0) = m + 1
            rw [ihm (by omega), if_pos (h1 m (by omega))]
        exact hx n (Nat.le_refl n)
      rw [this]
    · rw [ih (by omega) (fun j hj hn => h2 j hj (by omega)), if_neg (Int.not_le.mpr (h2 n (by omega) (by omega))), Nat.add_zero]

/-- two ordered rows are being merged: S, and S with w added; wo and wi of them have been taken -/
def su_M (S : Nat → Int) (w : Int) (cnt wo wi : Nat) (M : Int) (L : Nat → Int) : Prop :=
  (∀ f : Int → Nat, su_to (fun j => f (L j)) (wo + wi) = su_to (fun j => f (S j)) wo + su_to (fun j => f (S j + w)) wi) ∧
  su_O L (wo + wi) ∧ (∀ j, j < wo + wi → (wo < cnt → L j ≤ S wo) ∧ (wi < cnt → L j ≤ S wi + w)) ∧ (∀ j, j < wo + wi → 0 ≤ L j ∧ L j ≤ M)
theorem su_M_0 {S : Nat → Int} {w : Int} {cnt : Nat} {M : Int} {L : Nat → Int} : su_M S w cnt 0 0 M L :=
  ⟨fun _ => rfl, fun _ j _ h => absurd h (Nat.not_lt_zero j), fun j h => absurd h (Nat.not_lt_zero j), fun j h => absurd h (Nat.not_lt_zero j)⟩
theorem su_to_zu {L : Nat → Int} {n : Nat} {v : Int} (f : Int → Nat) : su_to (fun j => f (zu L n v j)) (n + 1) = su_to (fun j => f (L j)) n + f v := by
  show su_to (fun j => f (zu L n v j)) n + f (zu L n v n) = _
  rw [zu_s, su_to_congr n (fun j hj => by rw [zu_n L v (by omega)])]
theorem su_O_zu {L : Nat → Int} {n : Nat} {v : Int} (h : su_O L n) (hv : ∀ j, j < n → L j ≤ v) : su_O (zu L n v) (n + 1) := by
  intro i j hij hj
  by_cases e : j = n
  · subst e
    rw [zu_s]
    by_cases e2 : i = j
    · subst e2; rw [zu_s]; exact Int.le_refl v
    · rw [zu_n L v e2]; exact hv i (by omega)
  · rw [zu_n L v e, zu_n L v (show i ≠ n by omega)]
    exact h i j hij (by omega)
theorem su_M_a {S : Nat → Int} {w : Int} {cnt wo wi : Nat} {M : Int} {L : Nat → Int} (h : su_M S w cnt wo wi M L) (hO : su_O S cnt) (hwo : wo < cnt) (hc : wi < cnt → S wo ≤ S wi + w) (hb : 0 ≤ S wo ∧ S wo ≤ M) : su_M S w cnt (wo + 1) wi M (zu L (wo + wi) (S wo)) := by
  obtain ⟨h1, h2, h3, h4⟩ := h
  have e : wo + 1 + wi = wo + wi + 1 := by omega
  unfold su_M
  rw [e]
  refine ⟨fun f => ?_, su_O_zu h2 (fun j hj => (h3 j hj).1 hwo), fun j hj => ?_, fun j hj => ?_⟩
  · rw [su_to_zu, h1]
    show _ = su_to (fun j => f (S j)) wo + f (S wo) + _
    omega
  · by_cases ej : j = wo + wi
    · subst ej
      rw [zu_s]
      exact ⟨fun q => hO wo (wo + 1) (by omega) q, hc⟩
    · rw [zu_n L _ ej]
      have h5 := h3 j (by omega)
      exact ⟨fun q => Int.le_trans (h5.1 hwo) (hO wo (wo + 1) (by omega) q), h5.2⟩
  · by_cases ej : j = wo + wi
    · subst ej; rw [zu_s]; exact hb
    · rw [zu_n L _ ej]; exact h4 j (by omega)
theorem su_M_b {S : Nat → Int} {w : Int} {cnt wo wi : Nat} {M : Int} {L : Nat → Int} (h : su_M S w cnt wo wi M L) (hO : su_O S cnt) (hwi : wi < cnt) (hc : wo < cnt → S wi + w ≤ S wo) (hb : 0 ≤ S wi + w ∧ S wi + w ≤ M) : su_M S w cnt wo (wi + 1) M (zu L (wo + wi) (S wi + w)) := by
  obtain ⟨h1, h2, h3, h4⟩ := h
  have e : wo + (wi + 1) = wo + wi + 1 := by omega
  unfold su_M
  rw [e]
  refine ⟨fun f => ?_, su_O_zu h2 (fun j hj => (h3 j hj).2 hwi), fun j hj => ?_, fun j hj => ?_⟩
  · rw [su_to_zu, h1]
    show _ = _ + (su_to (fun j => f (S j + w)) wi + f (S wi + w))
    omega
  · by_cases ej : j = wo + wi
    · subst ej
      rw [zu_s]
      exact ⟨hc, fun q => by have := hO wi (wi + 1) (by omega) q; omega⟩
    · rw [zu_n L _ ej]
      have h5 := h3 j (by omega)
      exact ⟨h5.1, fun q => by have := hO wi (wi + 1) (by omega) q; have := h5.2 hwi; omega⟩
  · by_cases ej : j = wo + wi
    · subst ej; rw [zu_s]; exact hb
    · rw [zu_n L _ ej]; exact h4 j (by omega)
/-- a row whose first n are another's -/
def icp (f g : Nat → Int) (n : Nat) : Nat → Int := fun k => if k < n then f k else g k
theorem icp_lt {f g : Nat → Int} {n k : Nat} (h : k < n) : icp f g n k = f k := if_pos h
theorem icp_eq (f g : Nat → Int) (n : Nat) : va_cpy (zA f) (zA g) 0 0 n = zA (icp f g n) := funext fun k => by
  show (if 0 ≤ k ∧ k < 0 + n then iZ (f (0 + (k - 0))) else iZ (g k)) = iZ (if k < n then f k else g k)
  by_cases h : k < n
  · rw [if_pos ⟨Nat.zero_le k, by omega⟩, if_pos h, show 0 + (k - 0) = k by omega]
  · rw [if_neg (fun q => h (by omega)), if_neg h]
theorem su_O_congr {L L' : Nat → Int} {n : Nat} (h : su_O L n) (e : ∀ j, j < n → L' j = L j) : su_O L' n := fun i j hij hj => by
  rw [e i (by omega), e j hj]; exact h i j hij hj
section ZCP
variable {p : Program} {l : Launch} {e : Env} {R : Room} {s : State} {m : MethodId} {args : Array Value} {below : List Frame} {meth : Method} {c : Code} {H : Heap} {locs : List Loc} {cells slots : Nat} {Q : State → Prop}
variable {cc : ByteArray} {pc : Nat} {ls : Array Slot} {rest : List Value} {D : va_G} {cl : List vw_C} {A : Nat → Prop} {tys : List (ClassId × FieldType)} {ws : va_W} {H0 : Heap} {nL : Nat} {ret : Option FieldType} {own : String}
/-- System.arraycopy of the first n ints of one row over the first n of another -/
theorem z_copyi (Z : zC p s m meth c cc nL ret own args TB) (hsz : ls.size = nL) {idx : Nat} (hlink : Cond.methodLink own idx arraycopyName ∈ TB) (hini : Cond.initialized "java/lang/System" ∈ TB) (hK : va_K D cl tys s) (hP : va_P D cl ws H) (hD : va_D A ws) (hS : va_S A H0 H locs) (q0 q1 t0 : Nat) {a0 a1 : Nat} {cA : ClassId} {n0 n1 : Nat} {f g : Nat → Int}
    (ha0 : ws[q0]? = some (a0, .inl (cA, n0, .inl (zA f)))) (ha1 : ws[q1]? = some (a1, .inl (cA, n1, .inl (zA g)))) (ht : tys[t0]? = some (cA, .int)) {n : Nat} (hn : n ≤ n0 ∧ n ≤ n1 ∧ n0 < 2147483648) (hRf : 1 ≤ R.frames) (hRl : (rest.map fun v => v.category).sum + (nativeFrameWords "java/lang/System" "arraycopy" 5 + 11) ≤ R.locals) (hdg : decode cc pc = .ok (.invokestatic idx, 3))
    (kk : ∀ (H1 : Heap) (locs1 : List Loc), va_P D cl (ws.set q1 (a1, .inl (cA, n1, .inl (zA (icp f g n))))) H1 → va_D A (ws.set q1 (a1, .inl (cA, n1, .inl (zA (icp f g n))))) → va_S A H0 H1 locs1 → W p l e R s m args below meth c H1 locs1 cells slots Q (F0 m (pc + 3) ls rest)) :
    W p l e R s m args below meth c H locs cells slots Q (F0 m pc ls (.int (iZ ((n : Nat) : Int)) :: .int (iZ ((0 : Nat) : Int)) :: .ref a1 :: .int (iZ ((0 : Nat) : Int)) :: .ref a0 :: rest)) := by
  have hcn : (iZ ((n : Nat) : Int)).toNatClampNeg = n := iZ_cl rfl (by omega)
  have hc0 : (iZ ((0 : Nat) : Int)).toNatClampNeg = 0 := iZ_cl rfl (by omega)
  have hneg : ∀ k : Nat, k < 2147483648 → ¬ iZ ((k : Nat) : Int) < 0 := fun k hk q => by
    have := (iZ_lt (a := ((k : Nat) : Int)) (b := 0) (by omega) z0).mp q
    omega
  refine va_copyi Z.1 Z.2.1 (Z.2.2.2.1.trans hsz.symm) Z.2.2.2.2.1 (Z.2.2.2.2.2.1 _ hlink) (Z.2.2.2.2.2.1 _ nv_arraycopy9) (Z.2.2.2.2.2.1 _ sm_arraycopy9) (Z.2.2.2.2.2.1 _ hini) hK hP hD hS q0 q1 t0 t0 ha0 ha1 ht ht rfl (hneg 0 (by omega)) (hneg 0 (by omega)) (hneg n (by omega)) (by rw [hc0, hcn]; omega) (by rw [hc0, hcn]; omega) (fun _ _ => rfl) hRf hRl hdg ?_
  rw [hc0, hcn, icp_eq]
  exact kk
end ZCP
theorem two_le {a b : Nat} (h : a ≤ b) : 2 ^ a ≤ 2 ^ b := Nat.pow_le_pow_right (by decide) h
end
section
/-! The choices. -/
set_option maxHeartbeats 4000000 in
set_option maxRecDepth 100000 in
theorem k_H_clear {l : Launch} {D : va_G} {ad : Nat → Nat} {cI cZ cL : ClassId} {J : SJ} {rd : Nat → Int} {pr : Nat → Nat} {G : SH} {K : SK} {tl : va_W} : zMv l TB D classes (tysW cI cZ cL) y_H_clear w_H_clear 0 0 [.ref (ad 11)] (wdC ad cI cZ cL J rd pr G K tl) (fun w => w = wdC ad cI cZ cL J rd pr (G.1, 0, 0, G.2.2.2.1, G.2.2.2.2.1, G.2.2.2.2.2) K tl) := by
  refine z_of (Qc := fun A => va_Qv (fun w => w = wdC ad cI cZ cL J rd pr (G.1, 0, 0, G.2.2.2.1, G.2.2.2.2.1, G.2.2.2.2.2) K tl) (zB9 D classes (wdC ad cI cZ cL J rd pr G K tl)) A) (by decide) (Nat.le_of_ble_eq_true rfl) ?_
  intro p e s m below meth c A ls Z hP hK hD hS hA hl
  obtain ⟨hx, hb, hr, hml, hown, hts, hE, hlocks⟩ := id Z
  have hl : lv_has ls 1 [(0, .ref (ad 11))] := hl
  suffices K9 : ∀ (H : Heap) (locs : List Loc) (ls : Array Slot), va_P D classes (wdC ad cI cZ cL J rd pr G K tl) H → va_D A (wdC ad cI cZ cL J rd pr G K tl) → va_S A s.heap H locs → lv_has ls 1 [(0, .ref (ad 11))] → W p l e (zRm 0 0) s m ([.ref (ad 11)] : List Value).toArray below meth c H locs 0 0 (MQ below (va_Qv (fun w => w = wdC ad cI cZ cL J rd pr (G.1, 0, 0, G.2.2.2.1, G.2.2.2.2.1, G.2.2.2.2.2) K tl) (zB9 D classes (wdC ad cI cZ cL J rd pr G K tl)) A) ([.ref (ad 11)] : List Value).toArray s 0 0 A) (F0 m 0 ls []) from K9 s.heap [] ls hP hD hS hl
  clear hP hD hS hl
  intro H locs ls hP hD hS hl
  refine lv_aload_n hx hb d_H_clear_0 rfl (lv_at hl 0 rfl) ?_
  refine lv_iconst (v := iZ ((0 : Nat) : Int)) hx hb d_H_clear_1 (by decide) ?_
  refine va_put (D := D) (ci := 3) (v := .int (iZ ((0 : Nat) : Int))) (ty := .int) (C := n_H) (T := f_H) (N := 6) hx hb hts in_H ty_H tyo_H nm_H hown hK hP hD hS 11 rfl rfl 1 (by decide) (hts _ fl_H_15) (fun _ h9 => h9) rfl (by decide +kernel) rfl rfl (Nat.le_of_ble_eq_true rfl) d_H_clear_2 (fun H locs hP hD hS => ?_)
  have hP : va_P D classes (wdC ad cI cZ cL J rd pr (G.1, 0, G.2.2.1, G.2.2.2.1, G.2.2.2.2.1, G.2.2.2.2.2) K tl) H := hP
  have hD : va_D A (wdC ad cI cZ cL J rd pr (G.1, 0, G.2.2.1, G.2.2.2.1, G.2.2.2.2.1, G.2.2.2.2.2) K tl) := hD
  refine lv_aload_n hx hb d_H_clear_5 rfl (lv_at hl 0 rfl) ?_
  refine lv_iconst (v := iZ ((0 : Nat) : Int)) hx hb d_H_clear_6 (by decide) ?_
  refine va_put (D := D) (ci := 3) (v := .int (iZ ((0 : Nat) : Int))) (ty := .int) (C := n_H) (T := f_H) (N := 6) hx hb hts in_H ty_H tyo_H nm_H hown hK hP hD hS 11 rfl rfl 2 (by decide) (hts _ fl_H_19) (fun _ h9 => h9) rfl (by decide +kernel) rfl rfl (Nat.le_of_ble_eq_true rfl) d_H_clear_7 (fun H locs hP hD hS => ?_)
  have hP : va_P D classes (wdC ad cI cZ cL J rd pr (G.1, 0, ((0 : Nat) : Int), G.2.2.2.1, G.2.2.2.2.1, G.2.2.2.2.2) K tl) H := hP
  have hD : va_D A (wdC ad cI cZ cL J rd pr (G.1, 0, ((0 : Nat) : Int), G.2.2.2.1, G.2.2.2.2.1, G.2.2.2.2.2) K tl) := hD
  exact z_vret Z hP hS d_H_clear_10 wdC_map (rfl)

set_option maxHeartbeats 4000000 in
set_option maxRecDepth 100000 in
theorem k_H_add {l : Launch} {D : va_G} {ad : Nat → Nat} {cI cZ cL : ClassId} {J : SJ} {rd : Nat → Int} {pr : Nat → Nat} {G : SH} {K : SK} {tl : va_W} {v : Nat} {bb : Bool} (hs : G.2.1 < 16) : zMv l TB D classes (tysW cI cZ cL) y_H_add w_H_add 0 0 [.ref (ad 11), .int (iZ ((v : Nat) : Int)), .int (bI (bb))] (wdC ad cI cZ cL J rd pr G K tl) (fun w => w = wdC ad cI cZ cL J rd pr (zu G.1 G.2.1 ((v : Nat) : Int), G.2.1 + 1, G.2.2.1 + (if bb = true then ((v : Nat) : Int) else 0), G.2.2.2.1, G.2.2.2.2.1, G.2.2.2.2.2) K tl) := by
  refine z_of (Qc := fun A => va_Qv (fun w => w = wdC ad cI cZ cL J rd pr (zu G.1 G.2.1 ((v : Nat) : Int), G.2.1 + 1, G.2.2.1 + (if bb = true then ((v : Nat) : Int) else 0), G.2.2.2.1, G.2.2.2.2.1, G.2.2.2.2.2) K tl) (zB9 D classes (wdC ad cI cZ cL J rd pr G K tl)) A) (by decide) (Nat.le_of_ble_eq_true rfl) ?_
  intro p e s m below meth c A ls Z hP hK hD hS hA hl
  obtain ⟨hx, hb, hr, hml, hown, hts, hE, hlocks⟩ := id Z
  have hl : lv_has ls 3 [(0, .ref (ad 11)), (1, .int (iZ ((v : Nat) : Int))), (2, .int (bI (bb)))] := hl
  suffices K9 : ∀ (H : Heap) (locs : List Loc) (ls : Array Slot), va_P D classes (wdC ad cI cZ cL J rd pr G K tl) H → va_D A (wdC ad cI cZ cL J rd pr G K tl) → va_S A s.heap H locs → lv_has ls 3 [(0, .ref (ad 11)), (1, .int (iZ ((v : Nat) : Int))), (2, .int (bI (bb)))] → W p l e (zRm 0 0) s m ([.ref (ad 11), .int (iZ ((v : Nat) : Int)), .int (bI (bb))] : List Value).toArray below meth c H locs 0 0 (MQ below (va_Qv (fun w => w = wdC ad cI cZ cL J rd pr (zu G.1 G.2.1 ((v : Nat) : Int), G.2.1 + 1, G.2.2.1 + (if bb = true then ((v : Nat) : Int) else 0), G.2.2.2.1, G.2.2.2.2.1, G.2.2.2.2.2) K tl) (zB9 D classes (wdC ad cI cZ cL J rd pr G K tl)) A) ([.ref (ad 11), .int (iZ ((v : Nat) : Int)), .int (bI (bb))] : List Value).toArray s 0 0 A) (F0 m 0 ls []) from K9 s.heap [] ls hP hD hS hl
  clear hP hD hS hl
  intro H locs ls hP hD hS hl
  refine lv_aload_n hx hb d_H_add_0 rfl (lv_at hl 0 rfl) ?_
  refine va_get (D := D) (ci := 3) (v := .int (iZ ((G.2.1 : Nat) : Int))) (C := n_H) (T := f_H) (N := 6) hx hb hts in_H hown hK hP 11 rfl rfl 1 (by decide) (hts _ fl_H_15) (fun _ h9 => h9) rfl d_H_add_1 ?_
  refine lv_bipush (v := iZ ((16 : Nat) : Int)) hx hb d_H_add_4 (by decide) ?_
  refine z_icmp_ge (a := ((G.2.1 : Nat) : Int)) (b := ((16 : Nat) : Int)) (tgt := 47) hx hb (by omega) d_H_add_6 (by decide) (fun q6 => ?_) (fun q6 => ?_)
  · skip
    exfalso; omega
  · skip
    refine lv_aload_n hx hb d_H_add_9 rfl (lv_at hl 0 rfl) ?_
    refine va_get (D := D) (ci := 3) (v := .ref (ad 12)) (C := n_H) (T := f_H) (N := 6) hx hb hts in_H hown hK hP 11 rfl rfl 0 (by decide) (hts _ fl_H_9) (fun _ h9 => h9) rfl d_H_add_10 ?_
    refine lv_aload_n hx hb d_H_add_13 rfl (lv_at hl 0 rfl) ?_
    refine va_get (D := D) (ci := 3) (v := .int (iZ ((G.2.1 : Nat) : Int))) (C := n_H) (T := f_H) (N := 6) hx hb hts in_H hown hK hP 11 rfl rfl 1 (by decide) (hts _ fl_H_15) (fun _ h9 => h9) rfl d_H_add_14 ?_
    refine lv_iload_n hx hb d_H_add_17 rfl (lv_at hl 1 rfl) ?_
    refine z_iast (f := G.1) (v := ((v : Nat) : Int)) hx hb hK hP hD hS 12 0 rfl rfl (G.2.1) (by omega) d_H_add_18 (fun H locs hP hD hS => ?_)
    have hP : va_P D classes (wdC ad cI cZ cL J rd pr ((zu G.1 (G.2.1) ((v : Nat) : Int)), G.2.1, G.2.2.1, G.2.2.2.1, G.2.2.2.2.1, G.2.2.2.2.2) K tl) H := hP
    have hD : va_D A (wdC ad cI cZ cL J rd pr ((zu G.1 (G.2.1) ((v : Nat) : Int)), G.2.1, G.2.2.1, G.2.2.2.1, G.2.2.2.2.1, G.2.2.2.2.2) K tl) := hD
    refine lv_aload_n hx hb d_H_add_19 rfl (lv_at hl 0 rfl) ?_
    refine lv_dup hx hb d_H_add_20 rfl ?_
    refine va_get (D := D) (ci := 3) (v := .int (iZ ((G.2.1 : Nat) : Int))) (C := n_H) (T := f_H) (N := 6) hx hb hts in_H hown hK hP 11 rfl rfl 1 (by decide) (hts _ fl_H_15) (fun _ h9 => h9) rfl d_H_add_21 ?_
    refine lv_iconst (v := iZ ((1 : Nat) : Int)) hx hb d_H_add_24 (by decide) ?_
    refine z_iaddN (u := G.2.1) (v := 1) hx hb d_H_add_25 ?_
    refine va_put (D := D) (ci := 3) (v := .int (iZ ((G.2.1 + 1 : Nat) : Int))) (ty := .int) (C := n_H) (T := f_H) (N := 6) hx hb hts in_H ty_H tyo_H nm_H hown hK hP hD hS 11 rfl rfl 1 (by decide) (hts _ fl_H_15) (fun _ h9 => h9) rfl (by decide +kernel) rfl rfl (Nat.le_of_ble_eq_true rfl) d_H_add_26 (fun H locs hP hD hS => ?_)
    have hP : va_P D classes (wdC ad cI cZ cL J rd pr ((zu G.1 (G.2.1) ((v : Nat) : Int)), (G.2.1 + 1), G.2.2.1, G.2.2.2.1, G.2.2.2.2.1, G.2.2.2.2.2) K tl) H := hP
    have hD : va_D A (wdC ad cI cZ cL J rd pr ((zu G.1 (G.2.1) ((v : Nat) : Int)), (G.2.1 + 1), G.2.2.1, G.2.2.2.1, G.2.2.2.2.1, G.2.2.2.2.2) K tl) := hD
    refine lv_aload_n hx hb d_H_add_29 rfl (lv_at hl 0 rfl) ?_
    refine lv_dup hx hb d_H_add_30 rfl ?_
    refine va_get (D := D) (ci := 3) (v := .int (iZ (G.2.2.1))) (C := n_H) (T := f_H) (N := 6) hx hb hts in_H hown hK hP 11 rfl rfl 2 (by decide) (hts _ fl_H_19) (fun _ h9 => h9) rfl d_H_add_31 ?_
    refine lv_iload_n hx hb d_H_add_34 rfl (lv_at hl 2 rfl) ?_
    refine z_if_eqB (b := bb) (tgt := 42) hx hb d_H_add_35 (by decide) (fun q35 => ?_) (fun q35 => ?_)
    · skip
      refine lv_iconst (v := iZ ((0 : Nat) : Int)) hx hb d_H_add_42 (by decide) ?_
      refine z_iadd (a := G.2.2.1) (b := ((0 : Nat) : Int)) hx hb d_H_add_43 ?_
      refine va_put (D := D) (ci := 3) (v := .int (iZ (G.2.2.1 + ((0 : Nat) : Int)))) (ty := .int) (C := n_H) (T := f_H) (N := 6) hx hb hts in_H ty_H tyo_H nm_H hown hK hP hD hS 11 rfl rfl 2 (by decide) (hts _ fl_H_19) (fun _ h9 => h9) rfl (by decide +kernel) rfl rfl (Nat.le_of_ble_eq_true rfl) d_H_add_44 (fun H locs hP hD hS => ?_)
      have hP : va_P D classes (wdC ad cI cZ cL J rd pr ((zu G.1 (G.2.1) ((v : Nat) : Int)), (G.2.1 + 1), (G.2.2.1 + ((0 : Nat) : Int)), G.2.2.2.1, G.2.2.2.2.1, G.2.2.2.2.2) K tl) H := hP
      have hD : va_D A (wdC ad cI cZ cL J rd pr ((zu G.1 (G.2.1) ((v : Nat) : Int)), (G.2.1 + 1), (G.2.2.1 + ((0 : Nat) : Int)), G.2.2.2.1, G.2.2.2.2.1, G.2.2.2.2.2) K tl) := hD
      exact z_vret Z hP hS d_H_add_47 wdC_map (by rw [q35]; rfl)
    · skip
      refine lv_iload_n hx hb d_H_add_38 rfl (lv_at hl 1 rfl) ?_
      refine lv_goto (tgt := 43) hx hb d_H_add_39 (by decide) ?_
      refine z_iadd (a := G.2.2.1) (b := ((v : Nat) : Int)) hx hb d_H_add_43 ?_
      refine va_put (D := D) (ci := 3) (v := .int (iZ (G.2.2.1 + ((v : Nat) : Int)))) (ty := .int) (C := n_H) (T := f_H) (N := 6) hx hb hts in_H ty_H tyo_H nm_H hown hK hP hD hS 11 rfl rfl 2 (by decide) (hts _ fl_H_19) (fun _ h9 => h9) rfl (by decide +kernel) rfl rfl (Nat.le_of_ble_eq_true rfl) d_H_add_44 (fun H locs hP hD hS => ?_)
      have hP : va_P D classes (wdC ad cI cZ cL J rd pr ((zu G.1 (G.2.1) ((v : Nat) : Int)), (G.2.1 + 1), (G.2.2.1 + ((v : Nat) : Int)), G.2.2.2.1, G.2.2.2.2.1, G.2.2.2.2.2) K tl) H := hP
      have hD : va_D A (wdC ad cI cZ cL J rd pr ((zu G.1 (G.2.1) ((v : Nat) : Int)), (G.2.1 + 1), (G.2.2.1 + ((v : Nat) : Int)), G.2.2.2.1, G.2.2.2.2.1, G.2.2.2.2.2) K tl) := hD
      exact z_vret Z hP hS d_H_add_47 wdC_map (by rw [q35]; rfl)

theorem sh_tn (n : Nat) : (iZ ((n : Nat) : Int)) = nI n := Int32.ofInt_eq_ofNat
theorem sh_63 : ∀ k, k < 64 → ((nI k).toInt64 &&& 63).toBitVec.smod 64 = BitVec.ofNat 64 k := by decide +kernel
theorem lshl_k (u : Nat) {k : Nat} (h : k < 62) : lZ ((u : Nat) : Int) <<< ((iZ ((k : Nat) : Int)).toInt64 &&& 63) = lZ ((u * 2 ^ k : Nat) : Int) := by
  rw [sh_tn]
  apply Int64.toBitVec_inj.mp
  show (lZ ((u : Nat) : Int)).toBitVec <<< (((nI k).toInt64 &&& 63).toBitVec.smod 64) = (lZ ((u * 2 ^ k : Nat) : Int)).toBitVec
  rw [sh_63 k (by omega)]
  show BitVec.ofInt 64 ((u : Nat) : Int) <<< BitVec.ofNat 64 k = BitVec.ofInt 64 ((u * 2 ^ k : Nat) : Int)
  rw [BitVec.ofInt_natCast, BitVec.ofInt_natCast]
  apply BitVec.eq_of_toNat_eq
  rw [BitVec.shiftLeft_eq', BitVec.toNat_shiftLeft, BitVec.toNat_ofNat, BitVec.toNat_ofNat, BitVec.toNat_ofNat, Nat.mod_eq_of_lt (show k < 2 ^ 64 by omega), Nat.shiftLeft_eq, Nat.mod_mul_mod]
theorem lshl_1 {k : Nat} (h : k < 62) : lZ ((1 : Nat) : Int) <<< ((iZ ((k : Nat) : Int)).toInt64 &&& 63) = lZ ((2 ^ k : Nat) : Int) := by
  rw [lshl_k 1 h, Nat.one_mul]
set_option maxHeartbeats 4000000 in
set_option maxRecDepth 100000 in
theorem k_H_countAll {l : Launch} {D : va_G} {ad : Nat → Nat} {cI cZ cL : ClassId} {J : SJ} {rd : Nat → Int} {pr : Nat → Nat} {G : SH} {K : SK} {tl : va_W} (hs : G.2.1 ≤ 16) : zMr l TB D classes (tysW cI cZ cL) y_H_countAll w_H_countAll 0 0 [.ref (ad 11)] (wdC ad cI cZ cL J rd pr G K tl) (some (.long (lZ ((2 ^ G.2.1 : Nat) : Int)))) := by
  refine z_ofR (by decide) (Nat.le_of_ble_eq_true rfl) ?_
  intro p e s m below meth c ls Z hP hK hl
  obtain ⟨hx, hb, hr, hml, hown, hts, hE, hlocks⟩ := id Z
  have hl : lv_has ls 1 [(0, .ref (ad 11))] := hl
  refine lv_lconst (v := lZ ((1 : Nat) : Int)) hx hb d_H_countAll_0 (by decide) ?_
  refine lv_aload_n hx hb d_H_countAll_1 rfl (lv_at hl 0 rfl) ?_
  refine va_get (D := D) (ci := 3) (v := .int (iZ ((G.2.1 : Nat) : Int))) (C := n_H) (T := f_H) (N := 6) hx hb hts in_H hown hK hP 11 rfl rfl 1 (by decide) (hts _ fl_H_15) (fun _ h9 => h9) rfl d_H_countAll_2 ?_
  refine lv_lshl (v := lZ ((2 ^ G.2.1 : Nat) : Int)) hx hb d_H_countAll_5 (lshl_1 (by omega)) ?_
  exact z_lretR Z d_H_countAll_6 (rfl)

set_option maxHeartbeats 4000000 in
set_option maxRecDepth 100000 in
theorem k_H_addWeight_lo {l : Launch} {D : va_G} {ad : Nat → Nat} {cI cZ cL : ClassId} {J : SJ} {rd : Nat → Int} {pr : Nat → Nat} {G : SH} {K : SK} {tl : va_W} {cnt : Nat} {wg M : Int} (hc : cnt ≤ 128 ∧ 0 ≤ wg ∧ wg ≤ 1000 ∧ 0 ≤ M ∧ M ≤ 15000) (hO : su_O (G.2.2.2.1) cnt) (hb0 : ∀ j, j < cnt → 0 ≤ G.2.2.2.1 j ∧ G.2.2.2.1 j ≤ M) : zMv l TB D classes (tysW cI cZ cL) y_H_addWeight w_H_addWeight 1 60 [.ref (ad 11), .ref (ad 13), .int (iZ ((cnt : Nat) : Int)), .int (iZ (wg))] (wdC ad cI cZ cL J rd pr G K tl) (fun w => ∃ (L sq : Nat → Int), w = wdC ad cI cZ cL J rd pr (G.1, G.2.1, G.2.2.1, L, G.2.2.2.2.1, sq) K tl ∧ su_O L (2 * cnt) ∧ (∀ j, j < 2 * cnt → 0 ≤ L j ∧ L j ≤ M + 1000) ∧ (∀ f : Int → Nat, su_to (fun j => f (L j)) (2 * cnt) = su_to (fun j => f (G.2.2.2.1 j)) cnt + su_to (fun j => f (G.2.2.2.1 j + wg)) cnt)) := by
  refine z_of (Qc := fun A => va_Qv (fun w => ∃ (L sq : Nat → Int), w = wdC ad cI cZ cL J rd pr (G.1, G.2.1, G.2.2.1, L, G.2.2.2.2.1, sq) K tl ∧ su_O L (2 * cnt) ∧ (∀ j, j < 2 * cnt → 0 ≤ L j ∧ L j ≤ M + 1000) ∧ (∀ f : Int → Nat, su_to (fun j => f (L j)) (2 * cnt) = su_to (fun j => f (G.2.2.2.1 j)) cnt + su_to (fun j => f (G.2.2.2.1 j + wg)) cnt)) (zB9 D classes (wdC ad cI cZ cL J rd pr G K tl)) A) (by decide) (Nat.le_of_ble_eq_true rfl) ?_
  intro p e s m below meth c A ls Z hP hK hD hS hA hl
  obtain ⟨hx, hb, hr, hml, hown, hts, hE, hlocks⟩ := id Z
  have hl : lv_has ls 8 [(0, .ref (ad 11)), (1, .ref (ad 13)), (2, .int (iZ ((cnt : Nat) : Int))), (3, .int (iZ (wg)))] := hl
  have hSO : su_O (icp (G.2.2.2.1) (G.2.2.2.2.2) cnt) cnt := su_O_congr hO (fun j hj => icp_lt hj)
  have hSb : ∀ j, j < cnt → 0 ≤ (icp (G.2.2.2.1) (G.2.2.2.2.2) cnt) j ∧ (icp (G.2.2.2.1) (G.2.2.2.2.2) cnt) j ≤ M := fun j hj => by rw [icp_lt hj]; exact hb0 j hj
  suffices K9 : ∀ (H : Heap) (locs : List Loc) (ls : Array Slot), va_P D classes (wdC ad cI cZ cL J rd pr G K tl) H → va_D A (wdC ad cI cZ cL J rd pr G K tl) → va_S A s.heap H locs → lv_has ls 8 [(0, .ref (ad 11)), (1, .ref (ad 13)), (2, .int (iZ ((cnt : Nat) : Int))), (3, .int (iZ (wg)))] → W p l e (zRm 1 60) s m ([.ref (ad 11), .ref (ad 13), .int (iZ ((cnt : Nat) : Int)), .int (iZ (wg))] : List Value).toArray below meth c H locs 0 0 (MQ below (va_Qv (fun w => ∃ (L sq : Nat → Int), w = wdC ad cI cZ cL J rd pr (G.1, G.2.1, G.2.2.1, L, G.2.2.2.2.1, sq) K tl ∧ su_O L (2 * cnt) ∧ (∀ j, j < 2 * cnt → 0 ≤ L j ∧ L j ≤ M + 1000) ∧ (∀ f : Int → Nat, su_to (fun j => f (L j)) (2 * cnt) = su_to (fun j => f (G.2.2.2.1 j)) cnt + su_to (fun j => f (G.2.2.2.1 j + wg)) cnt)) (zB9 D classes (wdC ad cI cZ cL J rd pr G K tl)) A) ([.ref (ad 11), .ref (ad 13), .int (iZ ((cnt : Nat) : Int)), .int (iZ (wg))] : List Value).toArray s 0 0 A) (F0 m 0 ls []) from K9 s.heap [] ls hP hD hS hl
  clear hP hD hS hl
  intro H locs ls hP hD hS hl
  refine lv_aload_n hx hb d_H_addWeight_0 rfl (lv_at hl 1 rfl) ?_
  refine lv_iconst (v := iZ ((0 : Nat) : Int)) hx hb d_H_addWeight_1 (by decide) ?_
  refine lv_aload_n hx hb d_H_addWeight_2 rfl (lv_at hl 0 rfl) ?_
  refine va_get (D := D) (ci := 3) (v := .ref (ad 15)) (C := n_H) (T := f_H) (N := 6) hx hb hts in_H hown hK hP 11 rfl rfl 5 (by decide) (hts _ fl_H_28) (fun _ h9 => h9) rfl d_H_addWeight_3 ?_
  refine lv_iconst (v := iZ ((0 : Nat) : Int)) hx hb d_H_addWeight_6 (by decide) ?_
  refine lv_iload_n hx hb d_H_addWeight_7 rfl (lv_at hl 2 rfl) ?_
  refine z_copyi Z hl.1 (idx := 39) ml9_H_39 ini_System hK hP hD hS 13 15 0 rfl rfl rfl (n := cnt) (by omega) (Nat.le_of_ble_eq_true rfl) (Nat.le_of_ble_eq_true rfl) d_H_addWeight_8 (fun H locs hP hD hS => ?_)
  have hP : va_P D classes (wdC ad cI cZ cL J rd pr (G.1, G.2.1, G.2.2.1, G.2.2.2.1, G.2.2.2.2.1, (icp (G.2.2.2.1) (G.2.2.2.2.2) cnt)) K tl) H := hP
  have hD : va_D A (wdC ad cI cZ cL J rd pr (G.1, G.2.1, G.2.2.1, G.2.2.2.1, G.2.2.2.2.1, (icp (G.2.2.2.1) (G.2.2.2.2.2) cnt)) K tl) := hD
  refine lv_iconst (v := iZ ((0 : Nat) : Int)) hx hb d_H_addWeight_11 (by decide) ?_
  refine lv_istore (lv' := [(4, .int (iZ ((0 : Nat) : Int))), (0, .ref (ad 11)), (1, .ref (ad 13)), (2, .int (iZ ((cnt : Nat) : Int))), (3, .int (iZ (wg)))]) hx hb d_H_addWeight_12 hl (by decide) rfl (fun ls hl => ?_)
  refine lv_iconst (v := iZ ((0 : Nat) : Int)) hx hb d_H_addWeight_14 (by decide) ?_
  refine lv_istore (lv' := [(5, .int (iZ ((0 : Nat) : Int))), (4, .int (iZ ((0 : Nat) : Int))), (0, .ref (ad 11)), (1, .ref (ad 13)), (2, .int (iZ ((cnt : Nat) : Int))), (3, .int (iZ (wg)))]) hx hb d_H_addWeight_15 hl (by decide) rfl (fun ls hl => ?_)
  refine lv_iconst (v := iZ ((0 : Nat) : Int)) hx hb d_H_addWeight_17 (by decide) ?_
  refine lv_istore (lv' := [(6, .int (iZ ((0 : Nat) : Int))), (5, .int (iZ ((0 : Nat) : Int))), (4, .int (iZ ((0 : Nat) : Int))), (0, .ref (ad 11)), (1, .ref (ad 13)), (2, .int (iZ ((cnt : Nat) : Int))), (3, .int (iZ (wg)))]) hx hb d_H_addWeight_18 hl (by decide) rfl (fun ls hl => ?_)
  have L20 : ∀ (N20 : Nat) (wo : Nat) (wi : Nat) (L : Nat → Int) (H : Heap) (locs : List Loc) (ls : Array Slot), (wo ≤ cnt ∧ wi ≤ cnt) → (su_M (icp (G.2.2.2.1) (G.2.2.2.2.2) cnt) wg cnt wo wi (M + 1000) L) → 2 * cnt - (wo + wi) < N20 → va_P D classes (wdC ad cI cZ cL J rd pr (G.1, G.2.1, G.2.2.1, L, G.2.2.2.2.1, (icp (G.2.2.2.1) (G.2.2.2.2.2) cnt)) K tl) H → va_D A (wdC ad cI cZ cL J rd pr (G.1, G.2.1, G.2.2.1, L, G.2.2.2.2.1, (icp (G.2.2.2.1) (G.2.2.2.2.2) cnt)) K tl) → va_S A s.heap H locs → lv_has ls 8 [(0, .ref (ad 11)), (1, .ref (ad 13)), (2, .int (iZ ((cnt : Nat) : Int))), (3, .int (iZ (wg))), (4, .int (iZ ((wo : Nat) : Int))), (5, .int (iZ ((wi : Nat) : Int))), (6, .int (iZ ((wo + wi : Nat) : Int)))] → W p l e (zRm 1 60) s m ([.ref (ad 11), .ref (ad 13), .int (iZ ((cnt : Nat) : Int)), .int (iZ (wg))] : List Value).toArray below meth c H locs 0 0 (MQ below (va_Qv (fun w => ∃ (L sq : Nat → Int), w = wdC ad cI cZ cL J rd pr (G.1, G.2.1, G.2.2.1, L, G.2.2.2.2.1, sq) K tl ∧ su_O L (2 * cnt) ∧ (∀ j, j < 2 * cnt → 0 ≤ L j ∧ L j ≤ M + 1000) ∧ (∀ f : Int → Nat, su_to (fun j => f (L j)) (2 * cnt) = su_to (fun j => f (G.2.2.2.1 j)) cnt + su_to (fun j => f (G.2.2.2.1 j + wg)) cnt)) (zB9 D classes (wdC ad cI cZ cL J rd pr G K tl)) A) ([.ref (ad 11), .ref (ad 13), .int (iZ ((cnt : Nat) : Int)), .int (iZ (wg))] : List Value).toArray s 0 0 A) (F0 m 20 ls []) := by
    intro N20
    induction N20 with
    | zero =>
      intro wo wi L H locs ls hw hM hN20 hP hD hS hl
      exact absurd hN20 (Nat.not_lt_zero _)
    | succ N20 ih20 =>
      intro wo wi L H locs ls hw hM hN20 hP hD hS hl
      refine lv_iload hx hb d_H_addWeight_20 (lv_at hl 6 rfl) ?_
      refine lv_iconst (v := iZ ((2 : Nat) : Int)) hx hb d_H_addWeight_22 (by decide) ?_
      refine lv_iload_n hx hb d_H_addWeight_23 rfl (lv_at hl 2 rfl) ?_
      refine z_imulN (u := 2) (v := cnt) hx hb d_H_addWeight_24 ?_
      refine z_icmp_ge (a := ((wo + wi : Nat) : Int)) (b := ((2 * cnt : Nat) : Int)) (tgt := 110) hx hb (by omega) d_H_addWeight_25 (by decide) (fun q25 => ?_) (fun q25 => ?_)
      · skip
        exact z_vret Z hP hS d_H_addWeight_110 wdC_map (by obtain ⟨m1, m2, m3, m4⟩ := hM; have e1 : wo = cnt := (by omega); have e2 : wi = cnt := (by omega); rw [e1, e2, show cnt + cnt = 2 * cnt from (by omega)] at m1 m2 m4; exact ⟨L, _, rfl, m2, m4, fun f => by rw [m1 f, su_to_congr cnt (fun j hj => by rw [icp_lt hj]), su_to_congr (g := fun j => f ((icp (G.2.2.2.1) (G.2.2.2.2.2) cnt) j + wg)) cnt (fun j hj => by rw [icp_lt hj])]⟩)
      · skip
        refine lv_iload hx hb d_H_addWeight_28 (lv_at hl 5 rfl) ?_
        refine lv_iload_n hx hb d_H_addWeight_30 rfl (lv_at hl 2 rfl) ?_
        refine z_icmp_ge (a := ((wi : Nat) : Int)) (b := ((cnt : Nat) : Int)) (tgt := 59) hx hb (by omega) d_H_addWeight_31 (by decide) (fun q31 => ?_) (fun q31 => ?_)
        · skip
          refine lv_iconst (v := iZ ((1 : Nat) : Int)) hx hb d_H_addWeight_59 (by decide) ?_
          refine lv_goto (tgt := 64) hx hb d_H_addWeight_60 (by decide) ?_
          refine lv_istore (lv' := [(7, .int (iZ ((1 : Nat) : Int))), (0, .ref (ad 11)), (1, .ref (ad 13)), (2, .int (iZ ((cnt : Nat) : Int))), (3, .int (iZ (wg))), (4, .int (iZ ((wo : Nat) : Int))), (5, .int (iZ ((wi : Nat) : Int))), (6, .int (iZ ((wo + wi : Nat) : Int)))]) hx hb d_H_addWeight_64 hl (by decide) rfl (fun ls hl => ?_)
          refine lv_iload hx hb d_H_addWeight_66 (lv_at hl 0 rfl) ?_
          refine z_if_eq (a := ((1 : Nat) : Int)) (tgt := 88) hx hb (by omega) d_H_addWeight_68 (by decide) (fun q68 => ?_) (fun q68 => ?_)
          · skip
            exfalso; omega
          · skip
            refine lv_aload_n hx hb d_H_addWeight_71 rfl (lv_at hl 2 rfl) ?_
            refine lv_iload hx hb d_H_addWeight_72 (lv_at hl 7 rfl) ?_
            refine lv_aload_n hx hb d_H_addWeight_74 rfl (lv_at hl 1 rfl) ?_
            refine va_get (D := D) (ci := 3) (v := .ref (ad 15)) (C := n_H) (T := f_H) (N := 6) hx hb hts in_H hown hK hP 11 rfl rfl 5 (by decide) (hts _ fl_H_28) (fun _ h9 => h9) rfl d_H_addWeight_75 ?_
            refine lv_iload hx hb d_H_addWeight_78 (lv_at hl 5 rfl) ?_
            have hb3 := hSb wo (by omega)
            refine z_iald (f := (icp (G.2.2.2.1) (G.2.2.2.2.2) cnt)) hx hb hK hP 15 0 rfl rfl (wo) (by omega) d_H_addWeight_80 ?_
            refine z_iast (f := L) (v := (icp (G.2.2.2.1) (G.2.2.2.2.2) cnt) (wo)) hx hb hK hP hD hS 13 0 rfl rfl (wo + wi) (by omega) d_H_addWeight_81 (fun H locs hP hD hS => ?_)
            have hP : va_P D classes (wdC ad cI cZ cL J rd pr (G.1, G.2.1, G.2.2.1, (zu L (wo + wi) ((icp (G.2.2.2.1) (G.2.2.2.2.2) cnt) (wo))), G.2.2.2.2.1, (icp (G.2.2.2.1) (G.2.2.2.2.2) cnt)) K tl) H := hP
            have hD : va_D A (wdC ad cI cZ cL J rd pr (G.1, G.2.1, G.2.2.1, (zu L (wo + wi) ((icp (G.2.2.2.1) (G.2.2.2.2.2) cnt) (wo))), G.2.2.2.2.1, (icp (G.2.2.2.1) (G.2.2.2.2.2) cnt)) K tl) := hD
            refine lv_iinc (v := iZ ((wo + 1 : Nat) : Int)) (lv' := [(4, .int (iZ ((wo + 1 : Nat) : Int))), (7, .int (iZ ((1 : Nat) : Int))), (0, .ref (ad 11)), (1, .ref (ad 13)), (2, .int (iZ ((cnt : Nat) : Int))), (3, .int (iZ (wg))), (5, .int (iZ ((wi : Nat) : Int))), (6, .int (iZ ((wo + wi : Nat) : Int)))]) hx hb d_H_addWeight_82 hl (k := 5) rfl (iZ_inc (wo) 1) (by decide) rfl (fun ls hl => ?_)
            refine lv_goto (tgt := 104) hx hb d_H_addWeight_85 (by decide) ?_
            refine lv_iinc (v := iZ ((wo + wi + 1 : Nat) : Int)) (lv' := [(6, .int (iZ ((wo + wi + 1 : Nat) : Int))), (4, .int (iZ ((wo + 1 : Nat) : Int))), (7, .int (iZ ((1 : Nat) : Int))), (0, .ref (ad 11)), (1, .ref (ad 13)), (2, .int (iZ ((cnt : Nat) : Int))), (3, .int (iZ (wg))), (5, .int (iZ ((wi : Nat) : Int)))]) hx hb d_H_addWeight_104 hl (k := 7) rfl (iZ_inc (wo + wi) 1) (by decide) rfl (fun ls hl => ?_)
            refine lv_goto (tgt := 20) hx hb d_H_addWeight_107 (by decide) ?_
            exact ih20 (wo + 1) wi (zu L (wo + wi) ((icp (G.2.2.2.1) (G.2.2.2.2.2) cnt) wo)) H locs ls (by omega) (su_M_a hM hSO (by omega) (fun z => by omega) (by have := hSb wo (by omega); omega)) (by omega) hP hD hS (lv_sub hl [3, 4, 5, 6, 1, 7, 0] (by rw [show ((wo + 1) + wi) = (wo + wi + 1) from by omega]; rfl))
        · skip
          refine lv_iload hx hb d_H_addWeight_34 (lv_at hl 4 rfl) ?_
          refine lv_iload_n hx hb d_H_addWeight_36 rfl (lv_at hl 2 rfl) ?_
          refine z_icmp_ge (a := ((wo : Nat) : Int)) (b := ((cnt : Nat) : Int)) (tgt := 63) hx hb (by omega) d_H_addWeight_37 (by decide) (fun q37 => ?_) (fun q37 => ?_)
          · skip
            refine lv_iconst (v := iZ ((0 : Nat) : Int)) hx hb d_H_addWeight_63 (by decide) ?_
            refine lv_istore (lv' := [(7, .int (iZ ((0 : Nat) : Int))), (0, .ref (ad 11)), (1, .ref (ad 13)), (2, .int (iZ ((cnt : Nat) : Int))), (3, .int (iZ (wg))), (4, .int (iZ ((wo : Nat) : Int))), (5, .int (iZ ((wi : Nat) : Int))), (6, .int (iZ ((wo + wi : Nat) : Int)))]) hx hb d_H_addWeight_64 hl (by decide) rfl (fun ls hl => ?_)
            refine lv_iload hx hb d_H_addWeight_66 (lv_at hl 0 rfl) ?_
            refine z_if_eq (a := ((0 : Nat) : Int)) (tgt := 88) hx hb (by omega) d_H_addWeight_68 (by decide) (fun q68 => ?_) (fun q68 => ?_)
            · skip
              refine lv_aload_n hx hb d_H_addWeight_88 rfl (lv_at hl 2 rfl) ?_
              refine lv_iload hx hb d_H_addWeight_89 (lv_at hl 7 rfl) ?_
              refine lv_aload_n hx hb d_H_addWeight_91 rfl (lv_at hl 1 rfl) ?_
              refine va_get (D := D) (ci := 3) (v := .ref (ad 15)) (C := n_H) (T := f_H) (N := 6) hx hb hts in_H hown hK hP 11 rfl rfl 5 (by decide) (hts _ fl_H_28) (fun _ h9 => h9) rfl d_H_addWeight_92 ?_
              refine lv_iload hx hb d_H_addWeight_95 (lv_at hl 6 rfl) ?_
              have hb4 := hSb wi (by omega)
              refine z_iald (f := (icp (G.2.2.2.1) (G.2.2.2.2.2) cnt)) hx hb hK hP 15 0 rfl rfl (wi) (by omega) d_H_addWeight_97 ?_
              refine lv_iload_n hx hb d_H_addWeight_98 rfl (lv_at hl 4 rfl) ?_
              refine z_iadd (a := (icp (G.2.2.2.1) (G.2.2.2.2.2) cnt) (wi)) (b := wg) hx hb d_H_addWeight_99 ?_
              refine z_iast (f := L) (v := ((icp (G.2.2.2.1) (G.2.2.2.2.2) cnt) (wi)) + wg) hx hb hK hP hD hS 13 0 rfl rfl (wo + wi) (by omega) d_H_addWeight_100 (fun H locs hP hD hS => ?_)
              have hP : va_P D classes (wdC ad cI cZ cL J rd pr (G.1, G.2.1, G.2.2.1, (zu L (wo + wi) (((icp (G.2.2.2.1) (G.2.2.2.2.2) cnt) (wi)) + wg)), G.2.2.2.2.1, (icp (G.2.2.2.1) (G.2.2.2.2.2) cnt)) K tl) H := hP
              have hD : va_D A (wdC ad cI cZ cL J rd pr (G.1, G.2.1, G.2.2.1, (zu L (wo + wi) (((icp (G.2.2.2.1) (G.2.2.2.2.2) cnt) (wi)) + wg)), G.2.2.2.2.1, (icp (G.2.2.2.1) (G.2.2.2.2.2) cnt)) K tl) := hD
              refine lv_iinc (v := iZ ((wi + 1 : Nat) : Int)) (lv' := [(5, .int (iZ ((wi + 1 : Nat) : Int))), (7, .int (iZ ((0 : Nat) : Int))), (0, .ref (ad 11)), (1, .ref (ad 13)), (2, .int (iZ ((cnt : Nat) : Int))), (3, .int (iZ (wg))), (4, .int (iZ ((wo : Nat) : Int))), (6, .int (iZ ((wo + wi : Nat) : Int)))]) hx hb d_H_addWeight_101 hl (k := 6) rfl (iZ_inc (wi) 1) (by decide) rfl (fun ls hl => ?_)
              refine lv_iinc (v := iZ ((wo + wi + 1 : Nat) : Int)) (lv' := [(6, .int (iZ ((wo + wi + 1 : Nat) : Int))), (5, .int (iZ ((wi + 1 : Nat) : Int))), (7, .int (iZ ((0 : Nat) : Int))), (0, .ref (ad 11)), (1, .ref (ad 13)), (2, .int (iZ ((cnt : Nat) : Int))), (3, .int (iZ (wg))), (4, .int (iZ ((wo : Nat) : Int)))]) hx hb d_H_addWeight_104 hl (k := 7) rfl (iZ_inc (wo + wi) 1) (by decide) rfl (fun ls hl => ?_)
              refine lv_goto (tgt := 20) hx hb d_H_addWeight_107 (by decide) ?_
              exact ih20 wo (wi + 1) (zu L (wo + wi) ((icp (G.2.2.2.1) (G.2.2.2.2.2) cnt) wi + wg)) H locs ls (by omega) (su_M_b hM hSO (by omega) (fun z => by omega) (by have := hSb wi (by omega); omega)) (by omega) hP hD hS (lv_sub hl [3, 4, 5, 6, 7, 1, 0] (by rw [show (wo + (wi + 1)) = (wo + wi + 1) from by omega]; rfl))
            · skip
              exfalso; omega
          · skip
            refine lv_aload_n hx hb d_H_addWeight_40 rfl (lv_at hl 0 rfl) ?_
            refine va_get (D := D) (ci := 3) (v := .ref (ad 15)) (C := n_H) (T := f_H) (N := 6) hx hb hts in_H hown hK hP 11 rfl rfl 5 (by decide) (hts _ fl_H_28) (fun _ h9 => h9) rfl d_H_addWeight_41 ?_
            refine lv_iload hx hb d_H_addWeight_44 (lv_at hl 4 rfl) ?_
            have hb1 := hSb wo (by omega)
            refine z_iald (f := (icp (G.2.2.2.1) (G.2.2.2.2.2) cnt)) hx hb hK hP 15 0 rfl rfl (wo) (by omega) d_H_addWeight_46 ?_
            refine lv_aload_n hx hb d_H_addWeight_47 rfl (lv_at hl 0 rfl) ?_
            refine va_get (D := D) (ci := 3) (v := .ref (ad 15)) (C := n_H) (T := f_H) (N := 6) hx hb hts in_H hown hK hP 11 rfl rfl 5 (by decide) (hts _ fl_H_28) (fun _ h9 => h9) rfl d_H_addWeight_48 ?_
            refine lv_iload hx hb d_H_addWeight_51 (lv_at hl 5 rfl) ?_
            have hb2 := hSb wi (by omega)
            refine z_iald (f := (icp (G.2.2.2.1) (G.2.2.2.2.2) cnt)) hx hb hK hP 15 0 rfl rfl (wi) (by omega) d_H_addWeight_53 ?_
            refine lv_iload_n hx hb d_H_addWeight_54 rfl (lv_at hl 3 rfl) ?_
            refine z_iadd (a := (icp (G.2.2.2.1) (G.2.2.2.2.2) cnt) (wi)) (b := wg) hx hb d_H_addWeight_55 ?_
            refine z_icmp_gt (a := (icp (G.2.2.2.1) (G.2.2.2.2.2) cnt) (wo)) (b := ((icp (G.2.2.2.1) (G.2.2.2.2.2) cnt) (wi)) + wg) (tgt := 63) hx hb (by omega) d_H_addWeight_56 (by decide) (fun q56 => ?_) (fun q56 => ?_)
            · skip
              refine lv_iconst (v := iZ ((0 : Nat) : Int)) hx hb d_H_addWeight_63 (by decide) ?_
              refine lv_istore (lv' := [(7, .int (iZ ((0 : Nat) : Int))), (0, .ref (ad 11)), (1, .ref (ad 13)), (2, .int (iZ ((cnt : Nat) : Int))), (3, .int (iZ (wg))), (4, .int (iZ ((wo : Nat) : Int))), (5, .int (iZ ((wi : Nat) : Int))), (6, .int (iZ ((wo + wi : Nat) : Int)))]) hx hb d_H_addWeight_64 hl (by decide) rfl (fun ls hl => ?_)
              refine lv_iload hx hb d_H_addWeight_66 (lv_at hl 0 rfl) ?_
              refine z_if_eq (a := ((0 : Nat) : Int)) (tgt := 88) hx hb (by omega) d_H_addWeight_68 (by decide) (fun q68 => ?_) (fun q68 => ?_)
              · skip
                refine lv_aload_n hx hb d_H_addWeight_88 rfl (lv_at hl 2 rfl) ?_
                refine lv_iload hx hb d_H_addWeight_89 (lv_at hl 7 rfl) ?_
                refine lv_aload_n hx hb d_H_addWeight_91 rfl (lv_at hl 1 rfl) ?_
                refine va_get (D := D) (ci := 3) (v := .ref (ad 15)) (C := n_H) (T := f_H) (N := 6) hx hb hts in_H hown hK hP 11 rfl rfl 5 (by decide) (hts _ fl_H_28) (fun _ h9 => h9) rfl d_H_addWeight_92 ?_
                refine lv_iload hx hb d_H_addWeight_95 (lv_at hl 6 rfl) ?_
                have hb4 := hSb wi (by omega)
                refine z_iald (f := (icp (G.2.2.2.1) (G.2.2.2.2.2) cnt)) hx hb hK hP 15 0 rfl rfl (wi) (by omega) d_H_addWeight_97 ?_
                refine lv_iload_n hx hb d_H_addWeight_98 rfl (lv_at hl 4 rfl) ?_
                refine z_iadd (a := (icp (G.2.2.2.1) (G.2.2.2.2.2) cnt) (wi)) (b := wg) hx hb d_H_addWeight_99 ?_
                refine z_iast (f := L) (v := ((icp (G.2.2.2.1) (G.2.2.2.2.2) cnt) (wi)) + wg) hx hb hK hP hD hS 13 0 rfl rfl (wo + wi) (by omega) d_H_addWeight_100 (fun H locs hP hD hS => ?_)
                have hP : va_P D classes (wdC ad cI cZ cL J rd pr (G.1, G.2.1, G.2.2.1, (zu L (wo + wi) (((icp (G.2.2.2.1) (G.2.2.2.2.2) cnt) (wi)) + wg)), G.2.2.2.2.1, (icp (G.2.2.2.1) (G.2.2.2.2.2) cnt)) K tl) H := hP
                have hD : va_D A (wdC ad cI cZ cL J rd pr (G.1, G.2.1, G.2.2.1, (zu L (wo + wi) (((icp (G.2.2.2.1) (G.2.2.2.2.2) cnt) (wi)) + wg)), G.2.2.2.2.1, (icp (G.2.2.2.1) (G.2.2.2.2.2) cnt)) K tl) := hD
                refine lv_iinc (v := iZ ((wi + 1 : Nat) : Int)) (lv' := [(5, .int (iZ ((wi + 1 : Nat) : Int))), (7, .int (iZ ((0 : Nat) : Int))), (0, .ref (ad 11)), (1, .ref (ad 13)), (2, .int (iZ ((cnt : Nat) : Int))), (3, .int (iZ (wg))), (4, .int (iZ ((wo : Nat) : Int))), (6, .int (iZ ((wo + wi : Nat) : Int)))]) hx hb d_H_addWeight_101 hl (k := 6) rfl (iZ_inc (wi) 1) (by decide) rfl (fun ls hl => ?_)
                refine lv_iinc (v := iZ ((wo + wi + 1 : Nat) : Int)) (lv' := [(6, .int (iZ ((wo + wi + 1 : Nat) : Int))), (5, .int (iZ ((wi + 1 : Nat) : Int))), (7, .int (iZ ((0 : Nat) : Int))), (0, .ref (ad 11)), (1, .ref (ad 13)), (2, .int (iZ ((cnt : Nat) : Int))), (3, .int (iZ (wg))), (4, .int (iZ ((wo : Nat) : Int)))]) hx hb d_H_addWeight_104 hl (k := 7) rfl (iZ_inc (wo + wi) 1) (by decide) rfl (fun ls hl => ?_)
                refine lv_goto (tgt := 20) hx hb d_H_addWeight_107 (by decide) ?_
                exact ih20 wo (wi + 1) (zu L (wo + wi) ((icp (G.2.2.2.1) (G.2.2.2.2.2) cnt) wi + wg)) H locs ls (by omega) (su_M_b hM hSO (by omega) (fun z => by omega) (by have := hSb wi (by omega); omega)) (by omega) hP hD hS (lv_sub hl [3, 4, 5, 6, 7, 1, 0] (by rw [show (wo + (wi + 1)) = (wo + wi + 1) from by omega]; rfl))
              · skip
                exfalso; omega
            · skip
              refine lv_iconst (v := iZ ((1 : Nat) : Int)) hx hb d_H_addWeight_59 (by decide) ?_
              refine lv_goto (tgt := 64) hx hb d_H_addWeight_60 (by decide) ?_
              refine lv_istore (lv' := [(7, .int (iZ ((1 : Nat) : Int))), (0, .ref (ad 11)), (1, .ref (ad 13)), (2, .int (iZ ((cnt : Nat) : Int))), (3, .int (iZ (wg))), (4, .int (iZ ((wo : Nat) : Int))), (5, .int (iZ ((wi : Nat) : Int))), (6, .int (iZ ((wo + wi : Nat) : Int)))]) hx hb d_H_addWeight_64 hl (by decide) rfl (fun ls hl => ?_)
              refine lv_iload hx hb d_H_addWeight_66 (lv_at hl 0 rfl) ?_
              refine z_if_eq (a := ((1 : Nat) : Int)) (tgt := 88) hx hb (by omega) d_H_addWeight_68 (by decide) (fun q68 => ?_) (fun q68 => ?_)
              · skip
                exfalso; omega
              · skip
                refine lv_aload_n hx hb d_H_addWeight_71 rfl (lv_at hl 2 rfl) ?_
                refine lv_iload hx hb d_H_addWeight_72 (lv_at hl 7 rfl) ?_
                refine lv_aload_n hx hb d_H_addWeight_74 rfl (lv_at hl 1 rfl) ?_
                refine va_get (D := D) (ci := 3) (v := .ref (ad 15)) (C := n_H) (T := f_H) (N := 6) hx hb hts in_H hown hK hP 11 rfl rfl 5 (by decide) (hts _ fl_H_28) (fun _ h9 => h9) rfl d_H_addWeight_75 ?_
                refine lv_iload hx hb d_H_addWeight_78 (lv_at hl 5 rfl) ?_
                have hb3 := hSb wo (by omega)
                refine z_iald (f := (icp (G.2.2.2.1) (G.2.2.2.2.2) cnt)) hx hb hK hP 15 0 rfl rfl (wo) (by omega) d_H_addWeight_80 ?_
                refine z_iast (f := L) (v := (icp (G.2.2.2.1) (G.2.2.2.2.2) cnt) (wo)) hx hb hK hP hD hS 13 0 rfl rfl (wo + wi) (by omega) d_H_addWeight_81 (fun H locs hP hD hS => ?_)
                have hP : va_P D classes (wdC ad cI cZ cL J rd pr (G.1, G.2.1, G.2.2.1, (zu L (wo + wi) ((icp (G.2.2.2.1) (G.2.2.2.2.2) cnt) (wo))), G.2.2.2.2.1, (icp (G.2.2.2.1) (G.2.2.2.2.2) cnt)) K tl) H := hP
                have hD : va_D A (wdC ad cI cZ cL J rd pr (G.1, G.2.1, G.2.2.1, (zu L (wo + wi) ((icp (G.2.2.2.1) (G.2.2.2.2.2) cnt) (wo))), G.2.2.2.2.1, (icp (G.2.2.2.1) (G.2.2.2.2.2) cnt)) K tl) := hD
                refine lv_iinc (v := iZ ((wo + 1 : Nat) : Int)) (lv' := [(4, .int (iZ ((wo + 1 : Nat) : Int))), (7, .int (iZ ((1 : Nat) : Int))), (0, .ref (ad 11)), (1, .ref (ad 13)), (2, .int (iZ ((cnt : Nat) : Int))), (3, .int (iZ (wg))), (5, .int (iZ ((wi : Nat) : Int))), (6, .int (iZ ((wo + wi : Nat) : Int)))]) hx hb d_H_addWeight_82 hl (k := 5) rfl (iZ_inc (wo) 1) (by decide) rfl (fun ls hl => ?_)
                refine lv_goto (tgt := 104) hx hb d_H_addWeight_85 (by decide) ?_
                refine lv_iinc (v := iZ ((wo + wi + 1 : Nat) : Int)) (lv' := [(6, .int (iZ ((wo + wi + 1 : Nat) : Int))), (4, .int (iZ ((wo + 1 : Nat) : Int))), (7, .int (iZ ((1 : Nat) : Int))), (0, .ref (ad 11)), (1, .ref (ad 13)), (2, .int (iZ ((cnt : Nat) : Int))), (3, .int (iZ (wg))), (5, .int (iZ ((wi : Nat) : Int)))]) hx hb d_H_addWeight_104 hl (k := 7) rfl (iZ_inc (wo + wi) 1) (by decide) rfl (fun ls hl => ?_)
                refine lv_goto (tgt := 20) hx hb d_H_addWeight_107 (by decide) ?_
                exact ih20 (wo + 1) wi (zu L (wo + wi) ((icp (G.2.2.2.1) (G.2.2.2.2.2) cnt) wo)) H locs ls (by omega) (su_M_a hM hSO (by omega) (fun z => by omega) (by have := hSb wo (by omega); omega)) (by omega) hP hD hS (lv_sub hl [3, 4, 5, 6, 1, 7, 0] (by rw [show ((wo + 1) + wi) = (wo + wi + 1) from by omega]; rfl))
  exact L20 (2 * cnt - (0 + 0) + 1) 0 0 G.2.2.2.1 H locs ls (⟨Nat.zero_le _, Nat.zero_le _⟩) su_M_0 (by omega) hP hD hS (lv_sub hl [3, 4, 5, 6, 2, 1, 0] rfl)

set_option maxHeartbeats 4000000 in
set_option maxRecDepth 100000 in
theorem k_H_addWeight_hi {l : Launch} {D : va_G} {ad : Nat → Nat} {cI cZ cL : ClassId} {J : SJ} {rd : Nat → Int} {pr : Nat → Nat} {G : SH} {K : SK} {tl : va_W} {cnt : Nat} {wg M : Int} (hc : cnt ≤ 128 ∧ 0 ≤ wg ∧ wg ≤ 1000 ∧ 0 ≤ M ∧ M ≤ 15000) (hO : su_O (G.2.2.2.2.1) cnt) (hb0 : ∀ j, j < cnt → 0 ≤ G.2.2.2.2.1 j ∧ G.2.2.2.2.1 j ≤ M) : zMv l TB D classes (tysW cI cZ cL) y_H_addWeight w_H_addWeight 1 60 [.ref (ad 11), .ref (ad 14), .int (iZ ((cnt : Nat) : Int)), .int (iZ (wg))] (wdC ad cI cZ cL J rd pr G K tl) (fun w => ∃ (L sq : Nat → Int), w = wdC ad cI cZ cL J rd pr (G.1, G.2.1, G.2.2.1, G.2.2.2.1, L, sq) K tl ∧ su_O L (2 * cnt) ∧ (∀ j, j < 2 * cnt → 0 ≤ L j ∧ L j ≤ M + 1000) ∧ (∀ f : Int → Nat, su_to (fun j => f (L j)) (2 * cnt) = su_to (fun j => f (G.2.2.2.2.1 j)) cnt + su_to (fun j => f (G.2.2.2.2.1 j + wg)) cnt)) := by
  refine z_of (Qc := fun A => va_Qv (fun w => ∃ (L sq : Nat → Int), w = wdC ad cI cZ cL J rd pr (G.1, G.2.1, G.2.2.1, G.2.2.2.1, L, sq) K tl ∧ su_O L (2 * cnt) ∧ (∀ j, j < 2 * cnt → 0 ≤ L j ∧ L j ≤ M + 1000) ∧ (∀ f : Int → Nat, su_to (fun j => f (L j)) (2 * cnt) = su_to (fun j => f (G.2.2.2.2.1 j)) cnt + su_to (fun j => f (G.2.2.2.2.1 j + wg)) cnt)) (zB9 D classes (wdC ad cI cZ cL J rd pr G K tl)) A) (by decide) (Nat.le_of_ble_eq_true rfl) ?_
  intro p e s m below meth c A ls Z hP hK hD hS hA hl
  obtain ⟨hx, hb, hr, hml, hown, hts, hE, hlocks⟩ := id Z
  have hl : lv_has ls 8 [(0, .ref (ad 11)), (1, .ref (ad 14)), (2, .int (iZ ((cnt : Nat) : Int))), (3, .int (iZ (wg)))] := hl
  have hSO : su_O (icp (G.2.2.2.2.1) (G.2.2.2.2.2) cnt) cnt := su_O_congr hO (fun j hj => icp_lt hj)
  have hSb : ∀ j, j < cnt → 0 ≤ (icp (G.2.2.2.2.1) (G.2.2.2.2.2) cnt) j ∧ (icp (G.2.2.2.2.1) (G.2.2.2.2.2) cnt) j ≤ M := fun j hj => by rw [icp_lt hj]; exact hb0 j hj
  suffices K9 : ∀ (H : Heap) (locs : List Loc) (ls : Array Slot), va_P D classes (wdC ad cI cZ cL J rd pr G K tl) H → va_D A (wdC ad cI cZ cL J rd pr G K tl) → va_S A s.heap H locs → lv_has ls 8 [(0, .ref (ad 11)), (1, .ref (ad 14)), (2, .int (iZ ((cnt : Nat) : Int))), (3, .int (iZ (wg)))] → W p l e (zRm 1 60) s m ([.ref (ad 11), .ref (ad 14), .int (iZ ((cnt : Nat) : Int)), .int (iZ (wg))] : List Value).toArray below meth c H locs 0 0 (MQ below (va_Qv (fun w => ∃ (L sq : Nat → Int), w = wdC ad cI cZ cL J rd pr (G.1, G.2.1, G.2.2.1, G.2.2.2.1, L, sq) K tl ∧ su_O L (2 * cnt) ∧ (∀ j, j < 2 * cnt → 0 ≤ L j ∧ L j ≤ M + 1000) ∧ (∀ f : Int → Nat, su_to (fun j => f (L j)) (2 * cnt) = su_to (fun j => f (G.2.2.2.2.1 j)) cnt + su_to (fun j => f (G.2.2.2.2.1 j + wg)) cnt)) (zB9 D classes (wdC ad cI cZ cL J rd pr G K tl)) A) ([.ref (ad 11), .ref (ad 14), .int (iZ ((cnt : Nat) : Int)), .int (iZ (wg))] : List Value).toArray s 0 0 A) (F0 m 0 ls []) from K9 s.heap [] ls hP hD hS hl
  clear hP hD hS hl
  intro H locs ls hP hD hS hl
  refine lv_aload_n hx hb d_H_addWeight_0 rfl (lv_at hl 1 rfl) ?_
  refine lv_iconst (v := iZ ((0 : Nat) : Int)) hx hb d_H_addWeight_1 (by decide) ?_
  refine lv_aload_n hx hb d_H_addWeight_2 rfl (lv_at hl 0 rfl) ?_
  refine va_get (D := D) (ci := 3) (v := .ref (ad 15)) (C := n_H) (T := f_H) (N := 6) hx hb hts in_H hown hK hP 11 rfl rfl 5 (by decide) (hts _ fl_H_28) (fun _ h9 => h9) rfl d_H_addWeight_3 ?_
  refine lv_iconst (v := iZ ((0 : Nat) : Int)) hx hb d_H_addWeight_6 (by decide) ?_
  refine lv_iload_n hx hb d_H_addWeight_7 rfl (lv_at hl 2 rfl) ?_
  refine z_copyi Z hl.1 (idx := 39) ml9_H_39 ini_System hK hP hD hS 14 15 0 rfl rfl rfl (n := cnt) (by omega) (Nat.le_of_ble_eq_true rfl) (Nat.le_of_ble_eq_true rfl) d_H_addWeight_8 (fun H locs hP hD hS => ?_)
  have hP : va_P D classes (wdC ad cI cZ cL J rd pr (G.1, G.2.1, G.2.2.1, G.2.2.2.1, G.2.2.2.2.1, (icp (G.2.2.2.2.1) (G.2.2.2.2.2) cnt)) K tl) H := hP
  have hD : va_D A (wdC ad cI cZ cL J rd pr (G.1, G.2.1, G.2.2.1, G.2.2.2.1, G.2.2.2.2.1, (icp (G.2.2.2.2.1) (G.2.2.2.2.2) cnt)) K tl) := hD
  refine lv_iconst (v := iZ ((0 : Nat) : Int)) hx hb d_H_addWeight_11 (by decide) ?_
  refine lv_istore (lv' := [(4, .int (iZ ((0 : Nat) : Int))), (0, .ref (ad 11)), (1, .ref (ad 14)), (2, .int (iZ ((cnt : Nat) : Int))), (3, .int (iZ (wg)))]) hx hb d_H_addWeight_12 hl (by decide) rfl (fun ls hl => ?_)
  refine lv_iconst (v := iZ ((0 : Nat) : Int)) hx hb d_H_addWeight_14 (by decide) ?_
  refine lv_istore (lv' := [(5, .int (iZ ((0 : Nat) : Int))), (4, .int (iZ ((0 : Nat) : Int))), (0, .ref (ad 11)), (1, .ref (ad 14)), (2, .int (iZ ((cnt : Nat) : Int))), (3, .int (iZ (wg)))]) hx hb d_H_addWeight_15 hl (by decide) rfl (fun ls hl => ?_)
  refine lv_iconst (v := iZ ((0 : Nat) : Int)) hx hb d_H_addWeight_17 (by decide) ?_
  refine lv_istore (lv' := [(6, .int (iZ ((0 : Nat) : Int))), (5, .int (iZ ((0 : Nat) : Int))), (4, .int (iZ ((0 : Nat) : Int))), (0, .ref (ad 11)), (1, .ref (ad 14)), (2, .int (iZ ((cnt : Nat) : Int))), (3, .int (iZ (wg)))]) hx hb d_H_addWeight_18 hl (by decide) rfl (fun ls hl => ?_)
  have L20 : ∀ (N20 : Nat) (wo : Nat) (wi : Nat) (L : Nat → Int) (H : Heap) (locs : List Loc) (ls : Array Slot), (wo ≤ cnt ∧ wi ≤ cnt) → (su_M (icp (G.2.2.2.2.1) (G.2.2.2.2.2) cnt) wg cnt wo wi (M + 1000) L) → 2 * cnt - (wo + wi) < N20 → va_P D classes (wdC ad cI cZ cL J rd pr (G.1, G.2.1, G.2.2.1, G.2.2.2.1, L, (icp (G.2.2.2.2.1) (G.2.2.2.2.2) cnt)) K tl) H → va_D A (wdC ad cI cZ cL J rd pr (G.1, G.2.1, G.2.2.1, G.2.2.2.1, L, (icp (G.2.2.2.2.1) (G.2.2.2.2.2) cnt)) K tl) → va_S A s.heap H locs → lv_has ls 8 [(0, .ref (ad 11)), (1, .ref (ad 14)), (2, .int (iZ ((cnt : Nat) : Int))), (3, .int (iZ (wg))), (4, .int (iZ ((wo : Nat) : Int))), (5, .int (iZ ((wi : Nat) : Int))), (6, .int (iZ ((wo + wi : Nat) : Int)))] → W p l e (zRm 1 60) s m ([.ref (ad 11), .ref (ad 14), .int (iZ ((cnt : Nat) : Int)), .int (iZ (wg))] : List Value).toArray below meth c H locs 0 0 (MQ below (va_Qv (fun w => ∃ (L sq : Nat → Int), w = wdC ad cI cZ cL J rd pr (G.1, G.2.1, G.2.2.1, G.2.2.2.1, L, sq) K tl ∧ su_O L (2 * cnt) ∧ (∀ j, j < 2 * cnt → 0 ≤ L j ∧ L j ≤ M + 1000) ∧ (∀ f : Int → Nat, su_to (fun j => f (L j)) (2 * cnt) = su_to (fun j => f (G.2.2.2.2.1 j)) cnt + su_to (fun j => f (G.2.2.2.2.1 j + wg)) cnt)) (zB9 D classes (wdC ad cI cZ cL J rd pr G K tl)) A) ([.ref (ad 11), .ref (ad 14), .int (iZ ((cnt : Nat) : Int)), .int (iZ (wg))] : List Value).toArray s 0 0 A) (F0 m 20 ls []) := by
    intro N20
    induction N20 with
    | zero =>
      intro wo wi L H locs ls hw hM hN20 hP hD hS hl
      exact absurd hN20 (Nat.not_lt_zero _)
    | succ N20 ih20 =>
      intro wo wi L H locs ls hw hM hN20 hP hD hS hl
      refine lv_iload hx hb d_H_addWeight_20 (lv_at hl 6 rfl) ?_
      refine lv_iconst (v := iZ ((2 : Nat) : Int)) hx hb d_H_addWeight_22 (by decide) ?_
      refine lv_iload_n hx hb d_H_addWeight_23 rfl (lv_at hl 2 rfl) ?_
      refine z_imulN (u := 2) (v := cnt) hx hb d_H_addWeight_24 ?_
      refine z_icmp_ge (a := ((wo + wi : Nat) : Int)) (b := ((2 * cnt : Nat) : Int)) (tgt := 110) hx hb (by omega) d_H_addWeight_25 (by decide) (fun q25 => ?_) (fun q25 => ?_)
      · skip
        exact z_vret Z hP hS d_H_addWeight_110 wdC_map (by obtain ⟨m1, m2, m3, m4⟩ := hM; have e1 : wo = cnt := (by omega); have e2 : wi = cnt := (by omega); rw [e1, e2, show cnt + cnt = 2 * cnt from (by omega)] at m1 m2 m4; exact ⟨L, _, rfl, m2, m4, fun f => by rw [m1 f, su_to_congr cnt (fun j hj => by rw [icp_lt hj]), su_to_congr (g := fun j => f ((icp (G.2.2.2.2.1) (G.2.2.2.2.2) cnt) j + wg)) cnt (fun j hj => by rw [icp_lt hj])]⟩)
      · skip
        refine lv_iload hx hb d_H_addWeight_28 (lv_at hl 5 rfl) ?_
        refine lv_iload_n hx hb d_H_addWeight_30 rfl (lv_at hl 2 rfl) ?_
        refine z_icmp_ge (a := ((wi : Nat) : Int)) (b := ((cnt : Nat) : Int)) (tgt := 59) hx hb (by omega) d_H_addWeight_31 (by decide) (fun q31 => ?_) (fun q31 => ?_)
        · skip
          refine lv_iconst (v := iZ ((1 : Nat) : Int)) hx hb d_H_addWeight_59 (by decide) ?_
          refine lv_goto (tgt := 64) hx hb d_H_addWeight_60 (by decide) ?_
          refine lv_istore (lv' := [(7, .int (iZ ((1 : Nat) : Int))), (0, .ref (ad 11)), (1, .ref (ad 14)), (2, .int (iZ ((cnt : Nat) : Int))), (3, .int (iZ (wg))), (4, .int (iZ ((wo : Nat) : Int))), (5, .int (iZ ((wi : Nat) : Int))), (6, .int (iZ ((wo + wi : Nat) : Int)))]) hx hb d_H_addWeight_64 hl (by decide) rfl (fun ls hl => ?_)
          refine lv_iload hx hb d_H_addWeight_66 (lv_at hl 0 rfl) ?_
          refine z_if_eq (a := ((1 : Nat) : Int)) (tgt := 88) hx hb (by omega) d_H_addWeight_68 (by decide) (fun q68 => ?_) (fun q68 => ?_)
          · skip
            exfalso; omega
          · skip
            refine lv_aload_n hx hb d_H_addWeight_71 rfl (lv_at hl 2 rfl) ?_
            refine lv_iload hx hb d_H_addWeight_72 (lv_at hl 7 rfl) ?_
            refine lv_aload_n hx hb d_H_addWeight_74 rfl (lv_at hl 1 rfl) ?_
            refine va_get (D := D) (ci := 3) (v := .ref (ad 15)) (C := n_H) (T := f_H) (N := 6) hx hb hts in_H hown hK hP 11 rfl rfl 5 (by decide) (hts _ fl_H_28) (fun _ h9 => h9) rfl d_H_addWeight_75 ?_
            refine lv_iload hx hb d_H_addWeight_78 (lv_at hl 5 rfl) ?_
            have hb3 := hSb wo (by omega)
            refine z_iald (f := (icp (G.2.2.2.2.1) (G.2.2.2.2.2) cnt)) hx hb hK hP 15 0 rfl rfl (wo) (by omega) d_H_addWeight_80 ?_
            refine z_iast (f := L) (v := (icp (G.2.2.2.2.1) (G.2.2.2.2.2) cnt) (wo)) hx hb hK hP hD hS 14 0 rfl rfl (wo + wi) (by omega) d_H_addWeight_81 (fun H locs hP hD hS => ?_)
            have hP : va_P D classes (wdC ad cI cZ cL J rd pr (G.1, G.2.1, G.2.2.1, G.2.2.2.1, (zu L (wo + wi) ((icp (G.2.2.2.2.1) (G.2.2.2.2.2) cnt) (wo))), (icp (G.2.2.2.2.1) (G.2.2.2.2.2) cnt)) K tl) H := hP
            have hD : va_D A (wdC ad cI cZ cL J rd pr (G.1, G.2.1, G.2.2.1, G.2.2.2.1, (zu L (wo + wi) ((icp (G.2.2.2.2.1) (G.2.2.2.2.2) cnt) (wo))), (icp (G.2.2.2.2.1) (G.2.2.2.2.2) cnt)) K tl) := hD
            refine lv_iinc (v := iZ ((wo + 1 : Nat) : Int)) (lv' := [(4, .int (iZ ((wo + 1 : Nat) : Int))), (7, .int (iZ ((1 : Nat) : Int))), (0, .ref (ad 11)), (1, .ref (ad 14)), (2, .int (iZ ((cnt : Nat) : Int))), (3, .int (iZ (wg))), (5, .int (iZ ((wi : Nat) : Int))), (6, .int (iZ ((wo + wi : Nat) : Int)))]) hx hb d_H_addWeight_82 hl (k := 5) rfl (iZ_inc (wo) 1) (by decide) rfl (fun ls hl => ?_)
            refine lv_goto (tgt := 104) hx hb d_H_addWeight_85 (by decide) ?_
            refine lv_iinc (v := iZ ((wo + wi + 1 : Nat) : Int)) (lv' := [(6, .int (iZ ((wo + wi + 1 : Nat) : Int))), (4, .int (iZ ((wo + 1 : Nat) : Int))), (7, .int (iZ ((1 : Nat) : Int))), (0, .ref (ad 11)), (1, .ref (ad 14)), (2, .int (iZ ((cnt : Nat) : Int))), (3, .int (iZ (wg))), (5, .int (iZ ((wi : Nat) : Int)))]) hx hb d_H_addWeight_104 hl (k := 7) rfl (iZ_inc (wo + wi) 1) (by decide) rfl (fun ls hl => ?_)
            refine lv_goto (tgt := 20) hx hb d_H_addWeight_107 (by decide) ?_
            exact ih20 (wo + 1) wi (zu L (wo + wi) ((icp (G.2.2.2.2.1) (G.2.2.2.2.2) cnt) wo)) H locs ls (by omega) (su_M_a hM hSO (by omega) (fun z => by omega) (by have := hSb wo (by omega); omega)) (by omega) hP hD hS (lv_sub hl [3, 4, 5, 6, 1, 7, 0] (by rw [show ((wo + 1) + wi) = (wo + wi + 1) from by omega]; rfl))
        · skip
          refine lv_iload hx hb d_H_addWeight_34 (lv_at hl 4 rfl) ?_
          refine lv_iload_n hx hb d_H_addWeight_36 rfl (lv_at hl 2 rfl) ?_
          refine z_icmp_ge (a := ((wo : Nat) : Int)) (b := ((cnt : Nat) : Int)) (tgt := 63) hx hb (by omega) d_H_addWeight_37 (by decide) (fun q37 => ?_) (fun q37 => ?_)
          · skip
            refine lv_iconst (v := iZ ((0 : Nat) : Int)) hx hb d_H_addWeight_63 (by decide) ?_
            refine lv_istore (lv' := [(7, .int (iZ ((0 : Nat) : Int))), (0, .ref (ad 11)), (1, .ref (ad 14)), (2, .int (iZ ((cnt : Nat) : Int))), (3, .int (iZ (wg))), (4, .int (iZ ((wo : Nat) : Int))), (5, .int (iZ ((wi : Nat) : Int))), (6, .int (iZ ((wo + wi : Nat) : Int)))]) hx hb d_H_addWeight_64 hl (by decide) rfl (fun ls hl => ?_)
            refine lv_iload hx hb d_H_addWeight_66 (lv_at hl 0 rfl) ?_
            refine z_if_eq (a := ((0 : Nat) : Int)) (tgt := 88) hx hb (by omega) d_H_addWeight_68 (by decide) (fun q68 => ?_) (fun q68 => ?_)
            · skip
              refine lv_aload_n hx hb d_H_addWeight_88 rfl (lv_at hl 2 rfl) ?_
              refine lv_iload hx hb d_H_addWeight_89 (lv_at hl 7 rfl) ?_
              refine lv_aload_n hx hb d_H_addWeight_91 rfl (lv_at hl 1 rfl) ?_
              refine va_get (D := D) (ci := 3) (v := .ref (ad 15)) (C := n_H) (T := f_H) (N := 6) hx hb hts in_H hown hK hP 11 rfl rfl 5 (by decide) (hts _ fl_H_28) (fun _ h9 => h9) rfl d_H_addWeight_92 ?_
              refine lv_iload hx hb d_H_addWeight_95 (lv_at hl 6 rfl) ?_
              have hb4 := hSb wi (by omega)
              refine z_iald (f := (icp (G.2.2.2.2.1) (G.2.2.2.2.2) cnt)) hx hb hK hP 15 0 rfl rfl (wi) (by omega) d_H_addWeight_97 ?_
              refine lv_iload_n hx hb d_H_addWeight_98 rfl (lv_at hl 4 rfl) ?_
              refine z_iadd (a := (icp (G.2.2.2.2.1) (G.2.2.2.2.2) cnt) (wi)) (b := wg) hx hb d_H_addWeight_99 ?_
              refine z_iast (f := L) (v := ((icp (G.2.2.2.2.1) (G.2.2.2.2.2) cnt) (wi)) + wg) hx hb hK hP hD hS 14 0 rfl rfl (wo + wi) (by omega) d_H_addWeight_100 (fun H locs hP hD hS => ?_)
              have hP : va_P D classes (wdC ad cI cZ cL J rd pr (G.1, G.2.1, G.2.2.1, G.2.2.2.1, (zu L (wo + wi) (((icp (G.2.2.2.2.1) (G.2.2.2.2.2) cnt) (wi)) + wg)), (icp (G.2.2.2.2.1) (G.2.2.2.2.2) cnt)) K tl) H := hP
              have hD : va_D A (wdC ad cI cZ cL J rd pr (G.1, G.2.1, G.2.2.1, G.2.2.2.1, (zu L (wo + wi) (((icp (G.2.2.2.2.1) (G.2.2.2.2.2) cnt) (wi)) + wg)), (icp (G.2.2.2.2.1) (G.2.2.2.2.2) cnt)) K tl) := hD
              refine lv_iinc (v := iZ ((wi + 1 : Nat) : Int)) (lv' := [(5, .int (iZ ((wi + 1 : Nat) : Int))), (7, .int (iZ ((0 : Nat) : Int))), (0, .ref (ad 11)), (1, .ref (ad 14)), (2, .int (iZ ((cnt : Nat) : Int))), (3, .int (iZ (wg))), (4, .int (iZ ((wo : Nat) : Int))), (6, .int (iZ ((wo + wi : Nat) : Int)))]) hx hb d_H_addWeight_101 hl (k := 6) rfl (iZ_inc (wi) 1) (by decide) rfl (fun ls hl => ?_)
              refine lv_iinc (v := iZ ((wo + wi + 1 : Nat) : Int)) (lv' := [(6, .int (iZ ((wo + wi + 1 : Nat) : Int))), (5, .int (iZ ((wi + 1 : Nat) : Int))), (7, .int (iZ ((0 : Nat) : Int))), (0, .ref (ad 11)), (1, .ref (ad 14)), (2, .int (iZ ((cnt : Nat) : Int))), (3, .int (iZ (wg))), (4, .int (iZ ((wo : Nat) : Int)))]) hx hb d_H_addWeight_104 hl (k := 7) rfl (iZ_inc (wo + wi) 1) (by decide) rfl (fun ls hl => ?_)
              refine lv_goto (tgt := 20) hx hb d_H_addWeight_107 (by decide) ?_
              exact ih20 wo (wi + 1) (zu L (wo + wi) ((icp (G.2.2.2.2.1) (G.2.2.2.2.2) cnt) wi + wg)) H locs ls (by omega) (su_M_b hM hSO (by omega) (fun z => by omega) (by have := hSb wi (by omega); omega)) (by omega) hP hD hS (lv_sub hl [3, 4, 5, 6, 7, 1, 0] (by rw [show (wo + (wi + 1)) = (wo + wi + 1) from by omega]; rfl))
            · skip
              exfalso; omega
          · skip
            refine lv_aload_n hx hb d_H_addWeight_40 rfl (lv_at hl 0 rfl) ?_
            refine va_get (D := D) (ci := 3) (v := .ref (ad 15)) (C := n_H) (T := f_H) (N := 6) hx hb hts in_H hown hK hP 11 rfl rfl 5 (by decide) (hts _ fl_H_28) (fun _ h9 => h9) rfl d_H_addWeight_41 ?_
            refine lv_iload hx hb d_H_addWeight_44 (lv_at hl 4 rfl) ?_
            have hb1 := hSb wo (by omega)
            refine z_iald (f := (icp (G.2.2.2.2.1) (G.2.2.2.2.2) cnt)) hx hb hK hP 15 0 rfl rfl (wo) (by omega) d_H_addWeight_46 ?_
            refine lv_aload_n hx hb d_H_addWeight_47 rfl (lv_at hl 0 rfl) ?_
            refine va_get (D := D) (ci := 3) (v := .ref (ad 15)) (C := n_H) (T := f_H) (N := 6) hx hb hts in_H hown hK hP 11 rfl rfl 5 (by decide) (hts _ fl_H_28) (fun _ h9 => h9) rfl d_H_addWeight_48 ?_
            refine lv_iload hx hb d_H_addWeight_51 (lv_at hl 5 rfl) ?_
            have hb2 := hSb wi (by omega)
            refine z_iald (f := (icp (G.2.2.2.2.1) (G.2.2.2.2.2) cnt)) hx hb hK hP 15 0 rfl rfl (wi) (by omega) d_H_addWeight_53 ?_
            refine lv_iload_n hx hb d_H_addWeight_54 rfl (lv_at hl 3 rfl) ?_
            refine z_iadd (a := (icp (G.2.2.2.2.1) (G.2.2.2.2.2) cnt) (wi)) (b := wg) hx hb d_H_addWeight_55 ?_
            refine z_icmp_gt (a := (icp (G.2.2.2.2.1) (G.2.2.2.2.2) cnt) (wo)) (b := ((icp (G.2.2.2.2.1) (G.2.2.2.2.2) cnt) (wi)) + wg) (tgt := 63) hx hb (by omega) d_H_addWeight_56 (by decide) (fun q56 => ?_) (fun q56 => ?_)
            · skip
              refine lv_iconst (v := iZ ((0 : Nat) : Int)) hx hb d_H_addWeight_63 (by decide) ?_
              refine lv_istore (lv' := [(7, .int (iZ ((0 : Nat) : Int))), (0, .ref (ad 11)), (1, .ref (ad 14)), (2, .int (iZ ((cnt : Nat) : Int))), (3, .int (iZ (wg))), (4, .int (iZ ((wo : Nat) : Int))), (5, .int (iZ ((wi : Nat) : Int))), (6, .int (iZ ((wo + wi : Nat) : Int)))]) hx hb d_H_addWeight_64 hl (by decide) rfl (fun ls hl => ?_)
              refine lv_iload hx hb d_H_addWeight_66 (lv_at hl 0 rfl) ?_
              refine z_if_eq (a := ((0 : Nat) : Int)) (tgt := 88) hx hb (by omega) d_H_addWeight_68 (by decide) (fun q68 => ?_) (fun q68 => ?_)
              · skip
                refine lv_aload_n hx hb d_H_addWeight_88 rfl (lv_at hl 2 rfl) ?_
                refine lv_iload hx hb d_H_addWeight_89 (lv_at hl 7 rfl) ?_
                refine lv_aload_n hx hb d_H_addWeight_91 rfl (lv_at hl 1 rfl) ?_
                refine va_get (D := D) (ci := 3) (v := .ref (ad 15)) (C := n_H) (T := f_H) (N := 6) hx hb hts in_H hown hK hP 11 rfl rfl 5 (by decide) (hts _ fl_H_28) (fun _ h9 => h9) rfl d_H_addWeight_92 ?_
                refine lv_iload hx hb d_H_addWeight_95 (lv_at hl 6 rfl) ?_
                have hb4 := hSb wi (by omega)
                refine z_iald (f := (icp (G.2.2.2.2.1) (G.2.2.2.2.2) cnt)) hx hb hK hP 15 0 rfl rfl (wi) (by omega) d_H_addWeight_97 ?_
                refine lv_iload_n hx hb d_H_addWeight_98 rfl (lv_at hl 4 rfl) ?_
                refine z_iadd (a := (icp (G.2.2.2.2.1) (G.2.2.2.2.2) cnt) (wi)) (b := wg) hx hb d_H_addWeight_99 ?_
                refine z_iast (f := L) (v := ((icp (G.2.2.2.2.1) (G.2.2.2.2.2) cnt) (wi)) + wg) hx hb hK hP hD hS 14 0 rfl rfl (wo + wi) (by omega) d_H_addWeight_100 (fun H locs hP hD hS => ?_)
                have hP : va_P D classes (wdC ad cI cZ cL J rd pr (G.1, G.2.1, G.2.2.1, G.2.2.2.1, (zu L (wo + wi) (((icp (G.2.2.2.2.1) (G.2.2.2.2.2) cnt) (wi)) + wg)), (icp (G.2.2.2.2.1) (G.2.2.2.2.2) cnt)) K tl) H := hP
                have hD : va_D A (wdC ad cI cZ cL J rd pr (G.1, G.2.1, G.2.2.1, G.2.2.2.1, (zu L (wo + wi) (((icp (G.2.2.2.2.1) (G.2.2.2.2.2) cnt) (wi)) + wg)), (icp (G.2.2.2.2.1) (G.2.2.2.2.2) cnt)) K tl) := hD
                refine lv_iinc (v := iZ ((wi + 1 : Nat) : Int)) (lv' := [(5, .int (iZ ((wi + 1 : Nat) : Int))), (7, .int (iZ ((0 : Nat) : Int))), (0, .ref (ad 11)), (1, .ref (ad 14)), (2, .int (iZ ((cnt : Nat) : Int))), (3, .int (iZ (wg))), (4, .int (iZ ((wo : Nat) : Int))), (6, .int (iZ ((wo + wi : Nat) : Int)))]) hx hb d_H_addWeight_101 hl (k := 6) rfl (iZ_inc (wi) 1) (by decide) rfl (fun ls hl => ?_)
                refine lv_iinc (v := iZ ((wo + wi + 1 : Nat) : Int)) (lv' := [(6, .int (iZ ((wo + wi + 1 : Nat) : Int))), (5, .int (iZ ((wi + 1 : Nat) : Int))), (7, .int (iZ ((0 : Nat) : Int))), (0, .ref (ad 11)), (1, .ref (ad 14)), (2, .int (iZ ((cnt : Nat) : Int))), (3, .int (iZ (wg))), (4, .int (iZ ((wo : Nat) : Int)))]) hx hb d_H_addWeight_104 hl (k := 7) rfl (iZ_inc (wo + wi) 1) (by decide) rfl (fun ls hl => ?_)
                refine lv_goto (tgt := 20) hx hb d_H_addWeight_107 (by decide) ?_
                exact ih20 wo (wi + 1) (zu L (wo + wi) ((icp (G.2.2.2.2.1) (G.2.2.2.2.2) cnt) wi + wg)) H locs ls (by omega) (su_M_b hM hSO (by omega) (fun z => by omega) (by have := hSb wi (by omega); omega)) (by omega) hP hD hS (lv_sub hl [3, 4, 5, 6, 7, 1, 0] (by rw [show (wo + (wi + 1)) = (wo + wi + 1) from by omega]; rfl))
              · skip
                exfalso; omega
            · skip
              refine lv_iconst (v := iZ ((1 : Nat) : Int)) hx hb d_H_addWeight_59 (by decide) ?_
              refine lv_goto (tgt := 64) hx hb d_H_addWeight_60 (by decide) ?_
              refine lv_istore (lv' := [(7, .int (iZ ((1 : Nat) : Int))), (0, .ref (ad 11)), (1, .ref (ad 14)), (2, .int (iZ ((cnt : Nat) : Int))), (3, .int (iZ (wg))), (4, .int (iZ ((wo : Nat) : Int))), (5, .int (iZ ((wi : Nat) : Int))), (6, .int (iZ ((wo + wi : Nat) : Int)))]) hx hb d_H_addWeight_64 hl (by decide) rfl (fun ls hl => ?_)
              refine lv_iload hx hb d_H_addWeight_66 (lv_at hl 0 rfl) ?_
              refine z_if_eq (a := ((1 : Nat) : Int)) (tgt := 88) hx hb (by omega) d_H_addWeight_68 (by decide) (fun q68 => ?_) (fun q68 => ?_)
              · skip
                exfalso; omega
              · skip
                refine lv_aload_n hx hb d_H_addWeight_71 rfl (lv_at hl 2 rfl) ?_
                refine lv_iload hx hb d_H_addWeight_72 (lv_at hl 7 rfl) ?_
                refine lv_aload_n hx hb d_H_addWeight_74 rfl (lv_at hl 1 rfl) ?_
                refine va_get (D := D) (ci := 3) (v := .ref (ad 15)) (C := n_H) (T := f_H) (N := 6) hx hb hts in_H hown hK hP 11 rfl rfl 5 (by decide) (hts _ fl_H_28) (fun _ h9 => h9) rfl d_H_addWeight_75 ?_
                refine lv_iload hx hb d_H_addWeight_78 (lv_at hl 5 rfl) ?_
                have hb3 := hSb wo (by omega)
                refine z_iald (f := (icp (G.2.2.2.2.1) (G.2.2.2.2.2) cnt)) hx hb hK hP 15 0 rfl rfl (wo) (by omega) d_H_addWeight_80 ?_
                refine z_iast (f := L) (v := (icp (G.2.2.2.2.1) (G.2.2.2.2.2) cnt) (wo)) hx hb hK hP hD hS 14 0 rfl rfl (wo + wi) (by omega) d_H_addWeight_81 (fun H locs hP hD hS => ?_)
                have hP : va_P D classes (wdC ad cI cZ cL J rd pr (G.1, G.2.1, G.2.2.1, G.2.2.2.1, (zu L (wo + wi) ((icp (G.2.2.2.2.1) (G.2.2.2.2.2) cnt) (wo))), (icp (G.2.2.2.2.1) (G.2.2.2.2.2) cnt)) K tl) H := hP
                have hD : va_D A (wdC ad cI cZ cL J rd pr (G.1, G.2.1, G.2.2.1, G.2.2.2.1, (zu L (wo + wi) ((icp (G.2.2.2.2.1) (G.2.2.2.2.2) cnt) (wo))), (icp (G.2.2.2.2.1) (G.2.2.2.2.2) cnt)) K tl) := hD
                refine lv_iinc (v := iZ ((wo + 1 : Nat) : Int)) (lv' := [(4, .int (iZ ((wo + 1 : Nat) : Int))), (7, .int (iZ ((1 : Nat) : Int))), (0, .ref (ad 11)), (1, .ref (ad 14)), (2, .int (iZ ((cnt : Nat) : Int))), (3, .int (iZ (wg))), (5, .int (iZ ((wi : Nat) : Int))), (6, .int (iZ ((wo + wi : Nat) : Int)))]) hx hb d_H_addWeight_82 hl (k := 5) rfl (iZ_inc (wo) 1) (by decide) rfl (fun ls hl => ?_)
                refine lv_goto (tgt := 104) hx hb d_H_addWeight_85 (by decide) ?_
                refine lv_iinc (v := iZ ((wo + wi + 1 : Nat) : Int)) (lv' := [(6, .int (iZ ((wo + wi + 1 : Nat) : Int))), (4, .int (iZ ((wo + 1 : Nat) : Int))), (7, .int (iZ ((1 : Nat) : Int))), (0, .ref (ad 11)), (1, .ref (ad 14)), (2, .int (iZ ((cnt : Nat) : Int))), (3, .int (iZ (wg))), (5, .int (iZ ((wi : Nat) : Int)))]) hx hb d_H_addWeight_104 hl (k := 7) rfl (iZ_inc (wo + wi) 1) (by decide) rfl (fun ls hl => ?_)
                refine lv_goto (tgt := 20) hx hb d_H_addWeight_107 (by decide) ?_
                exact ih20 (wo + 1) wi (zu L (wo + wi) ((icp (G.2.2.2.2.1) (G.2.2.2.2.2) cnt) wo)) H locs ls (by omega) (su_M_a hM hSO (by omega) (fun z => by omega) (by have := hSb wo (by omega); omega)) (by omega) hP hD hS (lv_sub hl [3, 4, 5, 6, 1, 7, 0] (by rw [show ((wo + 1) + wi) = (wo + wi + 1) from by omega]; rfl))
  exact L20 (2 * cnt - (0 + 0) + 1) 0 0 G.2.2.2.2.1 H locs ls (⟨Nat.zero_le _, Nat.zero_le _⟩) su_M_0 (by omega) hP hD hS (lv_sub hl [3, 4, 5, 6, 2, 1, 0] rfl)

set_option maxHeartbeats 4000000 in
set_option maxRecDepth 100000 in
theorem k_H_fillSums_lo {l : Launch} {D : va_G} {ad : Nat → Nat} {cI cZ cL : ClassId} {J : SJ} {rd : Nat → Int} {pr : Nat → Nat} {G : SH} {K : SK} {tl : va_W} {fr tt : Nat} (hf : fr ≤ tt ∧ tt ≤ 16 ∧ tt - fr ≤ 8) (hwt : ∀ j, j < tt → 0 ≤ G.1 j ∧ G.1 j ≤ 1000) : zMi l TB D classes (tysW cI cZ cL) y_H_fillSums w_H_fillSums 2 87 [.ref (ad 11), .ref (ad 13), .int (iZ ((fr : Nat) : Int)), .int (iZ ((tt : Nat) : Int))] (wdC ad cI cZ cL J rd pr G K tl) (fun r w => ∃ (L sq : Nat → Int), r = iZ ((2 ^ (tt - fr) : Nat) : Int) ∧ w = wdC ad cI cZ cL J rd pr (G.1, G.2.1, G.2.2.1, L, G.2.2.2.2.1, sq) K tl ∧ su_O L (2 ^ (tt - fr)) ∧ su_R G.1 fr (tt - fr) L (2 ^ (tt - fr)) ∧ (∀ j, j < 2 ^ (tt - fr) → 0 ≤ L j ∧ L j ≤ 8000)) := by
  refine z_of (Qc := fun A => va_Qi (fun r w => ∃ (L sq : Nat → Int), r = iZ ((2 ^ (tt - fr) : Nat) : Int) ∧ w = wdC ad cI cZ cL J rd pr (G.1, G.2.1, G.2.2.1, L, G.2.2.2.2.1, sq) K tl ∧ su_O L (2 ^ (tt - fr)) ∧ su_R G.1 fr (tt - fr) L (2 ^ (tt - fr)) ∧ (∀ j, j < 2 ^ (tt - fr) → 0 ≤ L j ∧ L j ≤ 8000)) (zB9 D classes (wdC ad cI cZ cL J rd pr G K tl)) A) (by decide) (Nat.le_of_ble_eq_true rfl) ?_
  intro p e s m below meth c A ls Z hP hK hD hS hA hl
  obtain ⟨hx, hb, hr, hml, hown, hts, hE, hlocks⟩ := id Z
  have hl : lv_has ls 6 [(0, .ref (ad 11)), (1, .ref (ad 13)), (2, .int (iZ ((fr : Nat) : Int))), (3, .int (iZ ((tt : Nat) : Int)))] := hl
  suffices K9 : ∀ (H : Heap) (locs : List Loc) (ls : Array Slot), va_P D classes (wdC ad cI cZ cL J rd pr G K tl) H → va_D A (wdC ad cI cZ cL J rd pr G K tl) → va_S A s.heap H locs → lv_has ls 6 [(0, .ref (ad 11)), (1, .ref (ad 13)), (2, .int (iZ ((fr : Nat) : Int))), (3, .int (iZ ((tt : Nat) : Int)))] → W p l e (zRm 2 87) s m ([.ref (ad 11), .ref (ad 13), .int (iZ ((fr : Nat) : Int)), .int (iZ ((tt : Nat) : Int))] : List Value).toArray below meth c H locs 0 0 (MQ below (va_Qi (fun r w => ∃ (L sq : Nat → Int), r = iZ ((2 ^ (tt - fr) : Nat) : Int) ∧ w = wdC ad cI cZ cL J rd pr (G.1, G.2.1, G.2.2.1, L, G.2.2.2.2.1, sq) K tl ∧ su_O L (2 ^ (tt - fr)) ∧ su_R G.1 fr (tt - fr) L (2 ^ (tt - fr)) ∧ (∀ j, j < 2 ^ (tt - fr) → 0 ≤ L j ∧ L j ≤ 8000)) (zB9 D classes (wdC ad cI cZ cL J rd pr G K tl)) A) ([.ref (ad 11), .ref (ad 13), .int (iZ ((fr : Nat) : Int)), .int (iZ ((tt : Nat) : Int))] : List Value).toArray s 0 0 A) (F0 m 0 ls []) from K9 s.heap [] ls hP hD hS hl
  clear hP hD hS hl
  intro H locs ls hP hD hS hl
  refine lv_iconst (v := iZ ((1 : Nat) : Int)) hx hb d_H_fillSums_0 (by decide) ?_
  refine lv_istore (lv' := [(4, .int (iZ ((1 : Nat) : Int))), (0, .ref (ad 11)), (1, .ref (ad 13)), (2, .int (iZ ((fr : Nat) : Int))), (3, .int (iZ ((tt : Nat) : Int)))]) hx hb d_H_fillSums_1 hl (by decide) rfl (fun ls hl => ?_)
  refine lv_aload_n hx hb d_H_fillSums_3 rfl (lv_at hl 2 rfl) ?_
  refine lv_iconst (v := iZ ((0 : Nat) : Int)) hx hb d_H_fillSums_4 (by decide) ?_
  refine lv_iconst (v := iZ ((0 : Nat) : Int)) hx hb d_H_fillSums_5 (by decide) ?_
  refine z_iast (f := G.2.2.2.1) (v := ((0 : Nat) : Int)) hx hb hK hP hD hS 13 0 rfl rfl (0) (by omega) d_H_fillSums_6 (fun H locs hP hD hS => ?_)
  have hP : va_P D classes (wdC ad cI cZ cL J rd pr (G.1, G.2.1, G.2.2.1, (zu G.2.2.2.1 (0) ((0 : Nat) : Int)), G.2.2.2.2.1, G.2.2.2.2.2) K tl) H := hP
  have hD : va_D A (wdC ad cI cZ cL J rd pr (G.1, G.2.1, G.2.2.1, (zu G.2.2.2.1 (0) ((0 : Nat) : Int)), G.2.2.2.2.1, G.2.2.2.2.2) K tl) := hD
  refine lv_iload_n hx hb d_H_fillSums_7 rfl (lv_at hl 3 rfl) ?_
  refine lv_istore (lv' := [(5, .int (iZ ((fr : Nat) : Int))), (4, .int (iZ ((1 : Nat) : Int))), (0, .ref (ad 11)), (1, .ref (ad 13)), (2, .int (iZ ((fr : Nat) : Int))), (3, .int (iZ ((tt : Nat) : Int)))]) hx hb d_H_fillSums_8 hl (by decide) rfl (fun ls hl => ?_)
  have L10 : ∀ (N10 : Nat) (i : Nat) (L : Nat → Int) (sq : Nat → Int) (H : Heap) (locs : List Loc) (ls : Array Slot), (fr ≤ i ∧ i ≤ tt) → (su_O L (2 ^ (i - fr))) → (su_R G.1 fr (i - fr) L (2 ^ (i - fr))) → (∀ j, j < 2 ^ (i - fr) → 0 ≤ L j ∧ L j ≤ 1000 * ((i - fr : Nat) : Int)) → tt - i < N10 → va_P D classes (wdC ad cI cZ cL J rd pr (G.1, G.2.1, G.2.2.1, L, G.2.2.2.2.1, sq) K tl) H → va_D A (wdC ad cI cZ cL J rd pr (G.1, G.2.1, G.2.2.1, L, G.2.2.2.2.1, sq) K tl) → va_S A s.heap H locs → lv_has ls 6 [(0, .ref (ad 11)), (1, .ref (ad 13)), (2, .int (iZ ((fr : Nat) : Int))), (3, .int (iZ ((tt : Nat) : Int))), (4, .int (iZ ((2 ^ (i - fr) : Nat) : Int))), (5, .int (iZ ((i : Nat) : Int)))] → W p l e (zRm 2 87) s m ([.ref (ad 11), .ref (ad 13), .int (iZ ((fr : Nat) : Int)), .int (iZ ((tt : Nat) : Int))] : List Value).toArray below meth c H locs 0 0 (MQ below (va_Qi (fun r w => ∃ (L sq : Nat → Int), r = iZ ((2 ^ (tt - fr) : Nat) : Int) ∧ w = wdC ad cI cZ cL J rd pr (G.1, G.2.1, G.2.2.1, L, G.2.2.2.2.1, sq) K tl ∧ su_O L (2 ^ (tt - fr)) ∧ su_R G.1 fr (tt - fr) L (2 ^ (tt - fr)) ∧ (∀ j, j < 2 ^ (tt - fr) → 0 ≤ L j ∧ L j ≤ 8000)) (zB9 D classes (wdC ad cI cZ cL J rd pr G K tl)) A) ([.ref (ad 11), .ref (ad 13), .int (iZ ((fr : Nat) : Int)), .int (iZ ((tt : Nat) : Int))] : List Value).toArray s 0 0 A) (F0 m 10 ls []) := by
    intro N10
    induction N10 with
    | zero =>
      intro i L sq H locs ls hi hLO hLR hLb hN10 hP hD hS hl
      exact absurd hN10 (Nat.not_lt_zero _)
    | succ N10 ih10 =>
      intro i L sq H locs ls hi hLO hLR hLb hN10 hP hD hS hl
      refine lv_iload hx hb d_H_fillSums_10 (lv_at hl 5 rfl) ?_
      refine lv_iload_n hx hb d_H_fillSums_12 rfl (lv_at hl 3 rfl) ?_
      refine z_icmp_ge (a := ((i : Nat) : Int)) (b := ((tt : Nat) : Int)) (tgt := 42) hx hb (by omega) d_H_fillSums_13 (by decide) (fun q13 => ?_) (fun q13 => ?_)
      · skip
        refine lv_iload hx hb d_H_fillSums_42 (lv_at hl 4 rfl) ?_
        exact z_iret Z hP hS d_H_fillSums_44 wdC_map (by have e : i = tt := (by omega); rw [e] at hLO hLR hLb; exact ⟨L, sq, by rw [e], rfl, hLO, hLR, fun j hj => (by have := hLb j hj; omega)⟩)
      · skip
        have hpw : 2 ^ (i - fr) ≤ 128 := two_le (show i - fr ≤ 7 by omega)
        have hpe : 2 ^ (i + 1 - fr) = 2 * 2 ^ (i - fr) := by rw [show i + 1 - fr = (i - fr) + 1 by omega, Nat.pow_succ, Nat.mul_comm]
        refine lv_aload_n hx hb d_H_fillSums_16 rfl (lv_at hl 0 rfl) ?_
        refine lv_aload_n hx hb d_H_fillSums_17 rfl (lv_at hl 1 rfl) ?_
        refine lv_iload hx hb d_H_fillSums_18 (lv_at hl 4 rfl) ?_
        refine lv_aload_n hx hb d_H_fillSums_20 rfl (lv_at hl 0 rfl) ?_
        refine va_get (D := D) (ci := 3) (v := .ref (ad 12)) (C := n_H) (T := f_H) (N := 6) hx hb hts in_H hown hK hP 11 rfl rfl 0 (by decide) (hts _ fl_H_9) (fun _ h9 => h9) rfl d_H_fillSums_21 ?_
        refine lv_iload hx hb d_H_fillSums_24 (lv_at hl 5 rfl) ?_
        refine z_iald (f := G.1) hx hb hK hP 12 0 rfl rfl (i) (by omega) d_H_fillSums_26 ?_
        refine z_kv (z_runV (As := [.ref (ad 13), .int (iZ ((2 ^ (i - fr) : Nat) : Int)), .int (iZ (G.1 (i)))]) (rest := []) zTB Z (k_H_addWeight_lo (cnt := 2 ^ (i - fr)) (wg := G.1 i) (M := 1000 * ((i - fr : Nat) : Int)) (by have := hwt i (by omega); omega) hLO hLb) ⟨ml_H_35, im_H_addWeight, se_H_addWeight, ini_H, co_H_addWeight⟩ zd_H_addWeight ⟨Nat.le_of_ble_eq_true rfl, Nat.le_of_ble_eq_true rfl⟩ hP hK hD (ci := 3) (q0 := 11) rfl rfl rfl hl.1 rfl (Nat.le_of_ble_eq_true rfl) d_H_fillSums_27 ⟨Nat.zero_le _, Nat.zero_le _⟩) hD hS hA (fun w9 H locs hp9 hP hD hS => ?_)
        obtain ⟨L1, sq1, rfl, hO1, hb1, hs1⟩ := hp9
        have hP : va_P D classes (wdC ad cI cZ cL J rd pr (G.1, G.2.1, G.2.2.1, L1, G.2.2.2.2.1, sq1) K tl) H := hP
        have hD : va_D A (wdC ad cI cZ cL J rd pr (G.1, G.2.1, G.2.2.1, L1, G.2.2.2.2.1, sq1) K tl) := hD
        refine W.eq (g2 := F0 m 30 ls []) rfl ?_
        refine lv_iload hx hb d_H_fillSums_30 (lv_at hl 4 rfl) ?_
        refine lv_iconst (v := iZ ((2 : Nat) : Int)) hx hb d_H_fillSums_32 (by decide) ?_
        refine z_imulN (u := 2 ^ (i - fr)) (v := 2) hx hb d_H_fillSums_33 ?_
        refine lv_istore (lv' := [(4, .int (iZ (((2 ^ (i - fr)) * 2 : Nat) : Int))), (0, .ref (ad 11)), (1, .ref (ad 13)), (2, .int (iZ ((fr : Nat) : Int))), (3, .int (iZ ((tt : Nat) : Int))), (5, .int (iZ ((i : Nat) : Int)))]) hx hb d_H_fillSums_34 hl (by decide) rfl (fun ls hl => ?_)
        refine lv_iinc (v := iZ ((i + 1 : Nat) : Int)) (lv' := [(5, .int (iZ ((i + 1 : Nat) : Int))), (4, .int (iZ (((2 ^ (i - fr)) * 2 : Nat) : Int))), (0, .ref (ad 11)), (1, .ref (ad 13)), (2, .int (iZ ((fr : Nat) : Int))), (3, .int (iZ ((tt : Nat) : Int)))]) hx hb d_H_fillSums_36 hl (k := 5) rfl (iZ_inc (i) 1) (by decide) rfl (fun ls hl => ?_)
        refine lv_goto (tgt := 10) hx hb d_H_fillSums_39 (by decide) ?_
        exact ih10 (i + 1) L1 sq1 H locs ls (by omega) (by rw [hpe]; exact hO1) (by rw [hpe, show i + 1 - fr = (i - fr) + 1 by omega]; exact su_R_s hLR (fun f => by rw [hs1 f, show fr + (i - fr) = i by omega])) (by rw [hpe]; intro j hj; have := hb1 j hj; omega) (by omega) hP hD hS (lv_sub hl [2, 3, 4, 5, 1, 0] (by rw [show (2 ^ ((i + 1) - fr)) = ((2 ^ (i - fr)) * 2) from by rw [hpe, Nat.mul_comm]]; rfl))
  exact L10 (tt - fr + 1) fr (zu (G.2.2.2.1) 0 ((0 : Nat) : Int)) G.2.2.2.2.2 H locs ls (by omega) (by rw [Nat.sub_self]; intro a b h1 h2; rw [show a = b by omega]; exact Int.le_refl _) (by rw [Nat.sub_self]; exact su_R_0 _ _ (zu_s _ _ _)) (by rw [Nat.sub_self]; intro j hj; rw [show j = 0 by omega, zu_s]; omega) (by omega) hP hD hS (lv_sub hl [2, 3, 4, 5, 1, 0] (by rw [show (2 ^ (fr - fr)) = (1) from by rw [Nat.sub_self]]; rfl))

set_option maxHeartbeats 4000000 in
set_option maxRecDepth 100000 in
theorem k_H_fillSums_hi {l : Launch} {D : va_G} {ad : Nat → Nat} {cI cZ cL : ClassId} {J : SJ} {rd : Nat → Int} {pr : Nat → Nat} {G : SH} {K : SK} {tl : va_W} {fr tt : Nat} (hf : fr ≤ tt ∧ tt ≤ 16 ∧ tt - fr ≤ 8) (hwt : ∀ j, j < tt → 0 ≤ G.1 j ∧ G.1 j ≤ 1000) : zMi l TB D classes (tysW cI cZ cL) y_H_fillSums w_H_fillSums 2 87 [.ref (ad 11), .ref (ad 14), .int (iZ ((fr : Nat) : Int)), .int (iZ ((tt : Nat) : Int))] (wdC ad cI cZ cL J rd pr G K tl) (fun r w => ∃ (L sq : Nat → Int), r = iZ ((2 ^ (tt - fr) : Nat) : Int) ∧ w = wdC ad cI cZ cL J rd pr (G.1, G.2.1, G.2.2.1, G.2.2.2.1, L, sq) K tl ∧ su_O L (2 ^ (tt - fr)) ∧ su_R G.1 fr (tt - fr) L (2 ^ (tt - fr)) ∧ (∀ j, j < 2 ^ (tt - fr) → 0 ≤ L j ∧ L j ≤ 8000)) := by
  refine z_of (Qc := fun A => va_Qi (fun r w => ∃ (L sq : Nat → Int), r = iZ ((2 ^ (tt - fr) : Nat) : Int) ∧ w = wdC ad cI cZ cL J rd pr (G.1, G.2.1, G.2.2.1, G.2.2.2.1, L, sq) K tl ∧ su_O L (2 ^ (tt - fr)) ∧ su_R G.1 fr (tt - fr) L (2 ^ (tt - fr)) ∧ (∀ j, j < 2 ^ (tt - fr) → 0 ≤ L j ∧ L j ≤ 8000)) (zB9 D classes (wdC ad cI cZ cL J rd pr G K tl)) A) (by decide) (Nat.le_of_ble_eq_true rfl) ?_
  intro p e s m below meth c A ls Z hP hK hD hS hA hl
  obtain ⟨hx, hb, hr, hml, hown, hts, hE, hlocks⟩ := id Z
  have hl : lv_has ls 6 [(0, .ref (ad 11)), (1, .ref (ad 14)), (2, .int (iZ ((fr : Nat) : Int))), (3, .int (iZ ((tt : Nat) : Int)))] := hl
  suffices K9 : ∀ (H : Heap) (locs : List Loc) (ls : Array Slot), va_P D classes (wdC ad cI cZ cL J rd pr G K tl) H → va_D A (wdC ad cI cZ cL J rd pr G K tl) → va_S A s.heap H locs → lv_has ls 6 [(0, .ref (ad 11)), (1, .ref (ad 14)), (2, .int (iZ ((fr : Nat) : Int))), (3, .int (iZ ((tt : Nat) : Int)))] → W p l e (zRm 2 87) s m ([.ref (ad 11), .ref (ad 14), .int (iZ ((fr : Nat) : Int)), .int (iZ ((tt : Nat) : Int))] : List Value).toArray below meth c H locs 0 0 (MQ below (va_Qi (fun r w => ∃ (L sq : Nat → Int), r = iZ ((2 ^ (tt - fr) : Nat) : Int) ∧ w = wdC ad cI cZ cL J rd pr (G.1, G.2.1, G.2.2.1, G.2.2.2.1, L, sq) K tl ∧ su_O L (2 ^ (tt - fr)) ∧ su_R G.1 fr (tt - fr) L (2 ^ (tt - fr)) ∧ (∀ j, j < 2 ^ (tt - fr) → 0 ≤ L j ∧ L j ≤ 8000)) (zB9 D classes (wdC ad cI cZ cL J rd pr G K tl)) A) ([.ref (ad 11), .ref (ad 14), .int (iZ ((fr : Nat) : Int)), .int (iZ ((tt : Nat) : Int))] : List Value).toArray s 0 0 A) (F0 m 0 ls []) from K9 s.heap [] ls hP hD hS hl
  clear hP hD hS hl
  intro H locs ls hP hD hS hl
  refine lv_iconst (v := iZ ((1 : Nat) : Int)) hx hb d_H_fillSums_0 (by decide) ?_
  refine lv_istore (lv' := [(4, .int (iZ ((1 : Nat) : Int))), (0, .ref (ad 11)), (1, .ref (ad 14)), (2, .int (iZ ((fr : Nat) : Int))), (3, .int (iZ ((tt : Nat) : Int)))]) hx hb d_H_fillSums_1 hl (by decide) rfl (fun ls hl => ?_)
  refine lv_aload_n hx hb d_H_fillSums_3 rfl (lv_at hl 2 rfl) ?_
  refine lv_iconst (v := iZ ((0 : Nat) : Int)) hx hb d_H_fillSums_4 (by decide) ?_
  refine lv_iconst (v := iZ ((0 : Nat) : Int)) hx hb d_H_fillSums_5 (by decide) ?_
  refine z_iast (f := G.2.2.2.2.1) (v := ((0 : Nat) : Int)) hx hb hK hP hD hS 14 0 rfl rfl (0) (by omega) d_H_fillSums_6 (fun H locs hP hD hS => ?_)
  have hP : va_P D classes (wdC ad cI cZ cL J rd pr (G.1, G.2.1, G.2.2.1, G.2.2.2.1, (zu G.2.2.2.2.1 (0) ((0 : Nat) : Int)), G.2.2.2.2.2) K tl) H := hP
  have hD : va_D A (wdC ad cI cZ cL J rd pr (G.1, G.2.1, G.2.2.1, G.2.2.2.1, (zu G.2.2.2.2.1 (0) ((0 : Nat) : Int)), G.2.2.2.2.2) K tl) := hD
  refine lv_iload_n hx hb d_H_fillSums_7 rfl (lv_at hl 3 rfl) ?_
  refine lv_istore (lv' := [(5, .int (iZ ((fr : Nat) : Int))), (4, .int (iZ ((1 : Nat) : Int))), (0, .ref (ad 11)), (1, .ref (ad 14)), (2, .int (iZ ((fr : Nat) : Int))), (3, .int (iZ ((tt : Nat) : Int)))]) hx hb d_H_fillSums_8 hl (by decide) rfl (fun ls hl => ?_)
  have L10 : ∀ (N10 : Nat) (i : Nat) (L : Nat → Int) (sq : Nat → Int) (H : Heap) (locs : List Loc) (ls : Array Slot), (fr ≤ i ∧ i ≤ tt) → (su_O L (2 ^ (i - fr))) → (su_R G.1 fr (i - fr) L (2 ^ (i - fr))) → (∀ j, j < 2 ^ (i - fr) → 0 ≤ L j ∧ L j ≤ 1000 * ((i - fr : Nat) : Int)) → tt - i < N10 → va_P D classes (wdC ad cI cZ cL J rd pr (G.1, G.2.1, G.2.2.1, G.2.2.2.1, L, sq) K tl) H → va_D A (wdC ad cI cZ cL J rd pr (G.1, G.2.1, G.2.2.1, G.2.2.2.1, L, sq) K tl) → va_S A s.heap H locs → lv_has ls 6 [(0, .ref (ad 11)), (1, .ref (ad 14)), (2, .int (iZ ((fr : Nat) : Int))), (3, .int (iZ ((tt : Nat) : Int))), (4, .int (iZ ((2 ^ (i - fr) : Nat) : Int))), (5, .int (iZ ((i : Nat) : Int)))] → W p l e (zRm 2 87) s m ([.ref (ad 11), .ref (ad 14), .int (iZ ((fr : Nat) : Int)), .int (iZ ((tt : Nat) : Int))] : List Value).toArray below meth c H locs 0 0 (MQ below (va_Qi (fun r w => ∃ (L sq : Nat → Int), r = iZ ((2 ^ (tt - fr) : Nat) : Int) ∧ w = wdC ad cI cZ cL J rd pr (G.1, G.2.1, G.2.2.1, G.2.2.2.1, L, sq) K tl ∧ su_O L (2 ^ (tt - fr)) ∧ su_R G.1 fr (tt - fr) L (2 ^ (tt - fr)) ∧ (∀ j, j < 2 ^ (tt - fr) → 0 ≤ L j ∧ L j ≤ 8000)) (zB9 D classes (wdC ad cI cZ cL J rd pr G K tl)) A) ([.ref (ad 11), .ref (ad 14), .int (iZ ((fr : Nat) : Int)), .int (iZ ((tt : Nat) : Int))] : List Value).toArray s 0 0 A) (F0 m 10 ls []) := by
    intro N10
    induction N10 with
    | zero =>
      intro i L sq H locs ls hi hLO hLR hLb hN10 hP hD hS hl
      exact absurd hN10 (Nat.not_lt_zero _)
    | succ N10 ih10 =>
      intro i L sq H locs ls hi hLO hLR hLb hN10 hP hD hS hl
      refine lv_iload hx hb d_H_fillSums_10 (lv_at hl 5 rfl) ?_
      refine lv_iload_n hx hb d_H_fillSums_12 rfl (lv_at hl 3 rfl) ?_
      refine z_icmp_ge (a := ((i : Nat) : Int)) (b := ((tt : Nat) : Int)) (tgt := 42) hx hb (by omega) d_H_fillSums_13 (by decide) (fun q13 => ?_) (fun q13 => ?_)
      · skip
        refine lv_iload hx hb d_H_fillSums_42 (lv_at hl 4 rfl) ?_
        exact z_iret Z hP hS d_H_fillSums_44 wdC_map (by have e : i = tt := (by omega); rw [e] at hLO hLR hLb; exact ⟨L, sq, by rw [e], rfl, hLO, hLR, fun j hj => (by have := hLb j hj; omega)⟩)
      · skip
        have hpw : 2 ^ (i - fr) ≤ 128 := two_le (show i - fr ≤ 7 by omega)
        have hpe : 2 ^ (i + 1 - fr) = 2 * 2 ^ (i - fr) := by rw [show i + 1 - fr = (i - fr) + 1 by omega, Nat.pow_succ, Nat.mul_comm]
        refine lv_aload_n hx hb d_H_fillSums_16 rfl (lv_at hl 0 rfl) ?_
        refine lv_aload_n hx hb d_H_fillSums_17 rfl (lv_at hl 1 rfl) ?_
        refine lv_iload hx hb d_H_fillSums_18 (lv_at hl 4 rfl) ?_
        refine lv_aload_n hx hb d_H_fillSums_20 rfl (lv_at hl 0 rfl) ?_
        refine va_get (D := D) (ci := 3) (v := .ref (ad 12)) (C := n_H) (T := f_H) (N := 6) hx hb hts in_H hown hK hP 11 rfl rfl 0 (by decide) (hts _ fl_H_9) (fun _ h9 => h9) rfl d_H_fillSums_21 ?_
        refine lv_iload hx hb d_H_fillSums_24 (lv_at hl 5 rfl) ?_
        refine z_iald (f := G.1) hx hb hK hP 12 0 rfl rfl (i) (by omega) d_H_fillSums_26 ?_
        refine z_kv (z_runV (As := [.ref (ad 14), .int (iZ ((2 ^ (i - fr) : Nat) : Int)), .int (iZ (G.1 (i)))]) (rest := []) zTB Z (k_H_addWeight_hi (cnt := 2 ^ (i - fr)) (wg := G.1 i) (M := 1000 * ((i - fr : Nat) : Int)) (by have := hwt i (by omega); omega) hLO hLb) ⟨ml_H_35, im_H_addWeight, se_H_addWeight, ini_H, co_H_addWeight⟩ zd_H_addWeight ⟨Nat.le_of_ble_eq_true rfl, Nat.le_of_ble_eq_true rfl⟩ hP hK hD (ci := 3) (q0 := 11) rfl rfl rfl hl.1 rfl (Nat.le_of_ble_eq_true rfl) d_H_fillSums_27 ⟨Nat.zero_le _, Nat.zero_le _⟩) hD hS hA (fun w9 H locs hp9 hP hD hS => ?_)
        obtain ⟨L1, sq1, rfl, hO1, hb1, hs1⟩ := hp9
        have hP : va_P D classes (wdC ad cI cZ cL J rd pr (G.1, G.2.1, G.2.2.1, G.2.2.2.1, L1, sq1) K tl) H := hP
        have hD : va_D A (wdC ad cI cZ cL J rd pr (G.1, G.2.1, G.2.2.1, G.2.2.2.1, L1, sq1) K tl) := hD
        refine W.eq (g2 := F0 m 30 ls []) rfl ?_
        refine lv_iload hx hb d_H_fillSums_30 (lv_at hl 4 rfl) ?_
        refine lv_iconst (v := iZ ((2 : Nat) : Int)) hx hb d_H_fillSums_32 (by decide) ?_
        refine z_imulN (u := 2 ^ (i - fr)) (v := 2) hx hb d_H_fillSums_33 ?_
        refine lv_istore (lv' := [(4, .int (iZ (((2 ^ (i - fr)) * 2 : Nat) : Int))), (0, .ref (ad 11)), (1, .ref (ad 14)), (2, .int (iZ ((fr : Nat) : Int))), (3, .int (iZ ((tt : Nat) : Int))), (5, .int (iZ ((i : Nat) : Int)))]) hx hb d_H_fillSums_34 hl (by decide) rfl (fun ls hl => ?_)
        refine lv_iinc (v := iZ ((i + 1 : Nat) : Int)) (lv' := [(5, .int (iZ ((i + 1 : Nat) : Int))), (4, .int (iZ (((2 ^ (i - fr)) * 2 : Nat) : Int))), (0, .ref (ad 11)), (1, .ref (ad 14)), (2, .int (iZ ((fr : Nat) : Int))), (3, .int (iZ ((tt : Nat) : Int)))]) hx hb d_H_fillSums_36 hl (k := 5) rfl (iZ_inc (i) 1) (by decide) rfl (fun ls hl => ?_)
        refine lv_goto (tgt := 10) hx hb d_H_fillSums_39 (by decide) ?_
        exact ih10 (i + 1) L1 sq1 H locs ls (by omega) (by rw [hpe]; exact hO1) (by rw [hpe, show i + 1 - fr = (i - fr) + 1 by omega]; exact su_R_s hLR (fun f => by rw [hs1 f, show fr + (i - fr) = i by omega])) (by rw [hpe]; intro j hj; have := hb1 j hj; omega) (by omega) hP hD hS (lv_sub hl [2, 3, 4, 5, 1, 0] (by rw [show (2 ^ ((i + 1) - fr)) = ((2 ^ (i - fr)) * 2) from by rw [hpe, Nat.mul_comm]]; rfl))
  exact L10 (tt - fr + 1) fr (zu (G.2.2.2.2.1) 0 ((0 : Nat) : Int)) G.2.2.2.2.2 H locs ls (by omega) (by rw [Nat.sub_self]; intro a b h1 h2; rw [show a = b by omega]; exact Int.le_refl _) (by rw [Nat.sub_self]; exact su_R_0 _ _ (zu_s _ _ _)) (by rw [Nat.sub_self]; intro j hj; rw [show j = 0 by omega, zu_s]; omega) (by omega) hP hD hS (lv_sub hl [2, 3, 4, 5, 1, 0] (by rw [show (2 ^ (fr - fr)) = (1) from by rw [Nat.sub_self]]; rfl))
end
