section
-- ===== PART A: goes FIRST, ahead of the names: the tables' words, and 'selects' of the private methods out of them =====
/-- a private method of a class that the tables say can be made, by its rows of tables_1 -/
def lw_okq (q : MethodName × Nat) : Prop := (q.1.cls ≠ "java/lang/invoke/MethodHandle" ∧ q.1.cls ≠ "java/lang/invoke/VarHandle") ∧ Cond.instantiable q.1.cls q.2 ∈ tables_1 ∧ Cond.privateMethod q.1 ∈ tables_1 ∧ Cond.instanceMethod q.1 ∈ tables_1
theorem lw_p0 : lw_okq (⟨"RamBook", "isRam", "(I)Z"⟩, 13) := ⟨⟨by decide +kernel, by decide +kernel⟩, List.mem_of_getElem? (i := 14) (by decide +kernel), List.mem_of_getElem? (i := 290) (by decide +kernel), List.mem_of_getElem? (i := 291) (by decide +kernel)⟩
theorem lw_p1 : lw_okq (⟨"RamBook$Ram", "reckon", "()V"⟩, 6) := ⟨⟨by decide +kernel, by decide +kernel⟩, List.mem_of_getElem? (i := 23) (by decide +kernel), List.mem_of_getElem? (i := 323) (by decide +kernel), List.mem_of_getElem? (i := 324) (by decide +kernel)⟩
theorem lw_p2 : lw_okq (⟨"RamBook$Tunes", "upOf", "(III)I"⟩, 7) := ⟨⟨by decide +kernel, by decide +kernel⟩, List.mem_of_getElem? (i := 80) (by decide +kernel), List.mem_of_getElem? (i := 431) (by decide +kernel), List.mem_of_getElem? (i := 432) (by decide +kernel)⟩
theorem lw_p3 : lw_okq (⟨"RamBook$Rights", "readItem", "()V"⟩, 7) := ⟨⟨by decide +kernel, by decide +kernel⟩, List.mem_of_getElem? (i := 111) (by decide +kernel), List.mem_of_getElem? (i := 491) (by decide +kernel), List.mem_of_getElem? (i := 492) (by decide +kernel)⟩
theorem lw_p4 : lw_okq (⟨"RamBook$Rights", "readSign", "(C)V"⟩, 7) := ⟨⟨by decide +kernel, by decide +kernel⟩, List.mem_of_getElem? (i := 111) (by decide +kernel), List.mem_of_getElem? (i := 495) (by decide +kernel), List.mem_of_getElem? (i := 496) (by decide +kernel)⟩
theorem lw_p5 : lw_okq (⟨"RamBook$Rights", "readNumber", "(II)I"⟩, 7) := ⟨⟨by decide +kernel, by decide +kernel⟩, List.mem_of_getElem? (i := 111) (by decide +kernel), List.mem_of_getElem? (i := 499) (by decide +kernel), List.mem_of_getElem? (i := 500) (by decide +kernel)⟩
theorem lw_p6 : lw_okq (⟨"RamBook$Rights", "digitHere", "()I"⟩, 7) := ⟨⟨by decide +kernel, by decide +kernel⟩, List.mem_of_getElem? (i := 111) (by decide +kernel), List.mem_of_getElem? (i := 503) (by decide +kernel), List.mem_of_getElem? (i := 504) (by decide +kernel)⟩
theorem lw_p7 : lw_okq (⟨"RamBook", "runRams", "()V"⟩, 13) := ⟨⟨by decide +kernel, by decide +kernel⟩, List.mem_of_getElem? (i := 14) (by decide +kernel), List.mem_of_getElem? (i := 520) (by decide +kernel), List.mem_of_getElem? (i := 521) (by decide +kernel)⟩
theorem lw_p8 : lw_okq (⟨"RamBook", "goToNextHour", "()V"⟩, 13) := ⟨⟨by decide +kernel, by decide +kernel⟩, List.mem_of_getElem? (i := 14) (by decide +kernel), List.mem_of_getElem? (i := 552) (by decide +kernel), List.mem_of_getElem? (i := 553) (by decide +kernel)⟩
theorem lw_p9 : lw_okq (⟨"RamBook$Readings", "isNearBeats", "(II)Z"⟩, 6) := ⟨⟨by decide +kernel, by decide +kernel⟩, List.mem_of_getElem? (i := 182) (by decide +kernel), List.mem_of_getElem? (i := 596) (by decide +kernel), List.mem_of_getElem? (i := 597) (by decide +kernel)⟩
theorem lw_p10 : lw_okq (⟨"RamBook$Readings", "isNearUp", "(II)Z"⟩, 6) := ⟨⟨by decide +kernel, by decide +kernel⟩, List.mem_of_getElem? (i := 182) (by decide +kernel), List.mem_of_getElem? (i := 603) (by decide +kernel), List.mem_of_getElem? (i := 604) (by decide +kernel)⟩
theorem lw_p11 : lw_okq (⟨"RamBook", "tryAllCauses", "(I)V"⟩, 13) := ⟨⟨by decide +kernel, by decide +kernel⟩, List.mem_of_getElem? (i := 14) (by decide +kernel), List.mem_of_getElem? (i := 611) (by decide +kernel), List.mem_of_getElem? (i := 612) (by decide +kernel)⟩
theorem lw_p12 : lw_okq (⟨"RamBook$Diagnosis", "greatest", "(I)I"⟩, 3) := ⟨⟨by decide +kernel, by decide +kernel⟩, List.mem_of_getElem? (i := 210) (by decide +kernel), List.mem_of_getElem? (i := 628) (by decide +kernel), List.mem_of_getElem? (i := 629) (by decide +kernel)⟩
theorem lw_p13 : lw_okq (⟨"RamBookModel", "isRam", "(I)Z"⟩, 38) := ⟨⟨by decide +kernel, by decide +kernel⟩, List.mem_of_getElem? (i := 649) (by decide +kernel), List.mem_of_getElem? (i := 782) (by decide +kernel), List.mem_of_getElem? (i := 783) (by decide +kernel)⟩
theorem lw_p14 : lw_okq (⟨"RamBookModel", "isValue", "(III)Z"⟩, 38) := ⟨⟨by decide +kernel, by decide +kernel⟩, List.mem_of_getElem? (i := 649) (by decide +kernel), List.mem_of_getElem? (i := 786) (by decide +kernel), List.mem_of_getElem? (i := 787) (by decide +kernel)⟩
theorem lw_p15 : lw_okq (⟨"RamBookModel", "takes", "(I)V"⟩, 38) := ⟨⟨by decide +kernel, by decide +kernel⟩, List.mem_of_getElem? (i := 649) (by decide +kernel), List.mem_of_getElem? (i := 800) (by decide +kernel), List.mem_of_getElem? (i := 801) (by decide +kernel)⟩
def lw_privs_1 : List (MethodName × Nat) := [(⟨"RamBook", "isRam", "(I)Z"⟩, 13), (⟨"RamBook$Ram", "reckon", "()V"⟩, 6), (⟨"RamBook$Tunes", "upOf", "(III)I"⟩, 7), (⟨"RamBook$Rights", "readItem", "()V"⟩, 7), (⟨"RamBook$Rights", "readSign", "(C)V"⟩, 7), (⟨"RamBook$Rights", "readNumber", "(II)I"⟩, 7), (⟨"RamBook$Rights", "digitHere", "()I"⟩, 7), (⟨"RamBook", "runRams", "()V"⟩, 13), (⟨"RamBook", "goToNextHour", "()V"⟩, 13), (⟨"RamBook$Readings", "isNearBeats", "(II)Z"⟩, 6), (⟨"RamBook$Readings", "isNearUp", "(II)Z"⟩, 6), (⟨"RamBook", "tryAllCauses", "(I)V"⟩, 13), (⟨"RamBook$Diagnosis", "greatest", "(I)I"⟩, 3), (⟨"RamBookModel", "isRam", "(I)Z"⟩, 38), (⟨"RamBookModel", "isValue", "(III)Z"⟩, 38), (⟨"RamBookModel", "takes", "(I)V"⟩, 38)]
theorem lw_r1 : ∀ q ∈ lw_privs_1, lw_okq q := List.forall_mem_cons.mpr ⟨lw_p0, List.forall_mem_cons.mpr ⟨lw_p1, List.forall_mem_cons.mpr ⟨lw_p2, List.forall_mem_cons.mpr ⟨lw_p3, List.forall_mem_cons.mpr ⟨lw_p4, List.forall_mem_cons.mpr ⟨lw_p5, List.forall_mem_cons.mpr ⟨lw_p6, List.forall_mem_cons.mpr ⟨lw_p7, List.forall_mem_cons.mpr ⟨lw_p8, List.forall_mem_cons.mpr ⟨lw_p9, List.forall_mem_cons.mpr ⟨lw_p10, List.forall_mem_cons.mpr ⟨lw_p11, List.forall_mem_cons.mpr ⟨lw_p12, List.forall_mem_cons.mpr ⟨lw_p13, List.forall_mem_cons.mpr ⟨lw_p14, List.forall_mem_cons.mpr ⟨lw_p15, fun _ h => absurd h List.not_mem_nil⟩⟩⟩⟩⟩⟩⟩⟩⟩⟩⟩⟩⟩⟩⟩⟩
theorem lw_p16 : lw_okq (⟨"RamBookModel", "workOf", "(I)I"⟩, 38) := ⟨⟨by decide +kernel, by decide +kernel⟩, List.mem_of_getElem? (i := 649) (by decide +kernel), List.mem_of_getElem? (i := 804) (by decide +kernel), List.mem_of_getElem? (i := 805) (by decide +kernel)⟩
theorem lw_p17 : lw_okq (⟨"RamBookModel", "beats", "()Z"⟩, 38) := ⟨⟨by decide +kernel, by decide +kernel⟩, List.mem_of_getElem? (i := 649) (by decide +kernel), List.mem_of_getElem? (i := 812) (by decide +kernel), List.mem_of_getElem? (i := 813) (by decide +kernel)⟩
theorem lw_p18 : lw_okq (⟨"RamBookModel", "hourOf", "(I)I"⟩, 38) := ⟨⟨by decide +kernel, by decide +kernel⟩, List.mem_of_getElem? (i := 649) (by decide +kernel), List.mem_of_getElem? (i := 824) (by decide +kernel), List.mem_of_getElem? (i := 825) (by decide +kernel)⟩
theorem lw_p19 : lw_okq (⟨"RamBookModel", "numbers", "()I"⟩, 38) := ⟨⟨by decide +kernel, by decide +kernel⟩, List.mem_of_getElem? (i := 649) (by decide +kernel), List.mem_of_getElem? (i := 854) (by decide +kernel), List.mem_of_getElem? (i := 855) (by decide +kernel)⟩
theorem lw_p20 : lw_okq (⟨"RamBookModel", "readsItem", "(I)Z"⟩, 38) := ⟨⟨by decide +kernel, by decide +kernel⟩, List.mem_of_getElem? (i := 649) (by decide +kernel), List.mem_of_getElem? (i := 887) (by decide +kernel), List.mem_of_getElem? (i := 888) (by decide +kernel)⟩
theorem lw_p21 : lw_okq (⟨"RamBookModel", "sign", "(I)Z"⟩, 38) := ⟨⟨by decide +kernel, by decide +kernel⟩, List.mem_of_getElem? (i := 649) (by decide +kernel), List.mem_of_getElem? (i := 891) (by decide +kernel), List.mem_of_getElem? (i := 892) (by decide +kernel)⟩
theorem lw_p22 : lw_okq (⟨"RamBookModel", "byteAt", "()I"⟩, 38) := ⟨⟨by decide +kernel, by decide +kernel⟩, List.mem_of_getElem? (i := 649) (by decide +kernel), List.mem_of_getElem? (i := 895) (by decide +kernel), List.mem_of_getElem? (i := 896) (by decide +kernel)⟩
theorem lw_p23 : lw_okq (⟨"RamBookModel", "reads", "(III)Z"⟩, 38) := ⟨⟨by decide +kernel, by decide +kernel⟩, List.mem_of_getElem? (i := 649) (by decide +kernel), List.mem_of_getElem? (i := 899) (by decide +kernel), List.mem_of_getElem? (i := 900) (by decide +kernel)⟩
theorem lw_p24 : lw_okq (⟨"RamBookModel", "rightOf", "(II)I"⟩, 38) := ⟨⟨by decide +kernel, by decide +kernel⟩, List.mem_of_getElem? (i := 649) (by decide +kernel), List.mem_of_getElem? (i := 907) (by decide +kernel), List.mem_of_getElem? (i := 908) (by decide +kernel)⟩
theorem lw_p25 : lw_okq (⟨"RamBookModel", "goes", "()I"⟩, 38) := ⟨⟨by decide +kernel, by decide +kernel⟩, List.mem_of_getElem? (i := 649) (by decide +kernel), List.mem_of_getElem? (i := 915) (by decide +kernel), List.mem_of_getElem? (i := 916) (by decide +kernel)⟩
theorem lw_p26 : lw_okq (⟨"RamBookModel", "isFit", "(II)Z"⟩, 38) := ⟨⟨by decide +kernel, by decide +kernel⟩, List.mem_of_getElem? (i := 649) (by decide +kernel), List.mem_of_getElem? (i := 942) (by decide +kernel), List.mem_of_getElem? (i := 943) (by decide +kernel)⟩
def lw_privs_2 : List (MethodName × Nat) := [(⟨"RamBookModel", "workOf", "(I)I"⟩, 38), (⟨"RamBookModel", "beats", "()Z"⟩, 38), (⟨"RamBookModel", "hourOf", "(I)I"⟩, 38), (⟨"RamBookModel", "numbers", "()I"⟩, 38), (⟨"RamBookModel", "readsItem", "(I)Z"⟩, 38), (⟨"RamBookModel", "sign", "(I)Z"⟩, 38), (⟨"RamBookModel", "byteAt", "()I"⟩, 38), (⟨"RamBookModel", "reads", "(III)Z"⟩, 38), (⟨"RamBookModel", "rightOf", "(II)I"⟩, 38), (⟨"RamBookModel", "goes", "()I"⟩, 38), (⟨"RamBookModel", "isFit", "(II)Z"⟩, 38)]
theorem lw_r2 : ∀ q ∈ lw_privs_2, lw_okq q := List.forall_mem_cons.mpr ⟨lw_p16, List.forall_mem_cons.mpr ⟨lw_p17, List.forall_mem_cons.mpr ⟨lw_p18, List.forall_mem_cons.mpr ⟨lw_p19, List.forall_mem_cons.mpr ⟨lw_p20, List.forall_mem_cons.mpr ⟨lw_p21, List.forall_mem_cons.mpr ⟨lw_p22, List.forall_mem_cons.mpr ⟨lw_p23, List.forall_mem_cons.mpr ⟨lw_p24, List.forall_mem_cons.mpr ⟨lw_p25, List.forall_mem_cons.mpr ⟨lw_p26, fun _ h => absurd h List.not_mem_nil⟩⟩⟩⟩⟩⟩⟩⟩⟩⟩⟩
def lw_privs : List (MethodName × Nat) := lw_privs_1 ++ (lw_privs_2)
def lw_tbl : List Cond := k2_sels lw_privs ++ tables_1
theorem lw_privs_ok : ∀ q ∈ lw_privs, lw_okq q := by
  show ∀ q ∈ lw_privs_1 ++ (lw_privs_2), lw_okq q
  exact List.forall_mem_append.mpr ⟨lw_r1, lw_r2⟩
end
section
/-! ===== BEGIN words of one list among another's, by their places ===== -/
theorem goodIn_r {big : List Cond} (ws : List Cond) (ps : List Nat) (hp : ws = ps.filterMap (fun i => big[i]?)) (h : ws.all goodWord = true) : GoodIn big ws := by
  intro w hw
  have h1 := List.all_eq_true.mp h w hw
  rw [hp] at hw
  obtain ⟨i, -, hi⟩ := List.mem_filterMap.mp hw
  have hm : w ∈ big := by first | exact List.mem_of_getElem? hi | exact List.getElem?_mem hi
  exact ⟨hm, good_of_word h1⟩
theorem goodIn_app {big a b : List Cond} (ha : GoodIn big a) (hb : GoodIn big b) : GoodIn big (a ++ b) := fun w h => (List.mem_append.mp h).elim (ha w) (hb w)
theorem goodIn_ca {big a b : List Cond} {c : Cond} (ha : GoodIn big (c :: a)) (hb : GoodIn big b) : GoodIn big (c :: (a ++ b)) := fun w h => (List.mem_cons.mp h).elim (fun e => ha w (List.mem_cons.mpr (Or.inl e))) (fun h => (List.mem_append.mp h).elim (fun h => ha w (List.mem_cons.mpr (Or.inr h))) (hb w))
theorem goodIn_sub {big ws : List Cond} (hm : ∀ w ∈ ws, w ∈ big) (h : ws.all goodWord = true) : GoodIn big ws := fun w hw => ⟨hm w hw, good_of_word (List.all_eq_true.mp h w hw)⟩
/-! ===== END ===== -/

/-! ===== BEGIN printed: names, fields, word lists, decode rows ===== -/
def RX0 : String := "RamBook$Diagnosis"
def TX0 : u_T := fun k => match k with
  | 0 => ("RamBook$Diagnosis", "tallies", "[I", true)
  | 1 => ("RamBook$Diagnosis", "fitting", "I", false)
  | _ => ("RamBook$Diagnosis", "least", "I", false)
def tyX0 : Nat → FieldType := fun k => match k with
  | 0 => .array .int
  | 1 => .int
  | _ => .int
abbrev wsX00 : List Cond := u_ws RX0 TX0 3
theorem nmX0 : ∀ a, a < 3 → ∀ b, b < 3 → a ≠ b → (TX0 a).2.1 ≠ (TX0 b).2.1 := by decide +kernel
theorem tyX0_ok : ∀ k, k < 3 → parseFieldDescriptor (TX0 k).2.2.1 = some (tyX0 k) := by decide +kernel
abbrev cX0_init : ByteArray := prog_2_method_1_code
def yX0_init : MethodName := ⟨RX0, "<init>", "()V"⟩
abbrev cX0_begin : ByteArray := prog_2_method_2_code
def yX0_begin : MethodName := ⟨RX0, "begin", "()V"⟩
abbrev cX0_admit : ByteArray := prog_2_method_3_code
def yX0_admit : MethodName := ⟨RX0, "admit", "(I)V"⟩
abbrev cX0_onlyValueOf : ByteArray := prog_2_method_4_code
def yX0_onlyValueOf : MethodName := ⟨RX0, "onlyValueOf", "(I)I"⟩
abbrev cX0_nextLook : ByteArray := prog_2_method_5_code
def yX0_nextLook : MethodName := ⟨RX0, "nextLook", "()I"⟩
abbrev cX0_greatest : ByteArray := prog_2_method_6_code
def yX0_greatest : MethodName := ⟨RX0, "greatest", "(I)I"⟩
def RX1 : String := "RamBook$Ram"
def TX1 : u_T := fun k => match k with
  | 0 => ("RamBook$Ram", "traits", "[I", true)
  | 1 => ("RamBook$Ram", "reckoned", "Z", false)
  | 2 => ("RamBook$Ram", "stalling", "Z", false)
  | 3 => ("RamBook$Ram", "tick", "I", false)
  | 4 => ("RamBook$Ram", "speed", "I", false)
  | _ => ("RamBook$Ram", "waste", "I", false)
def tyX1 : Nat → FieldType := fun k => match k with
  | 0 => .array .int
  | 1 => .boolean
  | 2 => .boolean
  | 3 => .int
  | 4 => .int
  | _ => .int
abbrev wsX10 : List Cond := u_ws RX1 TX1 6
theorem nmX1 : ∀ a, a < 6 → ∀ b, b < 6 → a ≠ b → (TX1 a).2.1 ≠ (TX1 b).2.1 := by decide +kernel
theorem tyX1_ok : ∀ k, k < 6 → parseFieldDescriptor (TX1 k).2.2.1 = some (tyX1 k) := by decide +kernel
abbrev cX1_init : ByteArray := prog_3_method_1_code
def yX1_init : MethodName := ⟨RX1, "<init>", "()V"⟩
abbrev cX1_trait : ByteArray := prog_3_method_2_code
def yX1_trait : MethodName := ⟨RX1, "trait", "(I)I"⟩
abbrev cX1_put : ByteArray := prog_3_method_3_code
def yX1_put : MethodName := ⟨RX1, "put", "(II)V"⟩
abbrev cX1_becomeLike : ByteArray := prog_3_method_4_code
def yX1_becomeLike : MethodName := ⟨RX1, "becomeLike", "(LRamBook$Ram;)V"⟩
abbrev cX1_suffer : ByteArray := prog_3_method_5_code
def yX1_suffer : MethodName := ⟨RX1, "suffer", "(I)V"⟩
abbrev cX1_workBy : ByteArray := prog_3_method_6_code
def yX1_workBy : MethodName := ⟨RX1, "workBy", "(I)I"⟩
abbrev cX1_stalls : ByteArray := prog_3_method_7_code
def yX1_stalls : MethodName := ⟨RX1, "stalls", "()Z"⟩
abbrev cX1_shutTick : ByteArray := prog_3_method_8_code
def yX1_shutTick : MethodName := ⟨RX1, "shutTick", "()I"⟩
abbrev cX1_shutSpeed : ByteArray := prog_3_method_9_code
def yX1_shutSpeed : MethodName := ⟨RX1, "shutSpeed", "()I"⟩
abbrev cX1_wasteOfBeat : ByteArray := prog_3_method_10_code
def yX1_wasteOfBeat : MethodName := ⟨RX1, "wasteOfBeat", "()I"⟩
abbrev cX1_upOfBeat : ByteArray := prog_3_method_11_code
def yX1_upOfBeat : MethodName := ⟨RX1, "upOfBeat", "()I"⟩
abbrev cX1_span : ByteArray := prog_3_method_12_code
def yX1_span : MethodName := ⟨RX1, "span", "()I"⟩
abbrev cX1_beatsAnHour : ByteArray := prog_3_method_13_code
def yX1_beatsAnHour : MethodName := ⟨RX1, "beatsAnHour", "()I"⟩
abbrev cX1_wasteAnHour : ByteArray := prog_3_method_14_code
def yX1_wasteAnHour : MethodName := ⟨RX1, "wasteAnHour", "()I"⟩
abbrev cX1_upAnHour : ByteArray := prog_3_method_15_code
def yX1_upAnHour : MethodName := ⟨RX1, "upAnHour", "()I"⟩
abbrev cX1_drawsAnHour : ByteArray := prog_3_method_16_code
def yX1_drawsAnHour : MethodName := ⟨RX1, "drawsAnHour", "()I"⟩
abbrev cX1_loseAir : ByteArray := prog_3_method_17_code
def yX1_loseAir : MethodName := ⟨RX1, "loseAir", "()V"⟩
abbrev cX1_share : ByteArray := prog_3_method_18_code
def yX1_share : MethodName := ⟨RX1, "share", "(JJ)J"⟩
abbrev cX1_reckon : ByteArray := prog_3_method_19_code
def yX1_reckon : MethodName := ⟨RX1, "reckon", "()V"⟩
def RX2 : String := "RamBook$Readings"
def TX2 : u_T := fun k => match k with
  | 0 => ("RamBook$Readings", "ramsRead", "[I", true)
  | 1 => ("RamBook$Readings", "beatsRead", "[I", true)
  | 2 => ("RamBook$Readings", "upsRead", "[I", true)
  | 3 => ("RamBook$Readings", "size", "I", false)
  | 4 => ("RamBook$Readings", "toleranceBeats", "I", false)
  | _ => ("RamBook$Readings", "toleranceUp", "I", false)
def tyX2 : Nat → FieldType := fun k => match k with
  | 0 => .array .int
  | 1 => .array .int
  | 2 => .array .int
  | 3 => .int
  | 4 => .int
  | _ => .int
abbrev wsX20 : List Cond := u_ws RX2 TX2 6
theorem nmX2 : ∀ a, a < 6 → ∀ b, b < 6 → a ≠ b → (TX2 a).2.1 ≠ (TX2 b).2.1 := by decide +kernel
theorem tyX2_ok : ∀ k, k < 6 → parseFieldDescriptor (TX2 k).2.2.1 = some (tyX2 k) := by decide +kernel
abbrev cX2_init : ByteArray := prog_4_method_1_code
def yX2_init : MethodName := ⟨RX2, "<init>", "()V"⟩
abbrev cX2_keep : ByteArray := prog_4_method_2_code
def yX2_keep : MethodName := ⟨RX2, "keep", "(III)I"⟩
abbrev cX2_agreeWith : ByteArray := prog_4_method_3_code
def yX2_agreeWith : MethodName := ⟨RX2, "agreeWith", "(ILRamBook$Ram;)Z"⟩
abbrev cX2_isNearBeats : ByteArray := prog_4_method_4_code
def yX2_isNearBeats : MethodName := ⟨RX2, "isNearBeats", "(II)Z"⟩
abbrev cX2_isNearUp : ByteArray := prog_4_method_5_code
def yX2_isNearUp : MethodName := ⟨RX2, "isNearUp", "(II)Z"⟩
def RX3 : String := "RamBook$Rights"
def TX3 : u_T := fun k => match k with
  | 0 => ("RamBook$Rights", "draft", "[B", true)
  | 1 => ("RamBook$Rights", "draftLength", "I", false)
  | 2 => ("RamBook$Rights", "items", "I", false)
  | 3 => ("RamBook$Rights", "litres", "[I", true)
  | 4 => ("RamBook$Rights", "litresTold", "[I", true)
  | 5 => ("RamBook$Rights", "place", "I", false)
  | _ => ("RamBook$Rights", "faulty", "Z", false)
def tyX3 : Nat → FieldType := fun k => match k with
  | 0 => .array .byte
  | 1 => .int
  | 2 => .int
  | 3 => .array .int
  | 4 => .array .int
  | 5 => .int
  | _ => .boolean
abbrev wsX30 : List Cond := u_ws RX3 TX3 7
theorem nmX3 : ∀ a, a < 7 → ∀ b, b < 7 → a ≠ b → (TX3 a).2.1 ≠ (TX3 b).2.1 := by decide +kernel
theorem tyX3_ok : ∀ k, k < 7 → parseFieldDescriptor (TX3 k).2.2.1 = some (tyX3 k) := by decide +kernel
abbrev cX3_init : ByteArray := prog_5_method_1_code
def yX3_init : MethodName := ⟨RX3, "<init>", "()V"⟩
abbrev cX3_write : ByteArray := prog_5_method_2_code
def yX3_write : MethodName := ⟨RX3, "write", "(JI)I"⟩
abbrev cX3_litresOf : ByteArray := prog_5_method_3_code
def yX3_litresOf : MethodName := ⟨RX3, "litresOf", "(II)I"⟩
abbrev cX3_tellAnew : ByteArray := prog_5_method_4_code
def yX3_tellAnew : MethodName := ⟨RX3, "tellAnew", "()I"⟩
abbrev cX3_readItem : ByteArray := prog_5_method_5_code
def yX3_readItem : MethodName := ⟨RX3, "readItem", "()V"⟩
abbrev cX3_readSign : ByteArray := prog_5_method_6_code
def yX3_readSign : MethodName := ⟨RX3, "readSign", "(C)V"⟩
abbrev cX3_readNumber : ByteArray := prog_5_method_7_code
def yX3_readNumber : MethodName := ⟨RX3, "readNumber", "(II)I"⟩
abbrev cX3_digitHere : ByteArray := prog_5_method_8_code
def yX3_digitHere : MethodName := ⟨RX3, "digitHere", "()I"⟩
def RX4 : String := "RamBook$Seasons"
def TX4 : u_T := fun k => match k with
  | 0 => ("RamBook$Seasons", "springs", "[I", true)
  | 1 => ("RamBook$Seasons", "frosts", "[I", true)
  | 2 => ("RamBook$Seasons", "silentFrom", "I", false)
  | _ => ("RamBook$Seasons", "silentTo", "I", false)
def tyX4 : Nat → FieldType := fun k => match k with
  | 0 => .array .int
  | 1 => .array .int
  | 2 => .int
  | _ => .int
abbrev wsX40 : List Cond := u_ws RX4 TX4 4
theorem nmX4 : ∀ a, a < 4 → ∀ b, b < 4 → a ≠ b → (TX4 a).2.1 ≠ (TX4 b).2.1 := by decide +kernel
theorem tyX4_ok : ∀ k, k < 4 → parseFieldDescriptor (TX4 k).2.2.1 = some (tyX4 k) := by decide +kernel
abbrev cX4_init : ByteArray := prog_6_method_1_code
def yX4_init : MethodName := ⟨RX4, "<init>", "()V"⟩
abbrev cX4_stop : ByteArray := prog_6_method_2_code
def yX4_stop : MethodName := ⟨RX4, "stop", "(LRamBook$Ram;II)Z"⟩
def RX5 : String := "RamBook$Tank"
def TX5 : u_T := fun k => match k with
  | 0 => ("RamBook$Tank", "room", "I", false)
  | 1 => ("RamBook$Tank", "held", "I", false)
  | 2 => ("RamBook$Tank", "lifted", "J", false)
  | 3 => ("RamBook$Tank", "wasted", "J", false)
  | 4 => ("RamBook$Tank", "spilt", "J", false)
  | 5 => ("RamBook$Tank", "taken", "J", false)
  | 6 => ("RamBook$Tank", "lacked", "J", false)
  | _ => ("RamBook$Tank", "lackedBy", "[J", true)
def tyX5 : Nat → FieldType := fun k => match k with
  | 0 => .int
  | 1 => .int
  | 2 => .long
  | 3 => .long
  | 4 => .long
  | 5 => .long
  | 6 => .long
  | _ => .array .long
abbrev wsX50 : List Cond := u_ws RX5 TX5 8
theorem nmX5 : ∀ a, a < 8 → ∀ b, b < 8 → a ≠ b → (TX5 a).2.1 ≠ (TX5 b).2.1 := by decide +kernel
theorem tyX5_ok : ∀ k, k < 8 → parseFieldDescriptor (TX5 k).2.2.1 = some (tyX5 k) := by decide +kernel
abbrev cX5_init : ByteArray := prog_7_method_1_code
def yX5_init : MethodName := ⟨RX5, "<init>", "()V"⟩
abbrev cX5_changeRoom : ByteArray := prog_7_method_2_code
def yX5_changeRoom : MethodName := ⟨RX5, "changeRoom", "(I)I"⟩
abbrev cX5_changeHeld : ByteArray := prog_7_method_3_code
def yX5_changeHeld : MethodName := ⟨RX5, "changeHeld", "(I)I"⟩
abbrev cX5_receive : ByteArray := prog_7_method_4_code
def yX5_receive : MethodName := ⟨RX5, "receive", "(II)V"⟩
abbrev cX5_spillOver : ByteArray := prog_7_method_5_code
def yX5_spillOver : MethodName := ⟨RX5, "spillOver", "()V"⟩
abbrev cX5_serve : ByteArray := prog_7_method_6_code
def yX5_serve : MethodName := ⟨RX5, "serve", "(II)V"⟩
def RX6 : String := "RamBook$Tunes"
def TX6 : u_T := fun k => match k with
  | 0 => ("RamBook$Tunes", "weights", "[I", true)
  | 1 => ("RamBook$Tunes", "strokes", "[I", true)
  | 2 => ("RamBook$Tunes", "size", "I", false)
  | 3 => ("RamBook$Tunes", "draws", "[I", true)
  | 4 => ("RamBook$Tunes", "ups", "[I", true)
  | 5 => ("RamBook$Tunes", "bestNumber", "I", false)
  | _ => ("RamBook$Tunes", "bestUp", "I", false)
def tyX6 : Nat → FieldType := fun k => match k with
  | 0 => .array .int
  | 1 => .array .int
  | 2 => .int
  | 3 => .array .int
  | 4 => .array .int
  | 5 => .int
  | _ => .int
abbrev wsX60 : List Cond := u_ws RX6 TX6 7
theorem nmX6 : ∀ a, a < 7 → ∀ b, b < 7 → a ≠ b → (TX6 a).2.1 ≠ (TX6 b).2.1 := by decide +kernel
theorem tyX6_ok : ∀ k, k < 7 → parseFieldDescriptor (TX6 k).2.2.1 = some (tyX6 k) := by decide +kernel
abbrev cX6_init : ByteArray := prog_8_method_1_code
def yX6_init : MethodName := ⟨RX6, "<init>", "()V"⟩
abbrev cX6_keep : ByteArray := prog_8_method_2_code
def yX6_keep : MethodName := ⟨RX6, "keep", "(II)I"⟩
abbrev cX6_tryOn : ByteArray := prog_8_method_3_code
def yX6_tryOn : MethodName := ⟨RX6, "tryOn", "(ILRamBook$Ram;)V"⟩
abbrev cX6_pick : ByteArray := prog_8_method_4_code
def yX6_pick : MethodName := ⟨RX6, "pick", "(II)V"⟩
abbrev cX6_tellsAll : ByteArray := prog_8_method_5_code
def yX6_tellsAll : MethodName := ⟨RX6, "tellsAll", "(II)Z"⟩
abbrev cX6_giveTo : ByteArray := prog_8_method_6_code
def yX6_giveTo : MethodName := ⟨RX6, "giveTo", "(LRamBook$Ram;I)V"⟩
abbrev cX6_numbers : ByteArray := prog_8_method_7_code
def yX6_numbers : MethodName := ⟨RX6, "numbers", "(I)I"⟩
abbrev cX6_upOf : ByteArray := prog_8_method_8_code
def yX6_upOf : MethodName := ⟨RX6, "upOf", "(III)I"⟩
def RX7 : String := "RamBook"
def TX7 : u_T := fun k => match k with
  | 0 => ("RamBook", "rams", "[LRamBook$Ram;", true)
  | 1 => ("RamBook", "ramCount", "I", false)
  | 2 => ("RamBook", "trial", "LRamBook$Ram;", true)
  | 3 => ("RamBook", "seasons", "LRamBook$Seasons;", true)
  | 4 => ("RamBook", "tunes", "LRamBook$Tunes;", true)
  | 5 => ("RamBook", "farmRights", "LRamBook$Rights;", true)
  | 6 => ("RamBook", "store", "LRamBook$Tank;", true)
  | 7 => ("RamBook", "readings", "LRamBook$Readings;", true)
  | 8 => ("RamBook", "diagnosis", "LRamBook$Diagnosis;", true)
  | 9 => ("RamBook", "nowMonth", "I", false)
  | 10 => ("RamBook", "nowDay", "I", false)
  | 11 => ("RamBook", "nowHour", "I", false)
  | _ => ("RamBook", "traced", "J", false)
def tyX7 : Nat → FieldType := fun k => match k with
  | 0 => .array (.object "RamBook$Ram")
  | 1 => .int
  | 2 => .object "RamBook$Ram"
  | 3 => .object "RamBook$Seasons"
  | 4 => .object "RamBook$Tunes"
  | 5 => .object "RamBook$Rights"
  | 6 => .object "RamBook$Tank"
  | 7 => .object "RamBook$Readings"
  | 8 => .object "RamBook$Diagnosis"
  | 9 => .int
  | 10 => .int
  | 11 => .int
  | _ => .long
abbrev wsX70 : List Cond := u_ws RX7 TX7 13
theorem nmX7 : ∀ a, a < 13 → ∀ b, b < 13 → a ≠ b → (TX7 a).2.1 ≠ (TX7 b).2.1 := by decide +kernel
theorem tyX7_ok : ∀ k, k < 13 → parseFieldDescriptor (TX7 k).2.2.1 = some (tyX7 k) := by decide +kernel
abbrev cX7_init : ByteArray := prog_1_method_1_code
def yX7_init : MethodName := ⟨RX7, "<init>", "()V"⟩
abbrev cX7_ram : ByteArray := prog_1_method_2_code
def yX7_ram : MethodName := ⟨RX7, "ram", "(IIII)I"⟩
abbrev cX7_set : ByteArray := prog_1_method_3_code
def yX7_set : MethodName := ⟨RX7, "set", "(III)I"⟩
abbrev cX7_about : ByteArray := prog_1_method_4_code
def yX7_about : MethodName := ⟨RX7, "about", "(II)I"⟩
abbrev cX7_work : ByteArray := prog_1_method_5_code
def yX7_work : MethodName := ⟨RX7, "work", "(II)I"⟩
abbrev cX7_beat : ByteArray := prog_1_method_6_code
def yX7_beat : MethodName := ⟨RX7, "beat", "(II)I"⟩
abbrev cX7_hourly : ByteArray := prog_1_method_7_code
def yX7_hourly : MethodName := ⟨RX7, "hourly", "(II)I"⟩
abbrev cX7_spring : ByteArray := prog_1_method_8_code
def yX7_spring : MethodName := ⟨RX7, "spring", "(II)I"⟩
abbrev cX7_tuned : ByteArray := prog_1_method_9_code
def yX7_tuned : MethodName := ⟨RX7, "tuned", "(IIII)I"⟩
abbrev cX7_tune : ByteArray := prog_1_method_10_code
def yX7_tune : MethodName := ⟨RX7, "tune", "(II)I"⟩
abbrev cX7_forget : ByteArray := prog_1_method_11_code
def yX7_forget : MethodName := ⟨RX7, "forget", "()I"⟩
abbrev cX7_side : ByteArray := prog_1_method_12_code
def yX7_side : MethodName := ⟨RX7, "side", "(II)I"⟩
abbrev cX7_take : ByteArray := prog_1_method_13_code
def yX7_take : MethodName := ⟨RX7, "take", "(I)I"⟩
abbrev cX7_frost : ByteArray := prog_1_method_14_code
def yX7_frost : MethodName := ⟨RX7, "frost", "(II)I"⟩
abbrev cX7_silence : ByteArray := prog_1_method_15_code
def yX7_silence : MethodName := ⟨RX7, "silence", "(II)I"⟩
abbrev cX7_tank : ByteArray := prog_1_method_16_code
def yX7_tank : MethodName := ⟨RX7, "tank", "(II)I"⟩
abbrev cX7_type : ByteArray := prog_1_method_17_code
def yX7_type : MethodName := ⟨RX7, "type", "(JI)I"⟩
abbrev cX7_clear : ByteArray := prog_1_method_18_code
def yX7_clear : MethodName := ⟨RX7, "clear", "()I"⟩
abbrev cX7_rights : ByteArray := prog_1_method_19_code
def yX7_rights : MethodName := ⟨RX7, "rights", "()I"⟩
abbrev cX7_right : ByteArray := prog_1_method_20_code
def yX7_right : MethodName := ⟨RX7, "right", "(II)I"⟩
abbrev cX7_hours : ByteArray := prog_1_method_21_code
def yX7_hours : MethodName := ⟨RX7, "hours", "(I)I"⟩
abbrev cX7_book : ByteArray := prog_1_method_22_code
def yX7_book : MethodName := ⟨RX7, "book", "(I)J"⟩
abbrev cX7_read : ByteArray := prog_1_method_23_code
def yX7_read : MethodName := ⟨RX7, "read", "(III)I"⟩
abbrev cX7_wipe : ByteArray := prog_1_method_24_code
def yX7_wipe : MethodName := ⟨RX7, "wipe", "()I"⟩
abbrev cX7_tolerance : ByteArray := prog_1_method_25_code
def yX7_tolerance : MethodName := ⟨RX7, "tolerance", "(II)I"⟩
abbrev cX7_fits : ByteArray := prog_1_method_26_code
def yX7_fits : MethodName := ⟨RX7, "fits", "(II)I"⟩
abbrev cX7_ails : ByteArray := prog_1_method_27_code
def yX7_ails : MethodName := ⟨RX7, "ails", "(II)I"⟩
abbrev cX7_sure : ByteArray := prog_1_method_28_code
def yX7_sure : MethodName := ⟨RX7, "sure", "(II)I"⟩
abbrev cX7_count : ByteArray := prog_1_method_29_code
def yX7_count : MethodName := ⟨RX7, "count", "(I)I"⟩
abbrev cX7_trace : ByteArray := prog_1_method_30_code
def yX7_trace : MethodName := ⟨RX7, "trace", "()J"⟩
abbrev cX7_within : ByteArray := prog_1_method_31_code
def yX7_within : MethodName := ⟨RX7, "within", "(III)Z"⟩
abbrev cX7_canBe : ByteArray := prog_1_method_32_code
def yX7_canBe : MethodName := ⟨RX7, "canBe", "(II)Z"⟩
abbrev cX7_isMonth : ByteArray := prog_1_method_33_code
def yX7_isMonth : MethodName := ⟨RX7, "isMonth", "(I)Z"⟩
abbrev cX7_isReadable : ByteArray := prog_1_method_34_code
def yX7_isReadable : MethodName := ⟨RX7, "isReadable", "(I)Z"⟩
abbrev cX7_isRam : ByteArray := prog_1_method_35_code
def yX7_isRam : MethodName := ⟨RX7, "isRam", "(I)Z"⟩
abbrev cX7_advantage : ByteArray := prog_1_method_36_code
def yX7_advantage : MethodName := ⟨RX7, "advantage", "(IIIII)J"⟩
abbrev cX7_runRams : ByteArray := prog_1_method_37_code
def yX7_runRams : MethodName := ⟨RX7, "runRams", "()V"⟩
abbrev cX7_goToNextHour : ByteArray := prog_1_method_38_code
def yX7_goToNextHour : MethodName := ⟨RX7, "goToNextHour", "()V"⟩
abbrev cX7_tryAllCauses : ByteArray := prog_1_method_39_code
def yX7_tryAllCauses : MethodName := ⟨RX7, "tryAllCauses", "(I)V"⟩
def RX8 : String := "RamBookModel"
def TX8 : u_T := fun k => match k with
  | 0 => ("RamBookModel", "thrown", "I", false)
  | 1 => ("RamBookModel", "trace", "J", false)
  | 2 => ("RamBookModel", "rams", "I", false)
  | 3 => ("RamBookModel", "ram", "[I", true)
  | 4 => ("RamBookModel", "now", "[I", true)
  | 5 => ("RamBookModel", "tick", "I", false)
  | 6 => ("RamBookModel", "speed", "J", false)
  | 7 => ("RamBookModel", "waste", "J", false)
  | 8 => ("RamBookModel", "up", "J", false)
  | 9 => ("RamBookModel", "span", "I", false)
  | 10 => ("RamBookModel", "spring", "[I", true)
  | 11 => ("RamBookModel", "frost", "[I", true)
  | 12 => ("RamBookModel", "silentFrom", "I", false)
  | 13 => ("RamBookModel", "silentTo", "I", false)
  | 14 => ("RamBookModel", "tunes", "I", false)
  | 15 => ("RamBookModel", "tuneWeight", "[I", true)
  | 16 => ("RamBookModel", "tuneStroke", "[I", true)
  | 17 => ("RamBookModel", "room", "I", false)
  | 18 => ("RamBookModel", "holds", "I", false)
  | 19 => ("RamBookModel", "draft", "[I", true)
  | 20 => ("RamBookModel", "typed", "I", false)
  | 21 => ("RamBookModel", "items", "I", false)
  | 22 => ("RamBookModel", "item", "[I", true)
  | 23 => ("RamBookModel", "found", "[I", true)
  | 24 => ("RamBookModel", "at", "I", false)
  | 25 => ("RamBookModel", "number", "I", false)
  | 26 => ("RamBookModel", "fault", "I", false)
  | 27 => ("RamBookModel", "month", "I", false)
  | 28 => ("RamBookModel", "day", "I", false)
  | 29 => ("RamBookModel", "hour", "I", false)
  | 30 => ("RamBookModel", "book", "[J", true)
  | 31 => ("RamBookModel", "readings", "I", false)
  | 32 => ("RamBookModel", "readRam", "[I", true)
  | 33 => ("RamBookModel", "readBeats", "[I", true)
  | 34 => ("RamBookModel", "readUp", "[I", true)
  | 35 => ("RamBookModel", "toleranceBeats", "I", false)
  | 36 => ("RamBookModel", "toleranceUp", "I", false)
  | _ => ("RamBookModel", "values", "[I", true)
def tyX8 : Nat → FieldType := fun k => match k with
  | 0 => .int
  | 1 => .long
  | 2 => .int
  | 3 => .array .int
  | 4 => .array .int
  | 5 => .int
  | 6 => .long
  | 7 => .long
  | 8 => .long
  | 9 => .int
  | 10 => .array .int
  | 11 => .array .int
  | 12 => .int
  | 13 => .int
  | 14 => .int
  | 15 => .array .int
  | 16 => .array .int
  | 17 => .int
  | 18 => .int
  | 19 => .array .int
  | 20 => .int
  | 21 => .int
  | 22 => .array .int
  | 23 => .array .int
  | 24 => .int
  | 25 => .int
  | 26 => .int
  | 27 => .int
  | 28 => .int
  | 29 => .int
  | 30 => .array .long
  | 31 => .int
  | 32 => .array .int
  | 33 => .array .int
  | 34 => .array .int
  | 35 => .int
  | 36 => .int
  | _ => .array .int
abbrev wsX80 : List Cond := u_ws RX8 TX8 38
theorem nmX8 : ∀ a, a < 38 → ∀ b, b < 38 → a ≠ b → (TX8 a).2.1 ≠ (TX8 b).2.1 := by decide +kernel
theorem tyX8_ok : ∀ k, k < 38 → parseFieldDescriptor (TX8 k).2.2.1 = some (tyX8 k) := by decide +kernel
abbrev cX8_init : ByteArray := prog_10_method_1_code
def yX8_init : MethodName := ⟨RX8, "<init>", "()V"⟩
abbrev cX8_in : ByteArray := prog_10_method_3_code
def yX8_in : MethodName := ⟨RX8, "in", "(III)Z"⟩
abbrev cX8_isRam : ByteArray := prog_10_method_4_code
def yX8_isRam : MethodName := ⟨RX8, "isRam", "(I)Z"⟩
abbrev cX8_ram : ByteArray := prog_10_method_5_code
def yX8_ram : MethodName := ⟨RX8, "ram", "(IIII)I"⟩
abbrev cX8_isValue : ByteArray := prog_10_method_6_code
def yX8_isValue : MethodName := ⟨RX8, "isValue", "(III)Z"⟩
abbrev cX8_set : ByteArray := prog_10_method_7_code
def yX8_set : MethodName := ⟨RX8, "set", "(III)I"⟩
abbrev cX8_about : ByteArray := prog_10_method_8_code
def yX8_about : MethodName := ⟨RX8, "about", "(II)I"⟩
abbrev cX8_takes : ByteArray := prog_10_method_9_code
def yX8_takes : MethodName := ⟨RX8, "takes", "(I)V"⟩
abbrev cX8_workOf : ByteArray := prog_10_method_10_code
def yX8_workOf : MethodName := ⟨RX8, "workOf", "(I)I"⟩
abbrev cX8_work : ByteArray := prog_10_method_11_code
def yX8_work : MethodName := ⟨RX8, "work", "(II)I"⟩
abbrev cX8_beats : ByteArray := prog_10_method_12_code
def yX8_beats : MethodName := ⟨RX8, "beats", "()Z"⟩
abbrev cX8_beat : ByteArray := prog_10_method_13_code
def yX8_beat : MethodName := ⟨RX8, "beat", "(II)I"⟩
abbrev cX8_hourOf : ByteArray := prog_10_method_14_code
def yX8_hourOf : MethodName := ⟨RX8, "hourOf", "(I)I"⟩
abbrev cX8_hourly : ByteArray := prog_10_method_15_code
def yX8_hourly : MethodName := ⟨RX8, "hourly", "(II)I"⟩
abbrev cX8_isMonth : ByteArray := prog_10_method_16_code
def yX8_isMonth : MethodName := ⟨RX8, "isMonth", "(I)Z"⟩
abbrev cX8_spring : ByteArray := prog_10_method_17_code
def yX8_spring : MethodName := ⟨RX8, "spring", "(II)I"⟩
abbrev cX8_tuned : ByteArray := prog_10_method_18_code
def yX8_tuned : MethodName := ⟨RX8, "tuned", "(IIII)I"⟩
abbrev cX8_tune : ByteArray := prog_10_method_19_code
def yX8_tune : MethodName := ⟨RX8, "tune", "(II)I"⟩
abbrev cX8_forget : ByteArray := prog_10_method_20_code
def yX8_forget : MethodName := ⟨RX8, "forget", "()I"⟩
abbrev cX8_numbers : ByteArray := prog_10_method_21_code
def yX8_numbers : MethodName := ⟨RX8, "numbers", "()I"⟩
abbrev cX8_side : ByteArray := prog_10_method_22_code
def yX8_side : MethodName := ⟨RX8, "side", "(II)I"⟩
abbrev cX8_take : ByteArray := prog_10_method_23_code
def yX8_take : MethodName := ⟨RX8, "take", "(I)I"⟩
abbrev cX8_frost : ByteArray := prog_10_method_24_code
def yX8_frost : MethodName := ⟨RX8, "frost", "(II)I"⟩
abbrev cX8_silence : ByteArray := prog_10_method_25_code
def yX8_silence : MethodName := ⟨RX8, "silence", "(II)I"⟩
abbrev cX8_tank : ByteArray := prog_10_method_26_code
def yX8_tank : MethodName := ⟨RX8, "tank", "(II)I"⟩
abbrev cX8_type : ByteArray := prog_10_method_27_code
def yX8_type : MethodName := ⟨RX8, "type", "(JI)I"⟩
abbrev cX8_clear : ByteArray := prog_10_method_28_code
def yX8_clear : MethodName := ⟨RX8, "clear", "()I"⟩
abbrev cX8_byteAt : ByteArray := prog_10_method_29_code
def yX8_byteAt : MethodName := ⟨RX8, "byteAt", "()I"⟩
abbrev cX8_sign : ByteArray := prog_10_method_30_code
def yX8_sign : MethodName := ⟨RX8, "sign", "(I)Z"⟩
abbrev cX8_reads : ByteArray := prog_10_method_31_code
def yX8_reads : MethodName := ⟨RX8, "reads", "(III)Z"⟩
abbrev cX8_readsItem : ByteArray := prog_10_method_32_code
def yX8_readsItem : MethodName := ⟨RX8, "readsItem", "(I)Z"⟩
abbrev cX8_rights : ByteArray := prog_10_method_33_code
def yX8_rights : MethodName := ⟨RX8, "rights", "()I"⟩
abbrev cX8_rightOf : ByteArray := prog_10_method_34_code
def yX8_rightOf : MethodName := ⟨RX8, "rightOf", "(II)I"⟩
abbrev cX8_right : ByteArray := prog_10_method_35_code
def yX8_right : MethodName := ⟨RX8, "right", "(II)I"⟩
abbrev cX8_goes : ByteArray := prog_10_method_36_code
def yX8_goes : MethodName := ⟨RX8, "goes", "()I"⟩
abbrev cX8_hours : ByteArray := prog_10_method_37_code
def yX8_hours : MethodName := ⟨RX8, "hours", "(I)I"⟩
abbrev cX8_book : ByteArray := prog_10_method_38_code
def yX8_book : MethodName := ⟨RX8, "book", "(I)J"⟩
abbrev cX8_isRead : ByteArray := prog_10_method_39_code
def yX8_isRead : MethodName := ⟨RX8, "isRead", "(I)Z"⟩
abbrev cX8_read : ByteArray := prog_10_method_40_code
def yX8_read : MethodName := ⟨RX8, "read", "(III)I"⟩
abbrev cX8_wipe : ByteArray := prog_10_method_41_code
def yX8_wipe : MethodName := ⟨RX8, "wipe", "()I"⟩
abbrev cX8_tolerance : ByteArray := prog_10_method_42_code
def yX8_tolerance : MethodName := ⟨RX8, "tolerance", "(II)I"⟩
abbrev cX8_valueOf : ByteArray := prog_10_method_43_code
def yX8_valueOf : MethodName := ⟨RX8, "valueOf", "(II)I"⟩
abbrev cX8_isFit : ByteArray := prog_10_method_44_code
def yX8_isFit : MethodName := ⟨RX8, "isFit", "(II)Z"⟩
abbrev cX8_fits : ByteArray := prog_10_method_45_code
def yX8_fits : MethodName := ⟨RX8, "fits", "(II)I"⟩
abbrev cX8_ails : ByteArray := prog_10_method_46_code
def yX8_ails : MethodName := ⟨RX8, "ails", "(II)I"⟩
abbrev cX8_sure : ByteArray := prog_10_method_47_code
def yX8_sure : MethodName := ⟨RX8, "sure", "(II)I"⟩
abbrev cX8_count : ByteArray := prog_10_method_48_code
def yX8_count : MethodName := ⟨RX8, "count", "(I)I"⟩
abbrev cX8_trace : ByteArray := prog_10_method_49_code
def yX8_trace : MethodName := ⟨RX8, "trace", "()J"⟩
def RJ9 : String := "java/lang/Math"
def TJ9 : u_T := fun k => match k with
  | _ => ("", "", "", false)
def tyJ9 : Nat → FieldType := fun k => match k with
  | _ => .int
abbrev wsJ90 : List Cond := u_ws RJ9 TJ9 0
theorem nmJ9 : ∀ a, a < 0 → ∀ b, b < 0 → a ≠ b → (TJ9 a).2.1 ≠ (TJ9 b).2.1 := by decide +kernel
theorem tyJ9_ok : ∀ k, k < 0 → parseFieldDescriptor (TJ9 k).2.2.1 = some (tyJ9 k) := by decide +kernel
abbrev cJ9_abs_0f7a4 : ByteArray := prog_11_method_59_code
def yJ9_abs_0f7a4 : MethodName := ⟨RJ9, "abs", "(I)I"⟩
abbrev cJ9_max_7cf53 : ByteArray := prog_11_method_65_code
def yJ9_max_7cf53 : MethodName := ⟨RJ9, "max", "(II)I"⟩
abbrev cJ9_min_7cf53 : ByteArray := prog_11_method_69_code
def yJ9_min_7cf53 : MethodName := ⟨RJ9, "min", "(II)I"⟩
def RJ10 : String := "java/lang/System"
def TJ10 : u_T := fun k => match k with
  | _ => ("", "", "", false)
def tyJ10 : Nat → FieldType := fun k => match k with
  | _ => .int
abbrev wsJ100 : List Cond := u_ws RJ10 TJ10 0
theorem nmJ10 : ∀ a, a < 0 → ∀ b, b < 0 → a ≠ b → (TJ10 a).2.1 ≠ (TJ10 b).2.1 := by decide +kernel
theorem tyJ10_ok : ∀ k, k < 0 → parseFieldDescriptor (TJ10 k).2.2.1 = some (tyJ10 k) := by decide +kernel
def RJ7 : String := "java/util/Arrays"
def TJ7 : u_T := fun k => match k with
  | _ => ("", "", "", false)
def tyJ7 : Nat → FieldType := fun k => match k with
  | _ => .int
abbrev wsJ70 : List Cond := u_ws RJ7 TJ7 0
theorem nmJ7 : ∀ a, a < 0 → ∀ b, b < 0 → a ≠ b → (TJ7 a).2.1 ≠ (TJ7 b).2.1 := by decide +kernel
theorem tyJ7_ok : ∀ k, k < 0 → parseFieldDescriptor (TJ7 k).2.2.1 = some (tyJ7 k) := by decide +kernel
abbrev cJ7_fill_53178 : ByteArray := prog_13_method_103_code
def yJ7_fill_53178 : MethodName := ⟨RJ7, "fill", "([II)V"⟩
def RL : String := "RamBookLaw"
abbrev cL_law : ByteArray := code
def yL_law : MethodName := ⟨RL, "law", "([I)Z"⟩
def wsX0_init : List Cond := .code yX0_init cX0_init 1 none :: ([.methodLink RX0 3 objectInit, .instanceMethod objectInit, .code objectInit ⟨#[0xb1]⟩ 1 none, .arrayClass .int, .fieldLink RX0 11 "RamBook$Diagnosis" "tallies" "[I", .fieldLink RX0 15 "RamBook$Diagnosis" "fitting" "I", .fieldLink RX0 19 "RamBook$Diagnosis" "least" "I"] ++ wsX00)
def wsJ7_fill_53178 : List Cond := .code yJ7_fill_53178 cJ7_fill_53178 4 none :: ([])
def wsX0_begin : List Cond := .code yX0_begin cX0_begin 1 none :: ([.fieldLink RX0 11 "RamBook$Diagnosis" "tallies" "[I", .fieldLink RX0 15 "RamBook$Diagnosis" "fitting" "I", .fieldLink RX0 19 "RamBook$Diagnosis" "least" "I", .methodLink RX0 22 yJ7_fill_53178, .static yJ7_fill_53178, .initialized RJ7, .code yJ7_fill_53178 cJ7_fill_53178 4 none] ++ wsX00)
def wsX0_admit : List Cond := .code yX0_admit cX0_admit 3 none :: ([.fieldLink RX0 15 "RamBook$Diagnosis" "fitting" "I", .fieldLink RX0 19 "RamBook$Diagnosis" "least" "I", .fieldLink RX0 11 "RamBook$Diagnosis" "tallies" "[I"] ++ wsX00)
def wsX0_onlyValueOf : List Cond := .code yX0_onlyValueOf cX0_onlyValueOf 3 (some .int) :: ([.fieldLink RX0 15 "RamBook$Diagnosis" "fitting" "I", .fieldLink RX0 11 "RamBook$Diagnosis" "tallies" "[I"] ++ wsX00)
def wsX0_greatest : List Cond := .code yX0_greatest cX0_greatest 4 (some .int) :: ([.fieldLink RX0 11 "RamBook$Diagnosis" "tallies" "[I", .methodLink RX0 32 Lib.Math.max.name, .static Lib.Math.max.name, .initialized "java/lang/Math", .code Lib.Math.max.name Lib.Math.max.code 2 (some .int)] ++ wsX00)
def wsX0_nextLook : List Cond := .code yX0_nextLook cX0_nextLook 3 (some .int) :: ([.fieldLink RX0 15 "RamBook$Diagnosis" "fitting" "I", .methodLink RX0 28 yX0_greatest, .instanceMethod yX0_greatest, .selects RX0 yX0_greatest yX0_greatest, .initialized RX0, .code yX0_greatest cX0_greatest 4 (some .int), .fieldLink RX0 11 "RamBook$Diagnosis" "tallies" "[I", .methodLink RX0 32 Lib.Math.max.name, .static Lib.Math.max.name, .initialized "java/lang/Math", .code Lib.Math.max.name Lib.Math.max.code 2 (some .int)] ++ wsX00)
def wsX1_init : List Cond := .code yX1_init cX1_init 1 none :: ([.methodLink RX1 3 objectInit, .instanceMethod objectInit, .code objectInit ⟨#[0xb1]⟩ 1 none, .arrayClass .int, .fieldLink RX1 9 "RamBook$Ram" "traits" "[I", .fieldLink RX1 15 "RamBook$Ram" "reckoned" "Z", .fieldLink RX1 19 "RamBook$Ram" "stalling" "Z", .fieldLink RX1 22 "RamBook$Ram" "tick" "I", .fieldLink RX1 26 "RamBook$Ram" "speed" "I", .fieldLink RX1 29 "RamBook$Ram" "waste" "I", .methodLink RX1 35 arraycopyName, .native arraycopyName, .static arraycopyName, .initialized "java/lang/System"] ++ wsX10)
def wsX7_within : List Cond := .code yX7_within cX7_within 3 (some .boolean) :: ([])
def wsX1_trait : List Cond := .code yX1_trait cX1_trait 2 (some .int) :: ([.fieldLink RX1 9 "RamBook$Ram" "traits" "[I", .static yX7_within, .initialized RX7, .code yX7_within cX7_within 3 (some .boolean)] ++ wsX10)
def wsX1_put : List Cond := .code yX1_put cX1_put 3 none :: ([.fieldLink RX1 9 "RamBook$Ram" "traits" "[I", .fieldLink RX1 15 "RamBook$Ram" "reckoned" "Z", .static yX7_within, .initialized RX7, .code yX7_within cX7_within 3 (some .boolean)] ++ wsX10)
def wsX1_becomeLike : List Cond := .code yX1_becomeLike cX1_becomeLike 2 none :: ([.fieldLink RX1 9 "RamBook$Ram" "traits" "[I", .methodLink RX1 35 arraycopyName, .native arraycopyName, .static arraycopyName, .initialized "java/lang/System", .fieldLink RX1 15 "RamBook$Ram" "reckoned" "Z"] ++ wsX10)
def wsX1_suffer : List Cond := .code yX1_suffer cX1_suffer 2 none :: ([.methodLink RX1 45 yX1_put, .instanceMethod yX1_put, .selects RX1 yX1_put yX1_put, .initialized RX1, .code yX1_put cX1_put 3 none, .fieldLink RX1 9 "RamBook$Ram" "traits" "[I", .fieldLink RX1 15 "RamBook$Ram" "reckoned" "Z", .static yX7_within, .initialized RX7, .code yX7_within cX7_within 3 (some .boolean)] ++ wsX10)
def wsX1_workBy : List Cond := .code yX1_workBy cX1_workBy 3 (some .int) :: ([.fieldLink RX1 9 "RamBook$Ram" "traits" "[I", .methodLink RX1 52 Lib.Math.min.name, .static Lib.Math.min.name, .initialized "java/lang/Math", .code Lib.Math.min.name Lib.Math.min.code 2 (some .int)] ++ wsX10)
def wsX1_share : List Cond := .code yX1_share cX1_share 4 (some .long) :: ([])
def wsX1_reckon : List Cond := .code yX1_reckon cX1_reckon 7 none :: ([.fieldLink RX1 15 "RamBook$Ram" "reckoned" "Z", .fieldLink RX1 19 "RamBook$Ram" "stalling" "Z", .fieldLink RX1 26 "RamBook$Ram" "speed" "I", .fieldLink RX1 29 "RamBook$Ram" "waste" "I", .fieldLink RX1 9 "RamBook$Ram" "traits" "[I", .fieldLink RX1 22 "RamBook$Ram" "tick" "I", .methodLink RX1 67 yX1_share, .static yX1_share, .initialized RX1, .code yX1_share cX1_share 4 (some .long)] ++ wsX10)
def wsX1_stalls : List Cond := .code yX1_stalls cX1_stalls 1 (some .boolean) :: ([.fieldLink RX1 19 "RamBook$Ram" "stalling" "Z", .methodLink RX1 58 yX1_reckon, .instanceMethod yX1_reckon, .selects RX1 yX1_reckon yX1_reckon, .initialized RX1, .code yX1_reckon cX1_reckon 7 none, .fieldLink RX1 15 "RamBook$Ram" "reckoned" "Z", .fieldLink RX1 26 "RamBook$Ram" "speed" "I", .fieldLink RX1 29 "RamBook$Ram" "waste" "I", .fieldLink RX1 9 "RamBook$Ram" "traits" "[I", .fieldLink RX1 22 "RamBook$Ram" "tick" "I", .methodLink RX1 67 yX1_share, .static yX1_share, .code yX1_share cX1_share 4 (some .long)] ++ wsX10)
def wsX1_shutTick : List Cond := .code yX1_shutTick cX1_shutTick 1 (some .int) :: ([.fieldLink RX1 22 "RamBook$Ram" "tick" "I", .methodLink RX1 58 yX1_reckon, .instanceMethod yX1_reckon, .selects RX1 yX1_reckon yX1_reckon, .initialized RX1, .code yX1_reckon cX1_reckon 7 none, .fieldLink RX1 15 "RamBook$Ram" "reckoned" "Z", .fieldLink RX1 19 "RamBook$Ram" "stalling" "Z", .fieldLink RX1 26 "RamBook$Ram" "speed" "I", .fieldLink RX1 29 "RamBook$Ram" "waste" "I", .fieldLink RX1 9 "RamBook$Ram" "traits" "[I", .methodLink RX1 67 yX1_share, .static yX1_share, .code yX1_share cX1_share 4 (some .long)] ++ wsX10)
def wsX1_shutSpeed : List Cond := .code yX1_shutSpeed cX1_shutSpeed 1 (some .int) :: ([.fieldLink RX1 26 "RamBook$Ram" "speed" "I", .methodLink RX1 58 yX1_reckon, .instanceMethod yX1_reckon, .selects RX1 yX1_reckon yX1_reckon, .initialized RX1, .code yX1_reckon cX1_reckon 7 none, .fieldLink RX1 15 "RamBook$Ram" "reckoned" "Z", .fieldLink RX1 19 "RamBook$Ram" "stalling" "Z", .fieldLink RX1 29 "RamBook$Ram" "waste" "I", .fieldLink RX1 9 "RamBook$Ram" "traits" "[I", .fieldLink RX1 22 "RamBook$Ram" "tick" "I", .methodLink RX1 67 yX1_share, .static yX1_share, .code yX1_share cX1_share 4 (some .long)] ++ wsX10)
def wsX1_wasteOfBeat : List Cond := .code yX1_wasteOfBeat cX1_wasteOfBeat 1 (some .int) :: ([.fieldLink RX1 29 "RamBook$Ram" "waste" "I", .methodLink RX1 58 yX1_reckon, .instanceMethod yX1_reckon, .selects RX1 yX1_reckon yX1_reckon, .initialized RX1, .code yX1_reckon cX1_reckon 7 none, .fieldLink RX1 15 "RamBook$Ram" "reckoned" "Z", .fieldLink RX1 19 "RamBook$Ram" "stalling" "Z", .fieldLink RX1 26 "RamBook$Ram" "speed" "I", .fieldLink RX1 9 "RamBook$Ram" "traits" "[I", .fieldLink RX1 22 "RamBook$Ram" "tick" "I", .methodLink RX1 67 yX1_share, .static yX1_share, .code yX1_share cX1_share 4 (some .long)] ++ wsX10)
def wsX1_upOfBeat_r1 : List Cond := [Cond.fieldLink RX1 19 "RamBook$Ram" "stalling" "Z", Cond.fieldLink RX1 26 "RamBook$Ram" "speed" "I", Cond.fieldLink RX1 9 "RamBook$Ram" "traits" "[I", Cond.fieldLink RX1 29 "RamBook$Ram" "waste" "I", Cond.constantLong RX1 65 (100), Cond.constantLong RX1 71 (19), Cond.constantLong RX1 73 (20), Cond.methodLink RX1 58 yX1_reckon, Cond.instanceMethod yX1_reckon, Cond.selects RX1 yX1_reckon yX1_reckon, Cond.initialized RX1, Cond.code yX1_reckon cX1_reckon 7 none, Cond.fieldLink RX1 15 "RamBook$Ram" "reckoned" "Z", Cond.fieldLink RX1 22 "RamBook$Ram" "tick" "I", Cond.methodLink RX1 67 yX1_share, Cond.static yX1_share, Cond.code yX1_share cX1_share 4 (some .long), Cond.methodLink RX1 61 yX1_workBy, Cond.instanceMethod yX1_workBy, Cond.selects RX1 yX1_workBy yX1_workBy, Cond.code yX1_workBy cX1_workBy 3 (some .int), Cond.methodLink RX1 52 Lib.Math.min.name, Cond.static Lib.Math.min.name, Cond.initialized "java/lang/Math"]
def wsX1_upOfBeat_r2 : List Cond := [Cond.code Lib.Math.min.name Lib.Math.min.code 2 (some .int)]
def wsX1_upOfBeat : List Cond := .code yX1_upOfBeat cX1_upOfBeat 5 (some .int) :: ((wsX1_upOfBeat_r1 ++ wsX1_upOfBeat_r2) ++ wsX10)
def wsX1_span : List Cond := .code yX1_span cX1_span 1 (some .int) :: ([.fieldLink RX1 22 "RamBook$Ram" "tick" "I", .fieldLink RX1 9 "RamBook$Ram" "traits" "[I", .methodLink RX1 58 yX1_reckon, .instanceMethod yX1_reckon, .selects RX1 yX1_reckon yX1_reckon, .initialized RX1, .code yX1_reckon cX1_reckon 7 none, .fieldLink RX1 15 "RamBook$Ram" "reckoned" "Z", .fieldLink RX1 19 "RamBook$Ram" "stalling" "Z", .fieldLink RX1 26 "RamBook$Ram" "speed" "I", .fieldLink RX1 29 "RamBook$Ram" "waste" "I", .methodLink RX1 67 yX1_share, .static yX1_share, .code yX1_share cX1_share 4 (some .long)] ++ wsX10)
def wsX1_beatsAnHour : List Cond := .code yX1_beatsAnHour cX1_beatsAnHour 1 (some .int) :: ([.constantLong RX1 79 (3600), .methodLink RX1 75 yX1_stalls, .instanceMethod yX1_stalls, .selects RX1 yX1_stalls yX1_stalls, .initialized RX1, .code yX1_stalls cX1_stalls 1 (some .boolean), .fieldLink RX1 19 "RamBook$Ram" "stalling" "Z", .methodLink RX1 58 yX1_reckon, .instanceMethod yX1_reckon, .selects RX1 yX1_reckon yX1_reckon, .code yX1_reckon cX1_reckon 7 none, .fieldLink RX1 15 "RamBook$Ram" "reckoned" "Z", .fieldLink RX1 26 "RamBook$Ram" "speed" "I", .fieldLink RX1 29 "RamBook$Ram" "waste" "I", .fieldLink RX1 9 "RamBook$Ram" "traits" "[I", .fieldLink RX1 22 "RamBook$Ram" "tick" "I", .methodLink RX1 67 yX1_share, .static yX1_share, .code yX1_share cX1_share 4 (some .long), .methodLink RX1 81 yX1_span, .instanceMethod yX1_span, .selects RX1 yX1_span yX1_span, .code yX1_span cX1_span 1 (some .int)] ++ wsX10)
def wsX1_wasteAnHour_r1 : List Cond := [Cond.fieldLink RX1 9 "RamBook$Ram" "traits" "[I", Cond.fieldLink RX1 29 "RamBook$Ram" "waste" "I", Cond.methodLink RX1 75 yX1_stalls, Cond.instanceMethod yX1_stalls, Cond.selects RX1 yX1_stalls yX1_stalls, Cond.initialized RX1, Cond.code yX1_stalls cX1_stalls 1 (some .boolean), Cond.fieldLink RX1 19 "RamBook$Ram" "stalling" "Z", Cond.methodLink RX1 58 yX1_reckon, Cond.instanceMethod yX1_reckon, Cond.selects RX1 yX1_reckon yX1_reckon, Cond.code yX1_reckon cX1_reckon 7 none, Cond.fieldLink RX1 15 "RamBook$Ram" "reckoned" "Z", Cond.fieldLink RX1 26 "RamBook$Ram" "speed" "I", Cond.fieldLink RX1 22 "RamBook$Ram" "tick" "I", Cond.methodLink RX1 67 yX1_share, Cond.static yX1_share, Cond.code yX1_share cX1_share 4 (some .long), Cond.methodLink RX1 85 yX1_beatsAnHour, Cond.instanceMethod yX1_beatsAnHour, Cond.selects RX1 yX1_beatsAnHour yX1_beatsAnHour, Cond.code yX1_beatsAnHour cX1_beatsAnHour 1 (some .int), Cond.constantLong RX1 79 (3600), Cond.methodLink RX1 81 yX1_span]
def wsX1_wasteAnHour_r2 : List Cond := [Cond.instanceMethod yX1_span, Cond.selects RX1 yX1_span yX1_span, Cond.code yX1_span cX1_span 1 (some .int)]
def wsX1_wasteAnHour : List Cond := .code yX1_wasteAnHour cX1_wasteAnHour 1 (some .int) :: ((wsX1_wasteAnHour_r1 ++ wsX1_wasteAnHour_r2) ++ wsX10)
def wsX1_upAnHour_r1 : List Cond := [Cond.methodLink RX1 85 yX1_beatsAnHour, Cond.instanceMethod yX1_beatsAnHour, Cond.selects RX1 yX1_beatsAnHour yX1_beatsAnHour, Cond.initialized RX1, Cond.code yX1_beatsAnHour cX1_beatsAnHour 1 (some .int), Cond.constantLong RX1 79 (3600), Cond.methodLink RX1 75 yX1_stalls, Cond.instanceMethod yX1_stalls, Cond.selects RX1 yX1_stalls yX1_stalls, Cond.code yX1_stalls cX1_stalls 1 (some .boolean), Cond.fieldLink RX1 19 "RamBook$Ram" "stalling" "Z", Cond.methodLink RX1 58 yX1_reckon, Cond.instanceMethod yX1_reckon, Cond.selects RX1 yX1_reckon yX1_reckon, Cond.code yX1_reckon cX1_reckon 7 none, Cond.fieldLink RX1 15 "RamBook$Ram" "reckoned" "Z", Cond.fieldLink RX1 26 "RamBook$Ram" "speed" "I", Cond.fieldLink RX1 29 "RamBook$Ram" "waste" "I", Cond.fieldLink RX1 9 "RamBook$Ram" "traits" "[I", Cond.fieldLink RX1 22 "RamBook$Ram" "tick" "I", Cond.methodLink RX1 67 yX1_share, Cond.static yX1_share, Cond.code yX1_share cX1_share 4 (some .long), Cond.methodLink RX1 81 yX1_span]
def wsX1_upAnHour_r2 : List Cond := [Cond.instanceMethod yX1_span, Cond.selects RX1 yX1_span yX1_span, Cond.code yX1_span cX1_span 1 (some .int), Cond.methodLink RX1 88 yX1_upOfBeat, Cond.instanceMethod yX1_upOfBeat, Cond.selects RX1 yX1_upOfBeat yX1_upOfBeat, Cond.code yX1_upOfBeat cX1_upOfBeat 5 (some .int), Cond.constantLong RX1 65 (100), Cond.constantLong RX1 71 (19), Cond.constantLong RX1 73 (20), Cond.methodLink RX1 61 yX1_workBy, Cond.instanceMethod yX1_workBy, Cond.selects RX1 yX1_workBy yX1_workBy, Cond.code yX1_workBy cX1_workBy 3 (some .int), Cond.methodLink RX1 52 Lib.Math.min.name, Cond.static Lib.Math.min.name, Cond.initialized "java/lang/Math", Cond.code Lib.Math.min.name Lib.Math.min.code 2 (some .int)]
def wsX1_upAnHour : List Cond := .code yX1_upAnHour cX1_upAnHour 1 (some .int) :: ((wsX1_upAnHour_r1 ++ wsX1_upAnHour_r2) ++ wsX10)
def wsX1_drawsAnHour_r1 : List Cond := [Cond.methodLink RX1 91 yX1_wasteAnHour, Cond.instanceMethod yX1_wasteAnHour, Cond.selects RX1 yX1_wasteAnHour yX1_wasteAnHour, Cond.initialized RX1, Cond.code yX1_wasteAnHour cX1_wasteAnHour 1 (some .int), Cond.fieldLink RX1 9 "RamBook$Ram" "traits" "[I", Cond.fieldLink RX1 29 "RamBook$Ram" "waste" "I", Cond.methodLink RX1 75 yX1_stalls, Cond.instanceMethod yX1_stalls, Cond.selects RX1 yX1_stalls yX1_stalls, Cond.code yX1_stalls cX1_stalls 1 (some .boolean), Cond.fieldLink RX1 19 "RamBook$Ram" "stalling" "Z", Cond.methodLink RX1 58 yX1_reckon, Cond.instanceMethod yX1_reckon, Cond.selects RX1 yX1_reckon yX1_reckon, Cond.code yX1_reckon cX1_reckon 7 none, Cond.fieldLink RX1 15 "RamBook$Ram" "reckoned" "Z", Cond.fieldLink RX1 26 "RamBook$Ram" "speed" "I", Cond.fieldLink RX1 22 "RamBook$Ram" "tick" "I", Cond.methodLink RX1 67 yX1_share, Cond.static yX1_share, Cond.code yX1_share cX1_share 4 (some .long), Cond.methodLink RX1 85 yX1_beatsAnHour, Cond.instanceMethod yX1_beatsAnHour]
def wsX1_drawsAnHour_r2 : List Cond := [Cond.selects RX1 yX1_beatsAnHour yX1_beatsAnHour, Cond.code yX1_beatsAnHour cX1_beatsAnHour 1 (some .int), Cond.constantLong RX1 79 (3600), Cond.methodLink RX1 81 yX1_span, Cond.instanceMethod yX1_span, Cond.selects RX1 yX1_span yX1_span, Cond.code yX1_span cX1_span 1 (some .int), Cond.methodLink RX1 94 yX1_upAnHour, Cond.instanceMethod yX1_upAnHour, Cond.selects RX1 yX1_upAnHour yX1_upAnHour, Cond.code yX1_upAnHour cX1_upAnHour 1 (some .int), Cond.methodLink RX1 88 yX1_upOfBeat, Cond.instanceMethod yX1_upOfBeat, Cond.selects RX1 yX1_upOfBeat yX1_upOfBeat, Cond.code yX1_upOfBeat cX1_upOfBeat 5 (some .int), Cond.constantLong RX1 65 (100), Cond.constantLong RX1 71 (19), Cond.constantLong RX1 73 (20), Cond.methodLink RX1 61 yX1_workBy, Cond.instanceMethod yX1_workBy, Cond.selects RX1 yX1_workBy yX1_workBy, Cond.code yX1_workBy cX1_workBy 3 (some .int), Cond.methodLink RX1 52 Lib.Math.min.name, Cond.static Lib.Math.min.name]
def wsX1_drawsAnHour_r3 : List Cond := [Cond.initialized "java/lang/Math", Cond.code Lib.Math.min.name Lib.Math.min.code 2 (some .int)]
def wsX1_drawsAnHour : List Cond := .code yX1_drawsAnHour cX1_drawsAnHour 1 (some .int) :: ((wsX1_drawsAnHour_r1 ++ (wsX1_drawsAnHour_r2 ++ wsX1_drawsAnHour_r3)) ++ wsX10)
def wsX1_loseAir_r1 : List Cond := [Cond.fieldLink RX1 9 "RamBook$Ram" "traits" "[I", Cond.methodLink RX1 97 Lib.Math.max.name, Cond.static Lib.Math.max.name, Cond.initialized "java/lang/Math", Cond.code Lib.Math.max.name Lib.Math.max.code 2 (some .int), Cond.methodLink RX1 52 Lib.Math.min.name, Cond.static Lib.Math.min.name, Cond.code Lib.Math.min.name Lib.Math.min.code 2 (some .int), Cond.methodLink RX1 75 yX1_stalls, Cond.instanceMethod yX1_stalls, Cond.selects RX1 yX1_stalls yX1_stalls, Cond.initialized RX1, Cond.code yX1_stalls cX1_stalls 1 (some .boolean), Cond.fieldLink RX1 19 "RamBook$Ram" "stalling" "Z", Cond.methodLink RX1 58 yX1_reckon, Cond.instanceMethod yX1_reckon, Cond.selects RX1 yX1_reckon yX1_reckon, Cond.code yX1_reckon cX1_reckon 7 none, Cond.fieldLink RX1 15 "RamBook$Ram" "reckoned" "Z", Cond.fieldLink RX1 26 "RamBook$Ram" "speed" "I", Cond.fieldLink RX1 29 "RamBook$Ram" "waste" "I", Cond.fieldLink RX1 22 "RamBook$Ram" "tick" "I", Cond.methodLink RX1 67 yX1_share, Cond.static yX1_share]
def wsX1_loseAir_r2 : List Cond := [Cond.code yX1_share cX1_share 4 (some .long), Cond.methodLink RX1 45 yX1_put, Cond.instanceMethod yX1_put, Cond.selects RX1 yX1_put yX1_put, Cond.code yX1_put cX1_put 3 none, Cond.static yX7_within, Cond.initialized RX7, Cond.code yX7_within cX7_within 3 (some .boolean)]
def wsX1_loseAir : List Cond := .code yX1_loseAir cX1_loseAir 2 none :: ((wsX1_loseAir_r1 ++ wsX1_loseAir_r2) ++ wsX10)
def wsX2_init : List Cond := .code yX2_init cX2_init 1 none :: ([.methodLink RX2 3 objectInit, .instanceMethod objectInit, .code objectInit ⟨#[0xb1]⟩ 1 none, .arrayClass .int, .fieldLink RX2 11 "RamBook$Readings" "ramsRead" "[I", .fieldLink RX2 15 "RamBook$Readings" "beatsRead" "[I", .fieldLink RX2 18 "RamBook$Readings" "upsRead" "[I", .fieldLink RX2 21 "RamBook$Readings" "size" "I", .fieldLink RX2 25 "RamBook$Readings" "toleranceBeats" "I", .fieldLink RX2 28 "RamBook$Readings" "toleranceUp" "I"] ++ wsX20)
def wsX2_keep : List Cond := .code yX2_keep cX2_keep 4 (some .int) :: ([.fieldLink RX2 21 "RamBook$Readings" "size" "I", .fieldLink RX2 11 "RamBook$Readings" "ramsRead" "[I", .fieldLink RX2 15 "RamBook$Readings" "beatsRead" "[I", .fieldLink RX2 18 "RamBook$Readings" "upsRead" "[I"] ++ wsX20)
def wsX2_isNearBeats : List Cond := .code yX2_isNearBeats cX2_isNearBeats 3 (some .boolean) :: ([.fieldLink RX2 15 "RamBook$Readings" "beatsRead" "[I", .methodLink RX2 47 Lib.Math.abs.name, .static Lib.Math.abs.name, .initialized "java/lang/Math", .code Lib.Math.abs.name Lib.Math.abs.code 1 (some .int), .fieldLink RX2 25 "RamBook$Readings" "toleranceBeats" "I"] ++ wsX20)
def wsX2_isNearUp : List Cond := .code yX2_isNearUp cX2_isNearUp 3 (some .boolean) :: ([.fieldLink RX2 18 "RamBook$Readings" "upsRead" "[I", .methodLink RX2 47 Lib.Math.abs.name, .static Lib.Math.abs.name, .initialized "java/lang/Math", .code Lib.Math.abs.name Lib.Math.abs.code 1 (some .int), .fieldLink RX2 28 "RamBook$Readings" "toleranceUp" "I"] ++ wsX20)
def wsX2_agreeWith_r1 : List Cond := [Cond.fieldLink RX2 21 "RamBook$Readings" "size" "I", Cond.fieldLink RX2 11 "RamBook$Readings" "ramsRead" "[I", Cond.methodLink RX2 31 yX1_beatsAnHour, Cond.instanceMethod yX1_beatsAnHour, Cond.selects RX1 yX1_beatsAnHour yX1_beatsAnHour, Cond.initialized RX1, Cond.code yX1_beatsAnHour cX1_beatsAnHour 1 (some .int), Cond.constantLong RX1 79 (3600), Cond.methodLink RX1 75 yX1_stalls, Cond.instanceMethod yX1_stalls, Cond.selects RX1 yX1_stalls yX1_stalls, Cond.code yX1_stalls cX1_stalls 1 (some .boolean), Cond.fieldLink RX1 19 "RamBook$Ram" "stalling" "Z", Cond.methodLink RX1 58 yX1_reckon, Cond.instanceMethod yX1_reckon, Cond.selects RX1 yX1_reckon yX1_reckon, Cond.code yX1_reckon cX1_reckon 7 none, Cond.fieldLink RX1 15 "RamBook$Ram" "reckoned" "Z", Cond.fieldLink RX1 26 "RamBook$Ram" "speed" "I", Cond.fieldLink RX1 29 "RamBook$Ram" "waste" "I", Cond.fieldLink RX1 9 "RamBook$Ram" "traits" "[I", Cond.fieldLink RX1 22 "RamBook$Ram" "tick" "I", Cond.methodLink RX1 67 yX1_share, Cond.static yX1_share]
def wsX2_agreeWith_r2 : List Cond := [Cond.code yX1_share cX1_share 4 (some .long), Cond.methodLink RX1 81 yX1_span, Cond.instanceMethod yX1_span, Cond.selects RX1 yX1_span yX1_span, Cond.code yX1_span cX1_span 1 (some .int), Cond.methodLink RX2 37 yX1_upAnHour, Cond.instanceMethod yX1_upAnHour, Cond.selects RX1 yX1_upAnHour yX1_upAnHour, Cond.code yX1_upAnHour cX1_upAnHour 1 (some .int), Cond.methodLink RX1 85 yX1_beatsAnHour, Cond.methodLink RX1 88 yX1_upOfBeat, Cond.instanceMethod yX1_upOfBeat, Cond.selects RX1 yX1_upOfBeat yX1_upOfBeat, Cond.code yX1_upOfBeat cX1_upOfBeat 5 (some .int), Cond.constantLong RX1 65 (100), Cond.constantLong RX1 71 (19), Cond.constantLong RX1 73 (20), Cond.methodLink RX1 61 yX1_workBy, Cond.instanceMethod yX1_workBy, Cond.selects RX1 yX1_workBy yX1_workBy, Cond.code yX1_workBy cX1_workBy 3 (some .int), Cond.methodLink RX1 52 Lib.Math.min.name, Cond.static Lib.Math.min.name, Cond.initialized "java/lang/Math"]
def wsX2_agreeWith_r3 : List Cond := [Cond.code Lib.Math.min.name Lib.Math.min.code 2 (some .int), Cond.methodLink RX2 40 yX2_isNearBeats, Cond.instanceMethod yX2_isNearBeats, Cond.selects RX2 yX2_isNearBeats yX2_isNearBeats, Cond.initialized RX2, Cond.code yX2_isNearBeats cX2_isNearBeats 3 (some .boolean), Cond.fieldLink RX2 15 "RamBook$Readings" "beatsRead" "[I", Cond.methodLink RX2 47 Lib.Math.abs.name, Cond.static Lib.Math.abs.name, Cond.code Lib.Math.abs.name Lib.Math.abs.code 1 (some .int), Cond.fieldLink RX2 25 "RamBook$Readings" "toleranceBeats" "I", Cond.methodLink RX2 44 yX2_isNearUp, Cond.instanceMethod yX2_isNearUp, Cond.selects RX2 yX2_isNearUp yX2_isNearUp, Cond.code yX2_isNearUp cX2_isNearUp 3 (some .boolean), Cond.fieldLink RX2 18 "RamBook$Readings" "upsRead" "[I", Cond.fieldLink RX2 28 "RamBook$Readings" "toleranceUp" "I"]
def wsX2_agreeWith : List Cond := .code yX2_agreeWith cX2_agreeWith 6 (some .boolean) :: ((wsX2_agreeWith_r1 ++ (wsX2_agreeWith_r2 ++ wsX2_agreeWith_r3)) ++ wsX20 ++ wsX10)
def wsX3_init : List Cond := .code yX3_init cX3_init 1 none :: ([.methodLink RX3 3 objectInit, .instanceMethod objectInit, .code objectInit ⟨#[0xb1]⟩ 1 none, .arrayClass .byte, .fieldLink RX3 11 "RamBook$Rights" "draft" "[B", .fieldLink RX3 15 "RamBook$Rights" "draftLength" "I", .fieldLink RX3 19 "RamBook$Rights" "items" "I", .arrayClass .int, .fieldLink RX3 22 "RamBook$Rights" "litres" "[I", .fieldLink RX3 26 "RamBook$Rights" "litresTold" "[I", .fieldLink RX3 29 "RamBook$Rights" "place" "I", .fieldLink RX3 32 "RamBook$Rights" "faulty" "Z"] ++ wsX30)
def wsX3_write : List Cond := .code yX3_write cX3_write 5 (some .int) :: ([.fieldLink RX3 15 "RamBook$Rights" "draftLength" "I", .fieldLink RX3 11 "RamBook$Rights" "draft" "[B"] ++ wsX30)
def wsX3_litresOf : List Cond := .code yX3_litresOf cX3_litresOf 3 (some .int) :: ([.fieldLink RX3 22 "RamBook$Rights" "litres" "[I"] ++ wsX30)
def wsX3_readSign : List Cond := .code yX3_readSign cX3_readSign 2 none :: ([.fieldLink RX3 32 "RamBook$Rights" "faulty" "Z", .fieldLink RX3 29 "RamBook$Rights" "place" "I", .fieldLink RX3 15 "RamBook$Rights" "draftLength" "I", .fieldLink RX3 11 "RamBook$Rights" "draft" "[B"] ++ wsX30)
def wsX3_digitHere : List Cond := .code yX3_digitHere cX3_digitHere 1 (some .int) :: ([.fieldLink RX3 29 "RamBook$Rights" "place" "I", .fieldLink RX3 15 "RamBook$Rights" "draftLength" "I", .fieldLink RX3 11 "RamBook$Rights" "draft" "[B"] ++ wsX30)
def wsX3_readNumber : List Cond := .code yX3_readNumber cX3_readNumber 5 (some .int) :: ([.fieldLink RX3 32 "RamBook$Rights" "faulty" "Z", .fieldLink RX3 29 "RamBook$Rights" "place" "I", .fieldLink RX3 15 "RamBook$Rights" "draftLength" "I", .methodLink RX3 59 yX3_digitHere, .instanceMethod yX3_digitHere, .selects RX3 yX3_digitHere yX3_digitHere, .initialized RX3, .code yX3_digitHere cX3_digitHere 1 (some .int), .fieldLink RX3 11 "RamBook$Rights" "draft" "[B"] ++ wsX30)
def wsX3_readItem : List Cond := .code yX3_readItem cX3_readItem 6 none :: ([.fieldLink RX3 32 "RamBook$Rights" "faulty" "Z", .fieldLink RX3 29 "RamBook$Rights" "place" "I", .fieldLink RX3 26 "RamBook$Rights" "litresTold" "[I", .methodLink RX3 51 yX3_readSign, .instanceMethod yX3_readSign, .selects RX3 yX3_readSign yX3_readSign, .initialized RX3, .code yX3_readSign cX3_readSign 2 none, .fieldLink RX3 15 "RamBook$Rights" "draftLength" "I", .fieldLink RX3 11 "RamBook$Rights" "draft" "[B", .methodLink RX3 55 yX3_readNumber, .instanceMethod yX3_readNumber, .selects RX3 yX3_readNumber yX3_readNumber, .code yX3_readNumber cX3_readNumber 5 (some .int), .methodLink RX3 59 yX3_digitHere, .instanceMethod yX3_digitHere, .selects RX3 yX3_digitHere yX3_digitHere, .code yX3_digitHere cX3_digitHere 1 (some .int)] ++ wsX30)
def wsX3_tellAnew_r1 : List Cond := [Cond.fieldLink RX3 26 "RamBook$Rights" "litresTold" "[I", Cond.fieldLink RX3 29 "RamBook$Rights" "place" "I", Cond.fieldLink RX3 32 "RamBook$Rights" "faulty" "Z", Cond.fieldLink RX3 15 "RamBook$Rights" "draftLength" "I", Cond.fieldLink RX3 22 "RamBook$Rights" "litres" "[I", Cond.methodLink RX3 45 arraycopyName, Cond.native arraycopyName, Cond.static arraycopyName, Cond.initialized "java/lang/System", Cond.fieldLink RX3 19 "RamBook$Rights" "items" "I", Cond.methodLink RX3 36 yJ7_fill_53178, Cond.static yJ7_fill_53178, Cond.initialized RJ7, Cond.code yJ7_fill_53178 cJ7_fill_53178 4 none, Cond.methodLink RX3 42 yX3_readItem, Cond.instanceMethod yX3_readItem, Cond.selects RX3 yX3_readItem yX3_readItem, Cond.initialized RX3, Cond.code yX3_readItem cX3_readItem 6 none, Cond.methodLink RX3 51 yX3_readSign, Cond.instanceMethod yX3_readSign, Cond.selects RX3 yX3_readSign yX3_readSign, Cond.code yX3_readSign cX3_readSign 2 none, Cond.fieldLink RX3 11 "RamBook$Rights" "draft" "[B"]
def wsX3_tellAnew_r2 : List Cond := [Cond.methodLink RX3 55 yX3_readNumber, Cond.instanceMethod yX3_readNumber, Cond.selects RX3 yX3_readNumber yX3_readNumber, Cond.code yX3_readNumber cX3_readNumber 5 (some .int), Cond.methodLink RX3 59 yX3_digitHere, Cond.instanceMethod yX3_digitHere, Cond.selects RX3 yX3_digitHere yX3_digitHere, Cond.code yX3_digitHere cX3_digitHere 1 (some .int)]
def wsX3_tellAnew : List Cond := .code yX3_tellAnew cX3_tellAnew 2 (some .int) :: ((wsX3_tellAnew_r1 ++ wsX3_tellAnew_r2) ++ wsX30)
def wsX4_init : List Cond := .code yX4_init cX4_init 1 none :: ([.methodLink RX4 3 objectInit, .instanceMethod objectInit, .code objectInit ⟨#[0xb1]⟩ 1 none, .arrayClass .int, .fieldLink RX4 9 "RamBook$Seasons" "springs" "[I", .fieldLink RX4 15 "RamBook$Seasons" "frosts" "[I", .fieldLink RX4 18 "RamBook$Seasons" "silentFrom" "I", .fieldLink RX4 22 "RamBook$Seasons" "silentTo" "I", .methodLink RX4 25 yJ7_fill_53178, .static yJ7_fill_53178, .initialized RJ7, .code yJ7_fill_53178 cJ7_fill_53178 4 none] ++ wsX40)
def wsX4_stop : List Cond := .code yX4_stop cX4_stop 5 (some .boolean) :: ([.fieldLink RX4 18 "RamBook$Seasons" "silentFrom" "I", .fieldLink RX4 22 "RamBook$Seasons" "silentTo" "I", .fieldLink RX4 15 "RamBook$Seasons" "frosts" "[I", .methodLink RX4 31 yX1_trait, .instanceMethod yX1_trait, .selects RX1 yX1_trait yX1_trait, .initialized RX1, .code yX1_trait cX1_trait 2 (some .int), .fieldLink RX1 9 "RamBook$Ram" "traits" "[I", .static yX7_within, .initialized RX7, .code yX7_within cX7_within 3 (some .boolean)] ++ wsX40 ++ wsX10)
def wsX5_init : List Cond := .code yX5_init cX5_init 1 none :: ([.methodLink RX5 3 objectInit, .instanceMethod objectInit, .code objectInit ⟨#[0xb1]⟩ 1 none, .constant RX5 9 (50000), .fieldLink RX5 10 "RamBook$Tank" "room" "I", .fieldLink RX5 16 "RamBook$Tank" "held" "I", .fieldLink RX5 19 "RamBook$Tank" "lifted" "J", .fieldLink RX5 23 "RamBook$Tank" "wasted" "J", .fieldLink RX5 26 "RamBook$Tank" "spilt" "J", .fieldLink RX5 29 "RamBook$Tank" "taken" "J", .fieldLink RX5 32 "RamBook$Tank" "lacked" "J", .arrayClass .long, .fieldLink RX5 35 "RamBook$Tank" "lackedBy" "[J"] ++ wsX50)
def wsX5_changeRoom : List Cond := .code yX5_changeRoom cX5_changeRoom 3 (some .int) :: ([.constant RX5 39 (1000000), .fieldLink RX5 16 "RamBook$Tank" "held" "I", .fieldLink RX5 10 "RamBook$Tank" "room" "I", .static yX7_within, .initialized RX7, .code yX7_within cX7_within 3 (some .boolean)] ++ wsX50)
def wsX5_changeHeld : List Cond := .code yX5_changeHeld cX5_changeHeld 3 (some .int) :: ([.fieldLink RX5 10 "RamBook$Tank" "room" "I", .fieldLink RX5 16 "RamBook$Tank" "held" "I", .static yX7_within, .initialized RX7, .code yX7_within cX7_within 3 (some .boolean)] ++ wsX50)
def wsX5_receive : List Cond := .code yX5_receive cX5_receive 3 none :: ([.fieldLink RX5 16 "RamBook$Tank" "held" "I", .fieldLink RX5 19 "RamBook$Tank" "lifted" "J", .fieldLink RX5 23 "RamBook$Tank" "wasted" "J"] ++ wsX50)
def wsX5_spillOver : List Cond := .code yX5_spillOver cX5_spillOver 2 none :: ([.fieldLink RX5 16 "RamBook$Tank" "held" "I", .fieldLink RX5 10 "RamBook$Tank" "room" "I", .methodLink RX5 44 Lib.Math.max.name, .static Lib.Math.max.name, .initialized "java/lang/Math", .code Lib.Math.max.name Lib.Math.max.code 2 (some .int), .fieldLink RX5 26 "RamBook$Tank" "spilt" "J"] ++ wsX50)
def wsX5_serve : List Cond := .code yX5_serve cX5_serve 4 none :: ([.fieldLink RX5 16 "RamBook$Tank" "held" "I", .methodLink RX5 50 Lib.Math.min.name, .static Lib.Math.min.name, .initialized "java/lang/Math", .code Lib.Math.min.name Lib.Math.min.code 2 (some .int), .fieldLink RX5 29 "RamBook$Tank" "taken" "J", .fieldLink RX5 32 "RamBook$Tank" "lacked" "J", .fieldLink RX5 35 "RamBook$Tank" "lackedBy" "[J"] ++ wsX50)
def wsX6_init : List Cond := .code yX6_init cX6_init 1 none :: ([.methodLink RX6 5 objectInit, .instanceMethod objectInit, .code objectInit ⟨#[0xb1]⟩ 1 none, .arrayClass .int, .fieldLink RX6 11 "RamBook$Tunes" "weights" "[I", .fieldLink RX6 15 "RamBook$Tunes" "strokes" "[I", .fieldLink RX6 18 "RamBook$Tunes" "size" "I", .fieldLink RX6 22 "RamBook$Tunes" "draws" "[I", .fieldLink RX6 25 "RamBook$Tunes" "ups" "[I", .fieldLink RX6 28 "RamBook$Tunes" "bestNumber" "I", .fieldLink RX6 31 "RamBook$Tunes" "bestUp" "I"] ++ wsX60)
def wsX6_keep : List Cond := .code yX6_keep cX6_keep 3 (some .int) :: ([.fieldLink RX6 18 "RamBook$Tunes" "size" "I", .fieldLink RX6 11 "RamBook$Tunes" "weights" "[I", .fieldLink RX6 15 "RamBook$Tunes" "strokes" "[I"] ++ wsX60)
def wsX6_tryOn_r1 : List Cond := [Cond.fieldLink RX6 18 "RamBook$Tunes" "size" "I", Cond.fieldLink RX6 11 "RamBook$Tunes" "weights" "[I", Cond.fieldLink RX6 15 "RamBook$Tunes" "strokes" "[I", Cond.fieldLink RX6 22 "RamBook$Tunes" "draws" "[I", Cond.fieldLink RX6 25 "RamBook$Tunes" "ups" "[I", Cond.methodLink RX6 34 yX1_put, Cond.instanceMethod yX1_put, Cond.selects RX1 yX1_put yX1_put, Cond.initialized RX1, Cond.code yX1_put cX1_put 3 none, Cond.fieldLink RX1 9 "RamBook$Ram" "traits" "[I", Cond.fieldLink RX1 15 "RamBook$Ram" "reckoned" "Z", Cond.static yX7_within, Cond.initialized RX7, Cond.code yX7_within cX7_within 3 (some .boolean), Cond.methodLink RX6 40 yX1_stalls, Cond.instanceMethod yX1_stalls, Cond.selects RX1 yX1_stalls yX1_stalls, Cond.code yX1_stalls cX1_stalls 1 (some .boolean), Cond.fieldLink RX1 19 "RamBook$Ram" "stalling" "Z", Cond.methodLink RX1 58 yX1_reckon, Cond.instanceMethod yX1_reckon, Cond.selects RX1 yX1_reckon yX1_reckon, Cond.code yX1_reckon cX1_reckon 7 none]
def wsX6_tryOn_r2 : List Cond := [Cond.fieldLink RX1 26 "RamBook$Ram" "speed" "I", Cond.fieldLink RX1 29 "RamBook$Ram" "waste" "I", Cond.fieldLink RX1 22 "RamBook$Ram" "tick" "I", Cond.methodLink RX1 67 yX1_share, Cond.static yX1_share, Cond.code yX1_share cX1_share 4 (some .long), Cond.methodLink RX6 44 yX1_drawsAnHour, Cond.instanceMethod yX1_drawsAnHour, Cond.selects RX1 yX1_drawsAnHour yX1_drawsAnHour, Cond.code yX1_drawsAnHour cX1_drawsAnHour 1 (some .int), Cond.methodLink RX1 91 yX1_wasteAnHour, Cond.instanceMethod yX1_wasteAnHour, Cond.selects RX1 yX1_wasteAnHour yX1_wasteAnHour, Cond.code yX1_wasteAnHour cX1_wasteAnHour 1 (some .int), Cond.methodLink RX1 75 yX1_stalls, Cond.methodLink RX1 85 yX1_beatsAnHour, Cond.instanceMethod yX1_beatsAnHour, Cond.selects RX1 yX1_beatsAnHour yX1_beatsAnHour, Cond.code yX1_beatsAnHour cX1_beatsAnHour 1 (some .int), Cond.constantLong RX1 79 (3600), Cond.methodLink RX1 81 yX1_span, Cond.instanceMethod yX1_span, Cond.selects RX1 yX1_span yX1_span, Cond.code yX1_span cX1_span 1 (some .int)]
def wsX6_tryOn_r3 : List Cond := [Cond.methodLink RX1 94 yX1_upAnHour, Cond.instanceMethod yX1_upAnHour, Cond.selects RX1 yX1_upAnHour yX1_upAnHour, Cond.code yX1_upAnHour cX1_upAnHour 1 (some .int), Cond.methodLink RX1 88 yX1_upOfBeat, Cond.instanceMethod yX1_upOfBeat, Cond.selects RX1 yX1_upOfBeat yX1_upOfBeat, Cond.code yX1_upOfBeat cX1_upOfBeat 5 (some .int), Cond.constantLong RX1 65 (100), Cond.constantLong RX1 71 (19), Cond.constantLong RX1 73 (20), Cond.methodLink RX1 61 yX1_workBy, Cond.instanceMethod yX1_workBy, Cond.selects RX1 yX1_workBy yX1_workBy, Cond.code yX1_workBy cX1_workBy 3 (some .int), Cond.methodLink RX1 52 Lib.Math.min.name, Cond.static Lib.Math.min.name, Cond.initialized "java/lang/Math", Cond.code Lib.Math.min.name Lib.Math.min.code 2 (some .int), Cond.methodLink RX6 48 yX1_upAnHour]
def wsX6_tryOn : List Cond := .code yX6_tryOn cX6_tryOn 5 none :: ((wsX6_tryOn_r1 ++ (wsX6_tryOn_r2 ++ wsX6_tryOn_r3)) ++ wsX60 ++ wsX10)
def wsX6_numbers : List Cond := .code yX6_numbers cX6_numbers 3 (some .int) :: ([])
def wsX6_upOf : List Cond := .code yX6_upOf cX6_upOf 10 (some .int) :: ([.fieldLink RX6 18 "RamBook$Tunes" "size" "I", .fieldLink RX6 22 "RamBook$Tunes" "draws" "[I", .fieldLink RX6 25 "RamBook$Tunes" "ups" "[I"] ++ wsX60)
def wsX6_pick : List Cond := .code yX6_pick cX6_pick 6 none :: ([.fieldLink RX6 28 "RamBook$Tunes" "bestNumber" "I", .fieldLink RX6 31 "RamBook$Tunes" "bestUp" "I", .methodLink RX6 51 yX6_numbers, .static yX6_numbers, .initialized RX6, .code yX6_numbers cX6_numbers 3 (some .int), .methodLink RX6 55 yX6_upOf, .instanceMethod yX6_upOf, .selects RX6 yX6_upOf yX6_upOf, .code yX6_upOf cX6_upOf 10 (some .int), .fieldLink RX6 18 "RamBook$Tunes" "size" "I", .fieldLink RX6 22 "RamBook$Tunes" "draws" "[I", .fieldLink RX6 25 "RamBook$Tunes" "ups" "[I"] ++ wsX60)
def wsX6_tellsAll : List Cond := .code yX6_tellsAll cX6_tellsAll 5 (some .boolean) :: ([.fieldLink RX6 18 "RamBook$Tunes" "size" "I", .methodLink RX6 51 yX6_numbers, .static yX6_numbers, .initialized RX6, .code yX6_numbers cX6_numbers 3 (some .int), .static yX7_within, .initialized RX7, .code yX7_within cX7_within 3 (some .boolean)] ++ wsX60)
def wsX6_giveTo : List Cond := .code yX6_giveTo cX6_giveTo 3 none :: ([.fieldLink RX6 18 "RamBook$Tunes" "size" "I", .fieldLink RX6 11 "RamBook$Tunes" "weights" "[I", .fieldLink RX6 15 "RamBook$Tunes" "strokes" "[I", .static yX7_within, .initialized RX7, .code yX7_within cX7_within 3 (some .boolean), .methodLink RX6 34 yX1_put, .instanceMethod yX1_put, .selects RX1 yX1_put yX1_put, .initialized RX1, .code yX1_put cX1_put 3 none, .fieldLink RX1 9 "RamBook$Ram" "traits" "[I", .fieldLink RX1 15 "RamBook$Ram" "reckoned" "Z"] ++ wsX60 ++ wsX10)
def wsX7_init_r1 : List Cond := [Cond.methodLink RX7 1 objectInit, Cond.instanceMethod objectInit, Cond.code objectInit ⟨#[0xb1]⟩ 1 none, Cond.classLink RX7 9 RX1, Cond.fieldLink RX7 11 "RamBook" "rams" "[LRamBook$Ram;", Cond.fieldLink RX7 15 "RamBook" "ramCount" "I", Cond.instantiable RX1 6, Cond.initialized RX1, Cond.fieldLink RX7 20 "RamBook" "trial" "LRamBook$Ram;", Cond.classLink RX7 24 RX4, Cond.instantiable RX4 4, Cond.initialized RX4, Cond.fieldLink RX7 27 "RamBook" "seasons" "LRamBook$Seasons;", Cond.classLink RX7 31 RX6, Cond.instantiable RX6 7, Cond.initialized RX6, Cond.fieldLink RX7 34 "RamBook" "tunes" "LRamBook$Tunes;", Cond.classLink RX7 38 RX3, Cond.instantiable RX3 7, Cond.initialized RX3, Cond.fieldLink RX7 41 "RamBook" "farmRights" "LRamBook$Rights;", Cond.classLink RX7 45 RX5, Cond.instantiable RX5 8, Cond.initialized RX5]
def wsX7_init_r2 : List Cond := [Cond.fieldLink RX7 48 "RamBook" "store" "LRamBook$Tank;", Cond.classLink RX7 52 RX2, Cond.instantiable RX2 6, Cond.initialized RX2, Cond.fieldLink RX7 55 "RamBook" "readings" "LRamBook$Readings;", Cond.classLink RX7 59 RX0, Cond.instantiable RX0 3, Cond.initialized RX0, Cond.fieldLink RX7 62 "RamBook" "diagnosis" "LRamBook$Diagnosis;", Cond.fieldLink RX7 66 "RamBook" "nowMonth" "I", Cond.fieldLink RX7 69 "RamBook" "nowDay" "I", Cond.fieldLink RX7 72 "RamBook" "nowHour" "I", Cond.fieldLink RX7 75 "RamBook" "traced" "J", Cond.methodLink RX7 19 yX1_init, Cond.instanceMethod yX1_init, Cond.code yX1_init cX1_init 1 none, Cond.methodLink RX1 3 objectInit, Cond.arrayClass .int, Cond.fieldLink RX1 9 "RamBook$Ram" "traits" "[I", Cond.fieldLink RX1 15 "RamBook$Ram" "reckoned" "Z", Cond.fieldLink RX1 19 "RamBook$Ram" "stalling" "Z", Cond.fieldLink RX1 22 "RamBook$Ram" "tick" "I", Cond.fieldLink RX1 26 "RamBook$Ram" "speed" "I", Cond.fieldLink RX1 29 "RamBook$Ram" "waste" "I"]
def wsX7_init_r3 : List Cond := [Cond.methodLink RX1 35 arraycopyName, Cond.native arraycopyName, Cond.static arraycopyName, Cond.initialized "java/lang/System", Cond.methodLink RX7 26 yX4_init, Cond.instanceMethod yX4_init, Cond.code yX4_init cX4_init 1 none, Cond.methodLink RX4 3 objectInit, Cond.fieldLink RX4 9 "RamBook$Seasons" "springs" "[I", Cond.fieldLink RX4 15 "RamBook$Seasons" "frosts" "[I", Cond.fieldLink RX4 18 "RamBook$Seasons" "silentFrom" "I", Cond.fieldLink RX4 22 "RamBook$Seasons" "silentTo" "I", Cond.methodLink RX4 25 yJ7_fill_53178, Cond.static yJ7_fill_53178, Cond.initialized RJ7, Cond.code yJ7_fill_53178 cJ7_fill_53178 4 none, Cond.instanceMethod yX6_init, Cond.code yX6_init cX6_init 1 none, Cond.methodLink RX6 5 objectInit, Cond.fieldLink RX6 11 "RamBook$Tunes" "weights" "[I", Cond.fieldLink RX6 15 "RamBook$Tunes" "strokes" "[I", Cond.fieldLink RX6 18 "RamBook$Tunes" "size" "I", Cond.fieldLink RX6 22 "RamBook$Tunes" "draws" "[I", Cond.fieldLink RX6 25 "RamBook$Tunes" "ups" "[I"]
def wsX7_init_r4 : List Cond := [Cond.fieldLink RX6 28 "RamBook$Tunes" "bestNumber" "I", Cond.fieldLink RX6 31 "RamBook$Tunes" "bestUp" "I", Cond.instanceMethod yX3_init, Cond.code yX3_init cX3_init 1 none, Cond.methodLink RX3 3 objectInit, Cond.arrayClass .byte, Cond.fieldLink RX3 11 "RamBook$Rights" "draft" "[B", Cond.fieldLink RX3 15 "RamBook$Rights" "draftLength" "I", Cond.fieldLink RX3 19 "RamBook$Rights" "items" "I", Cond.fieldLink RX3 22 "RamBook$Rights" "litres" "[I", Cond.fieldLink RX3 26 "RamBook$Rights" "litresTold" "[I", Cond.fieldLink RX3 29 "RamBook$Rights" "place" "I", Cond.fieldLink RX3 32 "RamBook$Rights" "faulty" "Z", Cond.instanceMethod yX5_init, Cond.code yX5_init cX5_init 1 none, Cond.methodLink RX5 3 objectInit, Cond.constant RX5 9 (50000), Cond.fieldLink RX5 10 "RamBook$Tank" "room" "I", Cond.fieldLink RX5 16 "RamBook$Tank" "held" "I", Cond.fieldLink RX5 19 "RamBook$Tank" "lifted" "J", Cond.fieldLink RX5 23 "RamBook$Tank" "wasted" "J", Cond.fieldLink RX5 26 "RamBook$Tank" "spilt" "J", Cond.fieldLink RX5 29 "RamBook$Tank" "taken" "J", Cond.fieldLink RX5 32 "RamBook$Tank" "lacked" "J"]
def wsX7_init_r5 : List Cond := [Cond.arrayClass .long, Cond.fieldLink RX5 35 "RamBook$Tank" "lackedBy" "[J", Cond.instanceMethod yX2_init, Cond.code yX2_init cX2_init 1 none, Cond.methodLink RX2 3 objectInit, Cond.fieldLink RX2 11 "RamBook$Readings" "ramsRead" "[I", Cond.fieldLink RX2 15 "RamBook$Readings" "beatsRead" "[I", Cond.fieldLink RX2 18 "RamBook$Readings" "upsRead" "[I", Cond.fieldLink RX2 21 "RamBook$Readings" "size" "I", Cond.fieldLink RX2 25 "RamBook$Readings" "toleranceBeats" "I", Cond.fieldLink RX2 28 "RamBook$Readings" "toleranceUp" "I", Cond.instanceMethod yX0_init, Cond.code yX0_init cX0_init 1 none, Cond.methodLink RX0 3 objectInit, Cond.fieldLink RX0 11 "RamBook$Diagnosis" "tallies" "[I", Cond.fieldLink RX0 15 "RamBook$Diagnosis" "fitting" "I", Cond.fieldLink RX0 19 "RamBook$Diagnosis" "least" "I"]
def wsX7_init : List Cond := .code yX7_init cX7_init 2 none :: ((wsX7_init_r1 ++ (wsX7_init_r2 ++ (wsX7_init_r3 ++ (wsX7_init_r4 ++ wsX7_init_r5)))) ++ wsX70 ++ wsX10 ++ wsX40 ++ wsX60 ++ wsX30 ++ wsX50 ++ wsX20 ++ wsX00)
def wsX7_canBe : List Cond := .code yX7_canBe cX7_canBe 2 (some .boolean) :: ([.fieldLink RX7 283 "RamBook" "LEAST" "[I", .fieldLink RX7 149 "RamBook" "MOST" "[I", .methodLink RX7 95 yX7_within, .static yX7_within, .initialized RX7, .code yX7_within cX7_within 3 (some .boolean)])
def wsX7_ram : List Cond := .code yX7_ram cX7_ram 7 (some .int) :: ([.fieldLink RX7 15 "RamBook" "ramCount" "I", .fieldLink RX7 11 "RamBook" "rams" "[LRamBook$Ram;", .methodLink RX7 79 yX7_canBe, .static yX7_canBe, .initialized RX7, .code yX7_canBe cX7_canBe 2 (some .boolean), .fieldLink RX7 283 "RamBook" "LEAST" "[I", .fieldLink RX7 149 "RamBook" "MOST" "[I", .methodLink RX7 95 yX7_within, .static yX7_within, .code yX7_within cX7_within 3 (some .boolean), .methodLink RX7 83 yX1_put, .instanceMethod yX1_put, .selects RX1 yX1_put yX1_put, .initialized RX1, .code yX1_put cX1_put 3 none, .fieldLink RX1 9 "RamBook$Ram" "traits" "[I", .fieldLink RX1 15 "RamBook$Ram" "reckoned" "Z"] ++ wsX70 ++ wsX10)
def wsX7_isRam : List Cond := .code yX7_isRam cX7_isRam 2 (some .boolean) :: ([.fieldLink RX7 15 "RamBook" "ramCount" "I", .methodLink RX7 95 yX7_within, .static yX7_within, .initialized RX7, .code yX7_within cX7_within 3 (some .boolean)] ++ wsX70)
def wsX7_set_r1 : List Cond := [Cond.fieldLink RX7 11 "RamBook" "rams" "[LRamBook$Ram;", Cond.methodLink RX7 87 yX7_isRam, Cond.instanceMethod yX7_isRam, Cond.selects RX7 yX7_isRam yX7_isRam, Cond.initialized RX7, Cond.code yX7_isRam cX7_isRam 2 (some .boolean), Cond.fieldLink RX7 15 "RamBook" "ramCount" "I", Cond.methodLink RX7 95 yX7_within, Cond.static yX7_within, Cond.code yX7_within cX7_within 3 (some .boolean), Cond.methodLink RX7 79 yX7_canBe, Cond.static yX7_canBe, Cond.code yX7_canBe cX7_canBe 2 (some .boolean), Cond.fieldLink RX7 283 "RamBook" "LEAST" "[I", Cond.fieldLink RX7 149 "RamBook" "MOST" "[I", Cond.methodLink RX7 91 yX1_trait, Cond.instanceMethod yX1_trait, Cond.selects RX1 yX1_trait yX1_trait, Cond.initialized RX1, Cond.code yX1_trait cX1_trait 2 (some .int), Cond.fieldLink RX1 9 "RamBook$Ram" "traits" "[I", Cond.methodLink RX7 83 yX1_put, Cond.instanceMethod yX1_put, Cond.selects RX1 yX1_put yX1_put]
def wsX7_set_r2 : List Cond := [Cond.code yX1_put cX1_put 3 none, Cond.fieldLink RX1 15 "RamBook$Ram" "reckoned" "Z"]
def wsX7_set : List Cond := .code yX7_set cX7_set 6 (some .int) :: ((wsX7_set_r1 ++ wsX7_set_r2) ++ wsX70 ++ wsX10)
def wsX7_about : List Cond := .code yX7_about cX7_about 3 (some .int) :: ([.fieldLink RX7 11 "RamBook" "rams" "[LRamBook$Ram;", .methodLink RX7 87 yX7_isRam, .instanceMethod yX7_isRam, .selects RX7 yX7_isRam yX7_isRam, .initialized RX7, .code yX7_isRam cX7_isRam 2 (some .boolean), .fieldLink RX7 15 "RamBook" "ramCount" "I", .methodLink RX7 95 yX7_within, .static yX7_within, .code yX7_within cX7_within 3 (some .boolean), .methodLink RX7 91 yX1_trait, .instanceMethod yX1_trait, .selects RX1 yX1_trait yX1_trait, .initialized RX1, .code yX1_trait cX1_trait 2 (some .int), .fieldLink RX1 9 "RamBook$Ram" "traits" "[I"] ++ wsX70 ++ wsX10)
def wsX7_work_r1 : List Cond := [Cond.fieldLink RX7 75 "RamBook" "traced" "J", Cond.fieldLink RX7 99 "RamBook" "TRACE_OF_KIND" "[I", Cond.fieldLink RX7 11 "RamBook" "rams" "[LRamBook$Ram;", Cond.methodLink RX7 79 yX7_canBe, Cond.static yX7_canBe, Cond.initialized RX7, Cond.code yX7_canBe cX7_canBe 2 (some .boolean), Cond.fieldLink RX7 283 "RamBook" "LEAST" "[I", Cond.fieldLink RX7 149 "RamBook" "MOST" "[I", Cond.methodLink RX7 95 yX7_within, Cond.static yX7_within, Cond.code yX7_within cX7_within 3 (some .boolean), Cond.methodLink RX7 87 yX7_isRam, Cond.instanceMethod yX7_isRam, Cond.selects RX7 yX7_isRam yX7_isRam, Cond.code yX7_isRam cX7_isRam 2 (some .boolean), Cond.fieldLink RX7 15 "RamBook" "ramCount" "I", Cond.methodLink RX7 103 yX1_workBy, Cond.instanceMethod yX1_workBy, Cond.selects RX1 yX1_workBy yX1_workBy, Cond.initialized RX1, Cond.code yX1_workBy cX1_workBy 3 (some .int), Cond.fieldLink RX1 9 "RamBook$Ram" "traits" "[I", Cond.methodLink RX1 52 Lib.Math.min.name]
def wsX7_work_r2 : List Cond := [Cond.static Lib.Math.min.name, Cond.initialized "java/lang/Math", Cond.code Lib.Math.min.name Lib.Math.min.code 2 (some .int)]
def wsX7_work : List Cond := .code yX7_work cX7_work 3 (some .int) :: ((wsX7_work_r1 ++ wsX7_work_r2) ++ wsX70 ++ wsX10)
def wsX7_beat_r1 : List Cond := [Cond.fieldLink RX7 11 "RamBook" "rams" "[LRamBook$Ram;", Cond.methodLink RX7 87 yX7_isRam, Cond.instanceMethod yX7_isRam, Cond.selects RX7 yX7_isRam yX7_isRam, Cond.initialized RX7, Cond.code yX7_isRam cX7_isRam 2 (some .boolean), Cond.fieldLink RX7 15 "RamBook" "ramCount" "I", Cond.methodLink RX7 95 yX7_within, Cond.static yX7_within, Cond.code yX7_within cX7_within 3 (some .boolean), Cond.methodLink RX7 106 yX1_stalls, Cond.instanceMethod yX1_stalls, Cond.selects RX1 yX1_stalls yX1_stalls, Cond.initialized RX1, Cond.code yX1_stalls cX1_stalls 1 (some .boolean), Cond.fieldLink RX1 19 "RamBook$Ram" "stalling" "Z", Cond.methodLink RX1 58 yX1_reckon, Cond.instanceMethod yX1_reckon, Cond.selects RX1 yX1_reckon yX1_reckon, Cond.code yX1_reckon cX1_reckon 7 none, Cond.fieldLink RX1 15 "RamBook$Ram" "reckoned" "Z", Cond.fieldLink RX1 26 "RamBook$Ram" "speed" "I", Cond.fieldLink RX1 29 "RamBook$Ram" "waste" "I", Cond.fieldLink RX1 9 "RamBook$Ram" "traits" "[I"]
def wsX7_beat_r2 : List Cond := [Cond.fieldLink RX1 22 "RamBook$Ram" "tick" "I", Cond.methodLink RX1 67 yX1_share, Cond.static yX1_share, Cond.code yX1_share cX1_share 4 (some .long), Cond.methodLink RX7 110 yX1_shutTick, Cond.instanceMethod yX1_shutTick, Cond.selects RX1 yX1_shutTick yX1_shutTick, Cond.code yX1_shutTick cX1_shutTick 1 (some .int), Cond.methodLink RX7 114 yX1_shutSpeed, Cond.instanceMethod yX1_shutSpeed, Cond.selects RX1 yX1_shutSpeed yX1_shutSpeed, Cond.code yX1_shutSpeed cX1_shutSpeed 1 (some .int), Cond.methodLink RX7 117 yX1_wasteOfBeat, Cond.instanceMethod yX1_wasteOfBeat, Cond.selects RX1 yX1_wasteOfBeat yX1_wasteOfBeat, Cond.code yX1_wasteOfBeat cX1_wasteOfBeat 1 (some .int), Cond.methodLink RX7 120 yX1_upOfBeat, Cond.instanceMethod yX1_upOfBeat, Cond.selects RX1 yX1_upOfBeat yX1_upOfBeat, Cond.code yX1_upOfBeat cX1_upOfBeat 5 (some .int), Cond.constantLong RX1 65 (100), Cond.constantLong RX1 71 (19), Cond.constantLong RX1 73 (20), Cond.methodLink RX1 61 yX1_workBy]
def wsX7_beat_r3 : List Cond := [Cond.instanceMethod yX1_workBy, Cond.selects RX1 yX1_workBy yX1_workBy, Cond.code yX1_workBy cX1_workBy 3 (some .int), Cond.methodLink RX1 52 Lib.Math.min.name, Cond.static Lib.Math.min.name, Cond.initialized "java/lang/Math", Cond.code Lib.Math.min.name Lib.Math.min.code 2 (some .int), Cond.methodLink RX7 123 yX1_span, Cond.instanceMethod yX1_span, Cond.selects RX1 yX1_span yX1_span, Cond.code yX1_span cX1_span 1 (some .int)]
def wsX7_beat : List Cond := .code yX7_beat cX7_beat 4 (some .int) :: ((wsX7_beat_r1 ++ (wsX7_beat_r2 ++ wsX7_beat_r3)) ++ wsX70 ++ wsX10)
def wsX7_hourly_r1 : List Cond := [Cond.fieldLink RX7 11 "RamBook" "rams" "[LRamBook$Ram;", Cond.methodLink RX7 87 yX7_isRam, Cond.instanceMethod yX7_isRam, Cond.selects RX7 yX7_isRam yX7_isRam, Cond.initialized RX7, Cond.code yX7_isRam cX7_isRam 2 (some .boolean), Cond.fieldLink RX7 15 "RamBook" "ramCount" "I", Cond.methodLink RX7 95 yX7_within, Cond.static yX7_within, Cond.code yX7_within cX7_within 3 (some .boolean), Cond.methodLink RX7 126 yX1_beatsAnHour, Cond.instanceMethod yX1_beatsAnHour, Cond.selects RX1 yX1_beatsAnHour yX1_beatsAnHour, Cond.initialized RX1, Cond.code yX1_beatsAnHour cX1_beatsAnHour 1 (some .int), Cond.constantLong RX1 79 (3600), Cond.methodLink RX1 75 yX1_stalls, Cond.instanceMethod yX1_stalls, Cond.selects RX1 yX1_stalls yX1_stalls, Cond.code yX1_stalls cX1_stalls 1 (some .boolean), Cond.fieldLink RX1 19 "RamBook$Ram" "stalling" "Z", Cond.methodLink RX1 58 yX1_reckon, Cond.instanceMethod yX1_reckon, Cond.selects RX1 yX1_reckon yX1_reckon]
def wsX7_hourly_r2 : List Cond := [Cond.code yX1_reckon cX1_reckon 7 none, Cond.fieldLink RX1 15 "RamBook$Ram" "reckoned" "Z", Cond.fieldLink RX1 26 "RamBook$Ram" "speed" "I", Cond.fieldLink RX1 29 "RamBook$Ram" "waste" "I", Cond.fieldLink RX1 9 "RamBook$Ram" "traits" "[I", Cond.fieldLink RX1 22 "RamBook$Ram" "tick" "I", Cond.methodLink RX1 67 yX1_share, Cond.static yX1_share, Cond.code yX1_share cX1_share 4 (some .long), Cond.methodLink RX1 81 yX1_span, Cond.instanceMethod yX1_span, Cond.selects RX1 yX1_span yX1_span, Cond.code yX1_span cX1_span 1 (some .int), Cond.methodLink RX7 129 yX1_wasteAnHour, Cond.instanceMethod yX1_wasteAnHour, Cond.selects RX1 yX1_wasteAnHour yX1_wasteAnHour, Cond.code yX1_wasteAnHour cX1_wasteAnHour 1 (some .int), Cond.methodLink RX1 85 yX1_beatsAnHour, Cond.methodLink RX7 132 yX1_upAnHour, Cond.instanceMethod yX1_upAnHour, Cond.selects RX1 yX1_upAnHour yX1_upAnHour, Cond.code yX1_upAnHour cX1_upAnHour 1 (some .int), Cond.methodLink RX1 88 yX1_upOfBeat, Cond.instanceMethod yX1_upOfBeat]
def wsX7_hourly_r3 : List Cond := [Cond.selects RX1 yX1_upOfBeat yX1_upOfBeat, Cond.code yX1_upOfBeat cX1_upOfBeat 5 (some .int), Cond.constantLong RX1 65 (100), Cond.constantLong RX1 71 (19), Cond.constantLong RX1 73 (20), Cond.methodLink RX1 61 yX1_workBy, Cond.instanceMethod yX1_workBy, Cond.selects RX1 yX1_workBy yX1_workBy, Cond.code yX1_workBy cX1_workBy 3 (some .int), Cond.methodLink RX1 52 Lib.Math.min.name, Cond.static Lib.Math.min.name, Cond.initialized "java/lang/Math", Cond.code Lib.Math.min.name Lib.Math.min.code 2 (some .int), Cond.methodLink RX7 135 yX1_drawsAnHour, Cond.instanceMethod yX1_drawsAnHour, Cond.selects RX1 yX1_drawsAnHour yX1_drawsAnHour, Cond.code yX1_drawsAnHour cX1_drawsAnHour 1 (some .int), Cond.methodLink RX1 91 yX1_wasteAnHour, Cond.methodLink RX1 94 yX1_upAnHour]
def wsX7_hourly : List Cond := .code yX7_hourly cX7_hourly 4 (some .int) :: ((wsX7_hourly_r1 ++ (wsX7_hourly_r2 ++ wsX7_hourly_r3)) ++ wsX70 ++ wsX10)
def wsX7_isMonth : List Cond := .code yX7_isMonth cX7_isMonth 1 (some .boolean) :: ([.methodLink RX7 95 yX7_within, .static yX7_within, .initialized RX7, .code yX7_within cX7_within 3 (some .boolean)])
def wsX7_spring : List Cond := .code yX7_spring cX7_spring 4 (some .int) :: ([.constant RX7 141 (1000000), .fieldLink RX7 27 "RamBook" "seasons" "LRamBook$Seasons;", .fieldLink RX7 142 "RamBook$Seasons" "springs" "[I", .methodLink RX7 138 yX7_isMonth, .static yX7_isMonth, .initialized RX7, .code yX7_isMonth cX7_isMonth 1 (some .boolean), .methodLink RX7 95 yX7_within, .static yX7_within, .code yX7_within cX7_within 3 (some .boolean)] ++ wsX70 ++ wsX40)
def wsX7_advantage : List Cond := .code yX7_advantage cX7_advantage 5 (some .long) :: ([])
def wsX7_tuned_r1 : List Cond := [Cond.fieldLink RX7 20 "RamBook" "trial" "LRamBook$Ram;", Cond.fieldLink RX7 11 "RamBook" "rams" "[LRamBook$Ram;", Cond.fieldLink RX7 149 "RamBook" "MOST" "[I", Cond.fieldLink RX7 27 "RamBook" "seasons" "LRamBook$Seasons;", Cond.fieldLink RX7 142 "RamBook$Seasons" "springs" "[I", Cond.methodLink RX7 87 yX7_isRam, Cond.instanceMethod yX7_isRam, Cond.selects RX7 yX7_isRam yX7_isRam, Cond.initialized RX7, Cond.code yX7_isRam cX7_isRam 2 (some .boolean), Cond.fieldLink RX7 15 "RamBook" "ramCount" "I", Cond.methodLink RX7 95 yX7_within, Cond.static yX7_within, Cond.code yX7_within cX7_within 3 (some .boolean), Cond.methodLink RX7 138 yX7_isMonth, Cond.static yX7_isMonth, Cond.code yX7_isMonth cX7_isMonth 1 (some .boolean), Cond.methodLink RX7 145 yX1_becomeLike, Cond.instanceMethod yX1_becomeLike, Cond.selects RX1 yX1_becomeLike yX1_becomeLike, Cond.initialized RX1, Cond.code yX1_becomeLike cX1_becomeLike 2 none, Cond.fieldLink RX1 9 "RamBook$Ram" "traits" "[I", Cond.methodLink RX1 35 arraycopyName]
def wsX7_tuned_r2 : List Cond := [Cond.native arraycopyName, Cond.static arraycopyName, Cond.initialized "java/lang/System", Cond.fieldLink RX1 15 "RamBook$Ram" "reckoned" "Z", Cond.methodLink RX7 83 yX1_put, Cond.instanceMethod yX1_put, Cond.selects RX1 yX1_put yX1_put, Cond.code yX1_put cX1_put 3 none, Cond.methodLink RX7 106 yX1_stalls, Cond.instanceMethod yX1_stalls, Cond.selects RX1 yX1_stalls yX1_stalls, Cond.code yX1_stalls cX1_stalls 1 (some .boolean), Cond.fieldLink RX1 19 "RamBook$Ram" "stalling" "Z", Cond.methodLink RX1 58 yX1_reckon, Cond.instanceMethod yX1_reckon, Cond.selects RX1 yX1_reckon yX1_reckon, Cond.code yX1_reckon cX1_reckon 7 none, Cond.fieldLink RX1 26 "RamBook$Ram" "speed" "I", Cond.fieldLink RX1 29 "RamBook$Ram" "waste" "I", Cond.fieldLink RX1 22 "RamBook$Ram" "tick" "I", Cond.methodLink RX1 67 yX1_share, Cond.static yX1_share, Cond.code yX1_share cX1_share 4 (some .long), Cond.methodLink RX7 132 yX1_upAnHour]
def wsX7_tuned_r3 : List Cond := [Cond.instanceMethod yX1_upAnHour, Cond.selects RX1 yX1_upAnHour yX1_upAnHour, Cond.code yX1_upAnHour cX1_upAnHour 1 (some .int), Cond.methodLink RX1 85 yX1_beatsAnHour, Cond.instanceMethod yX1_beatsAnHour, Cond.selects RX1 yX1_beatsAnHour yX1_beatsAnHour, Cond.code yX1_beatsAnHour cX1_beatsAnHour 1 (some .int), Cond.constantLong RX1 79 (3600), Cond.methodLink RX1 75 yX1_stalls, Cond.methodLink RX1 81 yX1_span, Cond.instanceMethod yX1_span, Cond.selects RX1 yX1_span yX1_span, Cond.code yX1_span cX1_span 1 (some .int), Cond.methodLink RX1 88 yX1_upOfBeat, Cond.instanceMethod yX1_upOfBeat, Cond.selects RX1 yX1_upOfBeat yX1_upOfBeat, Cond.code yX1_upOfBeat cX1_upOfBeat 5 (some .int), Cond.constantLong RX1 65 (100), Cond.constantLong RX1 71 (19), Cond.constantLong RX1 73 (20), Cond.methodLink RX1 61 yX1_workBy, Cond.instanceMethod yX1_workBy, Cond.selects RX1 yX1_workBy yX1_workBy, Cond.code yX1_workBy cX1_workBy 3 (some .int)]
def wsX7_tuned_r4 : List Cond := [Cond.methodLink RX1 52 Lib.Math.min.name, Cond.static Lib.Math.min.name, Cond.initialized "java/lang/Math", Cond.code Lib.Math.min.name Lib.Math.min.code 2 (some .int), Cond.methodLink RX7 129 yX1_wasteAnHour, Cond.instanceMethod yX1_wasteAnHour, Cond.selects RX1 yX1_wasteAnHour yX1_wasteAnHour, Cond.code yX1_wasteAnHour cX1_wasteAnHour 1 (some .int), Cond.methodLink RX7 152 yX7_advantage, Cond.static yX7_advantage, Cond.code yX7_advantage cX7_advantage 5 (some .long)]
def wsX7_tuned : List Cond := .code yX7_tuned cX7_tuned 15 (some .int) :: ((wsX7_tuned_r1 ++ (wsX7_tuned_r2 ++ (wsX7_tuned_r3 ++ wsX7_tuned_r4))) ++ wsX70 ++ wsX40 ++ wsX10)
def wsX7_tune : List Cond := .code yX7_tune cX7_tune 3 (some .int) :: ([.fieldLink RX7 34 "RamBook" "tunes" "LRamBook$Tunes;", .methodLink RX7 79 yX7_canBe, .static yX7_canBe, .initialized RX7, .code yX7_canBe cX7_canBe 2 (some .boolean), .fieldLink RX7 283 "RamBook" "LEAST" "[I", .fieldLink RX7 149 "RamBook" "MOST" "[I", .methodLink RX7 95 yX7_within, .static yX7_within, .code yX7_within cX7_within 3 (some .boolean), .methodLink RX7 156 yX6_keep, .instanceMethod yX6_keep, .selects RX6 yX6_keep yX6_keep, .initialized RX6, .code yX6_keep cX6_keep 3 (some .int), .fieldLink RX6 18 "RamBook$Tunes" "size" "I", .fieldLink RX6 11 "RamBook$Tunes" "weights" "[I", .fieldLink RX6 15 "RamBook$Tunes" "strokes" "[I"] ++ wsX70 ++ wsX60)
def wsX7_forget : List Cond := .code yX7_forget cX7_forget 2 (some .int) :: ([.fieldLink RX7 34 "RamBook" "tunes" "LRamBook$Tunes;", .fieldLink RX7 160 "RamBook$Tunes" "size" "I"] ++ wsX70 ++ wsX60)
def wsX7_side_r1 : List Cond := [Cond.fieldLink RX7 15 "RamBook" "ramCount" "I", Cond.fieldLink RX7 20 "RamBook" "trial" "LRamBook$Ram;", Cond.fieldLink RX7 11 "RamBook" "rams" "[LRamBook$Ram;", Cond.fieldLink RX7 34 "RamBook" "tunes" "LRamBook$Tunes;", Cond.fieldLink RX7 27 "RamBook" "seasons" "LRamBook$Seasons;", Cond.fieldLink RX7 142 "RamBook$Seasons" "springs" "[I", Cond.fieldLink RX7 170 "RamBook$Tunes" "bestNumber" "I", Cond.fieldLink RX7 173 "RamBook$Tunes" "bestUp" "I", Cond.methodLink RX7 138 yX7_isMonth, Cond.static yX7_isMonth, Cond.initialized RX7, Cond.code yX7_isMonth cX7_isMonth 1 (some .boolean), Cond.methodLink RX7 95 yX7_within, Cond.static yX7_within, Cond.code yX7_within cX7_within 3 (some .boolean), Cond.methodLink RX7 145 yX1_becomeLike, Cond.instanceMethod yX1_becomeLike, Cond.selects RX1 yX1_becomeLike yX1_becomeLike, Cond.initialized RX1, Cond.code yX1_becomeLike cX1_becomeLike 2 none, Cond.fieldLink RX1 9 "RamBook$Ram" "traits" "[I", Cond.methodLink RX1 35 arraycopyName, Cond.native arraycopyName, Cond.static arraycopyName]
def wsX7_side_r2 : List Cond := [Cond.initialized "java/lang/System", Cond.fieldLink RX1 15 "RamBook$Ram" "reckoned" "Z", Cond.methodLink RX7 163 yX6_tryOn, Cond.instanceMethod yX6_tryOn, Cond.selects RX6 yX6_tryOn yX6_tryOn, Cond.initialized RX6, Cond.code yX6_tryOn cX6_tryOn 5 none, Cond.fieldLink RX6 18 "RamBook$Tunes" "size" "I", Cond.fieldLink RX6 11 "RamBook$Tunes" "weights" "[I", Cond.fieldLink RX6 15 "RamBook$Tunes" "strokes" "[I", Cond.fieldLink RX6 22 "RamBook$Tunes" "draws" "[I", Cond.fieldLink RX6 25 "RamBook$Tunes" "ups" "[I", Cond.methodLink RX6 34 yX1_put, Cond.instanceMethod yX1_put, Cond.selects RX1 yX1_put yX1_put, Cond.code yX1_put cX1_put 3 none, Cond.methodLink RX6 40 yX1_stalls, Cond.instanceMethod yX1_stalls, Cond.selects RX1 yX1_stalls yX1_stalls, Cond.code yX1_stalls cX1_stalls 1 (some .boolean), Cond.fieldLink RX1 19 "RamBook$Ram" "stalling" "Z", Cond.methodLink RX1 58 yX1_reckon, Cond.instanceMethod yX1_reckon, Cond.selects RX1 yX1_reckon yX1_reckon]
def wsX7_side_r3 : List Cond := [Cond.code yX1_reckon cX1_reckon 7 none, Cond.fieldLink RX1 26 "RamBook$Ram" "speed" "I", Cond.fieldLink RX1 29 "RamBook$Ram" "waste" "I", Cond.fieldLink RX1 22 "RamBook$Ram" "tick" "I", Cond.methodLink RX1 67 yX1_share, Cond.static yX1_share, Cond.code yX1_share cX1_share 4 (some .long), Cond.methodLink RX6 44 yX1_drawsAnHour, Cond.instanceMethod yX1_drawsAnHour, Cond.selects RX1 yX1_drawsAnHour yX1_drawsAnHour, Cond.code yX1_drawsAnHour cX1_drawsAnHour 1 (some .int), Cond.methodLink RX1 91 yX1_wasteAnHour, Cond.instanceMethod yX1_wasteAnHour, Cond.selects RX1 yX1_wasteAnHour yX1_wasteAnHour, Cond.code yX1_wasteAnHour cX1_wasteAnHour 1 (some .int), Cond.methodLink RX1 75 yX1_stalls, Cond.methodLink RX1 85 yX1_beatsAnHour, Cond.instanceMethod yX1_beatsAnHour, Cond.selects RX1 yX1_beatsAnHour yX1_beatsAnHour, Cond.code yX1_beatsAnHour cX1_beatsAnHour 1 (some .int), Cond.constantLong RX1 79 (3600), Cond.methodLink RX1 81 yX1_span, Cond.instanceMethod yX1_span, Cond.selects RX1 yX1_span yX1_span]
def wsX7_side_r4 : List Cond := [Cond.code yX1_span cX1_span 1 (some .int), Cond.methodLink RX1 94 yX1_upAnHour, Cond.instanceMethod yX1_upAnHour, Cond.selects RX1 yX1_upAnHour yX1_upAnHour, Cond.code yX1_upAnHour cX1_upAnHour 1 (some .int), Cond.methodLink RX1 88 yX1_upOfBeat, Cond.instanceMethod yX1_upOfBeat, Cond.selects RX1 yX1_upOfBeat yX1_upOfBeat, Cond.code yX1_upOfBeat cX1_upOfBeat 5 (some .int), Cond.constantLong RX1 65 (100), Cond.constantLong RX1 71 (19), Cond.constantLong RX1 73 (20), Cond.methodLink RX1 61 yX1_workBy, Cond.instanceMethod yX1_workBy, Cond.selects RX1 yX1_workBy yX1_workBy, Cond.code yX1_workBy cX1_workBy 3 (some .int), Cond.methodLink RX1 52 Lib.Math.min.name, Cond.static Lib.Math.min.name, Cond.initialized "java/lang/Math", Cond.code Lib.Math.min.name Lib.Math.min.code 2 (some .int), Cond.methodLink RX6 48 yX1_upAnHour, Cond.methodLink RX7 167 yX6_pick, Cond.instanceMethod yX6_pick, Cond.selects RX6 yX6_pick yX6_pick]
def wsX7_side_r5 : List Cond := [Cond.code yX6_pick cX6_pick 6 none, Cond.fieldLink RX6 28 "RamBook$Tunes" "bestNumber" "I", Cond.fieldLink RX6 31 "RamBook$Tunes" "bestUp" "I", Cond.methodLink RX6 51 yX6_numbers, Cond.static yX6_numbers, Cond.code yX6_numbers cX6_numbers 3 (some .int), Cond.methodLink RX6 55 yX6_upOf, Cond.instanceMethod yX6_upOf, Cond.selects RX6 yX6_upOf yX6_upOf, Cond.code yX6_upOf cX6_upOf 10 (some .int)]
def wsX7_side : List Cond := .code yX7_side cX7_side 4 (some .int) :: ((wsX7_side_r1 ++ (wsX7_side_r2 ++ (wsX7_side_r3 ++ (wsX7_side_r4 ++ wsX7_side_r5)))) ++ wsX70 ++ wsX40 ++ wsX60 ++ wsX10)
def wsX7_take_r1 : List Cond := [Cond.fieldLink RX7 34 "RamBook" "tunes" "LRamBook$Tunes;", Cond.fieldLink RX7 15 "RamBook" "ramCount" "I", Cond.fieldLink RX7 11 "RamBook" "rams" "[LRamBook$Ram;", Cond.methodLink RX7 176 yX6_tellsAll, Cond.instanceMethod yX6_tellsAll, Cond.selects RX6 yX6_tellsAll yX6_tellsAll, Cond.initialized RX6, Cond.code yX6_tellsAll cX6_tellsAll 5 (some .boolean), Cond.fieldLink RX6 18 "RamBook$Tunes" "size" "I", Cond.methodLink RX6 51 yX6_numbers, Cond.static yX6_numbers, Cond.code yX6_numbers cX6_numbers 3 (some .int), Cond.static yX7_within, Cond.initialized RX7, Cond.code yX7_within cX7_within 3 (some .boolean), Cond.methodLink RX7 179 yX6_giveTo, Cond.instanceMethod yX6_giveTo, Cond.selects RX6 yX6_giveTo yX6_giveTo, Cond.code yX6_giveTo cX6_giveTo 3 none, Cond.fieldLink RX6 11 "RamBook$Tunes" "weights" "[I", Cond.fieldLink RX6 15 "RamBook$Tunes" "strokes" "[I", Cond.methodLink RX6 34 yX1_put, Cond.instanceMethod yX1_put, Cond.selects RX1 yX1_put yX1_put]
def wsX7_take_r2 : List Cond := [Cond.initialized RX1, Cond.code yX1_put cX1_put 3 none, Cond.fieldLink RX1 9 "RamBook$Ram" "traits" "[I", Cond.fieldLink RX1 15 "RamBook$Ram" "reckoned" "Z"]
def wsX7_take : List Cond := .code yX7_take cX7_take 4 (some .int) :: ((wsX7_take_r1 ++ wsX7_take_r2) ++ wsX70 ++ wsX60 ++ wsX10)
def wsX7_frost : List Cond := .code yX7_frost cX7_frost 4 (some .int) :: ([.fieldLink RX7 27 "RamBook" "seasons" "LRamBook$Seasons;", .fieldLink RX7 183 "RamBook$Seasons" "frosts" "[I", .methodLink RX7 138 yX7_isMonth, .static yX7_isMonth, .initialized RX7, .code yX7_isMonth cX7_isMonth 1 (some .boolean), .methodLink RX7 95 yX7_within, .static yX7_within, .code yX7_within cX7_within 3 (some .boolean)] ++ wsX70 ++ wsX40)
def wsX7_silence : List Cond := .code yX7_silence cX7_silence 3 (some .int) :: ([.fieldLink RX7 27 "RamBook" "seasons" "LRamBook$Seasons;", .fieldLink RX7 186 "RamBook$Seasons" "silentFrom" "I", .fieldLink RX7 189 "RamBook$Seasons" "silentTo" "I", .methodLink RX7 95 yX7_within, .static yX7_within, .initialized RX7, .code yX7_within cX7_within 3 (some .boolean)] ++ wsX70 ++ wsX40)
def wsX7_tank : List Cond := .code yX7_tank cX7_tank 3 (some .int) :: ([.fieldLink RX7 48 "RamBook" "store" "LRamBook$Tank;", .methodLink RX7 192 yX5_changeRoom, .instanceMethod yX5_changeRoom, .selects RX5 yX5_changeRoom yX5_changeRoom, .initialized RX5, .code yX5_changeRoom cX5_changeRoom 3 (some .int), .constant RX5 39 (1000000), .fieldLink RX5 16 "RamBook$Tank" "held" "I", .fieldLink RX5 10 "RamBook$Tank" "room" "I", .static yX7_within, .initialized RX7, .code yX7_within cX7_within 3 (some .boolean), .methodLink RX7 195 yX5_changeHeld, .instanceMethod yX5_changeHeld, .selects RX5 yX5_changeHeld yX5_changeHeld, .code yX5_changeHeld cX5_changeHeld 3 (some .int)] ++ wsX70 ++ wsX50)
def wsX7_type : List Cond := .code yX7_type cX7_type 4 (some .int) :: ([.fieldLink RX7 41 "RamBook" "farmRights" "LRamBook$Rights;", .methodLink RX7 95 yX7_within, .static yX7_within, .initialized RX7, .code yX7_within cX7_within 3 (some .boolean), .methodLink RX7 198 yX3_write, .instanceMethod yX3_write, .selects RX3 yX3_write yX3_write, .initialized RX3, .code yX3_write cX3_write 5 (some .int), .fieldLink RX3 15 "RamBook$Rights" "draftLength" "I", .fieldLink RX3 11 "RamBook$Rights" "draft" "[B"] ++ wsX70 ++ wsX30)
def wsX7_clear : List Cond := .code yX7_clear cX7_clear 2 (some .int) :: ([.fieldLink RX7 41 "RamBook" "farmRights" "LRamBook$Rights;", .fieldLink RX7 202 "RamBook$Rights" "draftLength" "I"] ++ wsX70 ++ wsX30)
def wsX7_rights_r1 : List Cond := [Cond.fieldLink RX7 41 "RamBook" "farmRights" "LRamBook$Rights;", Cond.methodLink RX7 205 yX3_tellAnew, Cond.instanceMethod yX3_tellAnew, Cond.selects RX3 yX3_tellAnew yX3_tellAnew, Cond.initialized RX3, Cond.code yX3_tellAnew cX3_tellAnew 2 (some .int), Cond.fieldLink RX3 26 "RamBook$Rights" "litresTold" "[I", Cond.fieldLink RX3 29 "RamBook$Rights" "place" "I", Cond.fieldLink RX3 32 "RamBook$Rights" "faulty" "Z", Cond.fieldLink RX3 15 "RamBook$Rights" "draftLength" "I", Cond.fieldLink RX3 22 "RamBook$Rights" "litres" "[I", Cond.methodLink RX3 45 arraycopyName, Cond.native arraycopyName, Cond.static arraycopyName, Cond.initialized "java/lang/System", Cond.fieldLink RX3 19 "RamBook$Rights" "items" "I", Cond.methodLink RX3 36 yJ7_fill_53178, Cond.static yJ7_fill_53178, Cond.initialized RJ7, Cond.code yJ7_fill_53178 cJ7_fill_53178 4 none, Cond.methodLink RX3 42 yX3_readItem, Cond.instanceMethod yX3_readItem, Cond.selects RX3 yX3_readItem yX3_readItem, Cond.code yX3_readItem cX3_readItem 6 none]
def wsX7_rights_r2 : List Cond := [Cond.methodLink RX3 51 yX3_readSign, Cond.instanceMethod yX3_readSign, Cond.selects RX3 yX3_readSign yX3_readSign, Cond.code yX3_readSign cX3_readSign 2 none, Cond.fieldLink RX3 11 "RamBook$Rights" "draft" "[B", Cond.methodLink RX3 55 yX3_readNumber, Cond.instanceMethod yX3_readNumber, Cond.selects RX3 yX3_readNumber yX3_readNumber, Cond.code yX3_readNumber cX3_readNumber 5 (some .int), Cond.methodLink RX3 59 yX3_digitHere, Cond.instanceMethod yX3_digitHere, Cond.selects RX3 yX3_digitHere yX3_digitHere, Cond.code yX3_digitHere cX3_digitHere 1 (some .int)]
def wsX7_rights : List Cond := .code yX7_rights cX7_rights 1 (some .int) :: ((wsX7_rights_r1 ++ wsX7_rights_r2) ++ wsX70 ++ wsX30)
def wsX7_right : List Cond := .code yX7_right cX7_right 3 (some .int) :: ([.fieldLink RX7 41 "RamBook" "farmRights" "LRamBook$Rights;", .methodLink RX7 95 yX7_within, .static yX7_within, .initialized RX7, .code yX7_within cX7_within 3 (some .boolean), .methodLink RX7 208 yX3_litresOf, .instanceMethod yX3_litresOf, .selects RX3 yX3_litresOf yX3_litresOf, .initialized RX3, .code yX3_litresOf cX3_litresOf 3 (some .int), .fieldLink RX3 22 "RamBook$Rights" "litres" "[I"] ++ wsX70 ++ wsX30)
def wsX7_runRams_r1 : List Cond := [Cond.fieldLink RX7 27 "RamBook" "seasons" "LRamBook$Seasons;", Cond.fieldLink RX7 142 "RamBook$Seasons" "springs" "[I", Cond.fieldLink RX7 66 "RamBook" "nowMonth" "I", Cond.fieldLink RX7 15 "RamBook" "ramCount" "I", Cond.fieldLink RX7 11 "RamBook" "rams" "[LRamBook$Ram;", Cond.fieldLink RX7 72 "RamBook" "nowHour" "I", Cond.fieldLink RX7 48 "RamBook" "store" "LRamBook$Tank;", Cond.methodLink RX7 91 yX1_trait, Cond.instanceMethod yX1_trait, Cond.selects RX1 yX1_trait yX1_trait, Cond.initialized RX1, Cond.code yX1_trait cX1_trait 2 (some .int), Cond.fieldLink RX1 9 "RamBook$Ram" "traits" "[I", Cond.static yX7_within, Cond.initialized RX7, Cond.code yX7_within cX7_within 3 (some .boolean), Cond.methodLink RX7 286 yX4_stop, Cond.instanceMethod yX4_stop, Cond.selects RX4 yX4_stop yX4_stop, Cond.initialized RX4, Cond.code yX4_stop cX4_stop 5 (some .boolean), Cond.fieldLink RX4 18 "RamBook$Seasons" "silentFrom" "I", Cond.fieldLink RX4 22 "RamBook$Seasons" "silentTo" "I", Cond.fieldLink RX4 15 "RamBook$Seasons" "frosts" "[I"]
def wsX7_runRams_r2 : List Cond := [Cond.methodLink RX4 31 yX1_trait, Cond.methodLink RX7 132 yX1_upAnHour, Cond.instanceMethod yX1_upAnHour, Cond.selects RX1 yX1_upAnHour yX1_upAnHour, Cond.code yX1_upAnHour cX1_upAnHour 1 (some .int), Cond.methodLink RX1 85 yX1_beatsAnHour, Cond.instanceMethod yX1_beatsAnHour, Cond.selects RX1 yX1_beatsAnHour yX1_beatsAnHour, Cond.code yX1_beatsAnHour cX1_beatsAnHour 1 (some .int), Cond.constantLong RX1 79 (3600), Cond.methodLink RX1 75 yX1_stalls, Cond.instanceMethod yX1_stalls, Cond.selects RX1 yX1_stalls yX1_stalls, Cond.code yX1_stalls cX1_stalls 1 (some .boolean), Cond.fieldLink RX1 19 "RamBook$Ram" "stalling" "Z", Cond.methodLink RX1 58 yX1_reckon, Cond.instanceMethod yX1_reckon, Cond.selects RX1 yX1_reckon yX1_reckon, Cond.code yX1_reckon cX1_reckon 7 none, Cond.fieldLink RX1 15 "RamBook$Ram" "reckoned" "Z", Cond.fieldLink RX1 26 "RamBook$Ram" "speed" "I", Cond.fieldLink RX1 29 "RamBook$Ram" "waste" "I", Cond.fieldLink RX1 22 "RamBook$Ram" "tick" "I", Cond.methodLink RX1 67 yX1_share]
def wsX7_runRams_r3 : List Cond := [Cond.static yX1_share, Cond.code yX1_share cX1_share 4 (some .long), Cond.methodLink RX1 81 yX1_span, Cond.instanceMethod yX1_span, Cond.selects RX1 yX1_span yX1_span, Cond.code yX1_span cX1_span 1 (some .int), Cond.methodLink RX1 88 yX1_upOfBeat, Cond.instanceMethod yX1_upOfBeat, Cond.selects RX1 yX1_upOfBeat yX1_upOfBeat, Cond.code yX1_upOfBeat cX1_upOfBeat 5 (some .int), Cond.constantLong RX1 65 (100), Cond.constantLong RX1 71 (19), Cond.constantLong RX1 73 (20), Cond.methodLink RX1 61 yX1_workBy, Cond.instanceMethod yX1_workBy, Cond.selects RX1 yX1_workBy yX1_workBy, Cond.code yX1_workBy cX1_workBy 3 (some .int), Cond.methodLink RX1 52 Lib.Math.min.name, Cond.static Lib.Math.min.name, Cond.initialized "java/lang/Math", Cond.code Lib.Math.min.name Lib.Math.min.code 2 (some .int), Cond.methodLink RX7 129 yX1_wasteAnHour, Cond.instanceMethod yX1_wasteAnHour, Cond.selects RX1 yX1_wasteAnHour yX1_wasteAnHour]
def wsX7_runRams_r4 : List Cond := [Cond.code yX1_wasteAnHour cX1_wasteAnHour 1 (some .int), Cond.methodLink RX7 290 yX5_receive, Cond.instanceMethod yX5_receive, Cond.selects RX5 yX5_receive yX5_receive, Cond.initialized RX5, Cond.code yX5_receive cX5_receive 3 none, Cond.fieldLink RX5 16 "RamBook$Tank" "held" "I", Cond.fieldLink RX5 19 "RamBook$Tank" "lifted" "J", Cond.fieldLink RX5 23 "RamBook$Tank" "wasted" "J", Cond.methodLink RX7 293 yX1_loseAir, Cond.instanceMethod yX1_loseAir, Cond.selects RX1 yX1_loseAir yX1_loseAir, Cond.code yX1_loseAir cX1_loseAir 2 none, Cond.methodLink RX1 97 Lib.Math.max.name, Cond.static Lib.Math.max.name, Cond.code Lib.Math.max.name Lib.Math.max.code 2 (some .int), Cond.methodLink RX1 45 yX1_put, Cond.instanceMethod yX1_put, Cond.selects RX1 yX1_put yX1_put, Cond.code yX1_put cX1_put 3 none, Cond.methodLink RX7 296 yX5_spillOver, Cond.instanceMethod yX5_spillOver, Cond.selects RX5 yX5_spillOver yX5_spillOver, Cond.code yX5_spillOver cX5_spillOver 2 none]
def wsX7_runRams_r5 : List Cond := [Cond.fieldLink RX5 10 "RamBook$Tank" "room" "I", Cond.methodLink RX5 44 Lib.Math.max.name, Cond.fieldLink RX5 26 "RamBook$Tank" "spilt" "J"]
def wsX7_runRams : List Cond := .code yX7_runRams cX7_runRams 6 none :: ((wsX7_runRams_r1 ++ (wsX7_runRams_r2 ++ (wsX7_runRams_r3 ++ (wsX7_runRams_r4 ++ wsX7_runRams_r5)))) ++ wsX70 ++ wsX40 ++ wsX10 ++ wsX50)
def wsX7_goToNextHour : List Cond := .code yX7_goToNextHour cX7_goToNextHour 1 none :: ([.fieldLink RX7 72 "RamBook" "nowHour" "I", .fieldLink RX7 69 "RamBook" "nowDay" "I", .fieldLink RX7 66 "RamBook" "nowMonth" "I"] ++ wsX70)
def wsX7_hours_r1 : List Cond := [Cond.fieldLink RX7 48 "RamBook" "store" "LRamBook$Tank;", Cond.fieldLink RX7 211 "RamBook$Tank" "lacked" "J", Cond.fieldLink RX7 41 "RamBook" "farmRights" "LRamBook$Rights;", Cond.fieldLink RX7 72 "RamBook" "nowHour" "I", Cond.methodLink RX7 95 yX7_within, Cond.static yX7_within, Cond.initialized RX7, Cond.code yX7_within cX7_within 3 (some .boolean), Cond.methodLink RX7 214 yX7_runRams, Cond.instanceMethod yX7_runRams, Cond.selects RX7 yX7_runRams yX7_runRams, Cond.code yX7_runRams cX7_runRams 6 none, Cond.fieldLink RX7 27 "RamBook" "seasons" "LRamBook$Seasons;", Cond.fieldLink RX7 142 "RamBook$Seasons" "springs" "[I", Cond.fieldLink RX7 66 "RamBook" "nowMonth" "I", Cond.fieldLink RX7 15 "RamBook" "ramCount" "I", Cond.fieldLink RX7 11 "RamBook" "rams" "[LRamBook$Ram;", Cond.methodLink RX7 91 yX1_trait, Cond.instanceMethod yX1_trait, Cond.selects RX1 yX1_trait yX1_trait, Cond.initialized RX1, Cond.code yX1_trait cX1_trait 2 (some .int), Cond.fieldLink RX1 9 "RamBook$Ram" "traits" "[I", Cond.methodLink RX7 286 yX4_stop]
def wsX7_hours_r2 : List Cond := [Cond.instanceMethod yX4_stop, Cond.selects RX4 yX4_stop yX4_stop, Cond.initialized RX4, Cond.code yX4_stop cX4_stop 5 (some .boolean), Cond.fieldLink RX4 18 "RamBook$Seasons" "silentFrom" "I", Cond.fieldLink RX4 22 "RamBook$Seasons" "silentTo" "I", Cond.fieldLink RX4 15 "RamBook$Seasons" "frosts" "[I", Cond.methodLink RX4 31 yX1_trait, Cond.methodLink RX7 132 yX1_upAnHour, Cond.instanceMethod yX1_upAnHour, Cond.selects RX1 yX1_upAnHour yX1_upAnHour, Cond.code yX1_upAnHour cX1_upAnHour 1 (some .int), Cond.methodLink RX1 85 yX1_beatsAnHour, Cond.instanceMethod yX1_beatsAnHour, Cond.selects RX1 yX1_beatsAnHour yX1_beatsAnHour, Cond.code yX1_beatsAnHour cX1_beatsAnHour 1 (some .int), Cond.constantLong RX1 79 (3600), Cond.methodLink RX1 75 yX1_stalls, Cond.instanceMethod yX1_stalls, Cond.selects RX1 yX1_stalls yX1_stalls, Cond.code yX1_stalls cX1_stalls 1 (some .boolean), Cond.fieldLink RX1 19 "RamBook$Ram" "stalling" "Z", Cond.methodLink RX1 58 yX1_reckon, Cond.instanceMethod yX1_reckon]
def wsX7_hours_r3 : List Cond := [Cond.selects RX1 yX1_reckon yX1_reckon, Cond.code yX1_reckon cX1_reckon 7 none, Cond.fieldLink RX1 15 "RamBook$Ram" "reckoned" "Z", Cond.fieldLink RX1 26 "RamBook$Ram" "speed" "I", Cond.fieldLink RX1 29 "RamBook$Ram" "waste" "I", Cond.fieldLink RX1 22 "RamBook$Ram" "tick" "I", Cond.methodLink RX1 67 yX1_share, Cond.static yX1_share, Cond.code yX1_share cX1_share 4 (some .long), Cond.methodLink RX1 81 yX1_span, Cond.instanceMethod yX1_span, Cond.selects RX1 yX1_span yX1_span, Cond.code yX1_span cX1_span 1 (some .int), Cond.methodLink RX1 88 yX1_upOfBeat, Cond.instanceMethod yX1_upOfBeat, Cond.selects RX1 yX1_upOfBeat yX1_upOfBeat, Cond.code yX1_upOfBeat cX1_upOfBeat 5 (some .int), Cond.constantLong RX1 65 (100), Cond.constantLong RX1 71 (19), Cond.constantLong RX1 73 (20), Cond.methodLink RX1 61 yX1_workBy, Cond.instanceMethod yX1_workBy, Cond.selects RX1 yX1_workBy yX1_workBy, Cond.code yX1_workBy cX1_workBy 3 (some .int)]
def wsX7_hours_r4 : List Cond := [Cond.methodLink RX1 52 Lib.Math.min.name, Cond.static Lib.Math.min.name, Cond.initialized "java/lang/Math", Cond.code Lib.Math.min.name Lib.Math.min.code 2 (some .int), Cond.methodLink RX7 129 yX1_wasteAnHour, Cond.instanceMethod yX1_wasteAnHour, Cond.selects RX1 yX1_wasteAnHour yX1_wasteAnHour, Cond.code yX1_wasteAnHour cX1_wasteAnHour 1 (some .int), Cond.methodLink RX7 290 yX5_receive, Cond.instanceMethod yX5_receive, Cond.selects RX5 yX5_receive yX5_receive, Cond.initialized RX5, Cond.code yX5_receive cX5_receive 3 none, Cond.fieldLink RX5 16 "RamBook$Tank" "held" "I", Cond.fieldLink RX5 19 "RamBook$Tank" "lifted" "J", Cond.fieldLink RX5 23 "RamBook$Tank" "wasted" "J", Cond.methodLink RX7 293 yX1_loseAir, Cond.instanceMethod yX1_loseAir, Cond.selects RX1 yX1_loseAir yX1_loseAir, Cond.code yX1_loseAir cX1_loseAir 2 none, Cond.methodLink RX1 97 Lib.Math.max.name, Cond.static Lib.Math.max.name, Cond.code Lib.Math.max.name Lib.Math.max.code 2 (some .int), Cond.methodLink RX1 45 yX1_put]
def wsX7_hours_r5 : List Cond := [Cond.instanceMethod yX1_put, Cond.selects RX1 yX1_put yX1_put, Cond.code yX1_put cX1_put 3 none, Cond.methodLink RX7 296 yX5_spillOver, Cond.instanceMethod yX5_spillOver, Cond.selects RX5 yX5_spillOver yX5_spillOver, Cond.code yX5_spillOver cX5_spillOver 2 none, Cond.fieldLink RX5 10 "RamBook$Tank" "room" "I", Cond.methodLink RX5 44 Lib.Math.max.name, Cond.fieldLink RX5 26 "RamBook$Tank" "spilt" "J", Cond.methodLink RX7 208 yX3_litresOf, Cond.instanceMethod yX3_litresOf, Cond.selects RX3 yX3_litresOf yX3_litresOf, Cond.initialized RX3, Cond.code yX3_litresOf cX3_litresOf 3 (some .int), Cond.fieldLink RX3 22 "RamBook$Rights" "litres" "[I", Cond.methodLink RX7 217 yX5_serve, Cond.instanceMethod yX5_serve, Cond.selects RX5 yX5_serve yX5_serve, Cond.code yX5_serve cX5_serve 4 none, Cond.methodLink RX5 50 Lib.Math.min.name, Cond.fieldLink RX5 29 "RamBook$Tank" "taken" "J", Cond.fieldLink RX5 32 "RamBook$Tank" "lacked" "J", Cond.fieldLink RX5 35 "RamBook$Tank" "lackedBy" "[J"]
def wsX7_hours_r6 : List Cond := [Cond.methodLink RX7 220 yX7_goToNextHour, Cond.instanceMethod yX7_goToNextHour, Cond.selects RX7 yX7_goToNextHour yX7_goToNextHour, Cond.code yX7_goToNextHour cX7_goToNextHour 1 none, Cond.fieldLink RX7 69 "RamBook" "nowDay" "I"]
def wsX7_hours : List Cond := .code yX7_hours cX7_hours 6 (some .int) :: ((wsX7_hours_r1 ++ (wsX7_hours_r2 ++ (wsX7_hours_r3 ++ (wsX7_hours_r4 ++ (wsX7_hours_r5 ++ wsX7_hours_r6))))) ++ wsX70 ++ wsX50 ++ wsX40 ++ wsX10 ++ wsX30)
def wsX7_book : List Cond := .code yX7_book cX7_book 2 (some .long) :: ([.fieldLink RX7 48 "RamBook" "store" "LRamBook$Tank;", .fieldLink RX7 223 "RamBook$Tank" "lifted" "J", .fieldLink RX7 226 "RamBook$Tank" "wasted" "J", .fieldLink RX7 229 "RamBook$Tank" "spilt" "J", .fieldLink RX7 232 "RamBook$Tank" "taken" "J", .fieldLink RX7 211 "RamBook$Tank" "lacked" "J", .fieldLink RX7 235 "RamBook$Tank" "held" "I", .fieldLink RX7 238 "RamBook$Tank" "lackedBy" "[J", .constantLong RX7 242 (-1), .methodLink RX7 95 yX7_within, .static yX7_within, .initialized RX7, .code yX7_within cX7_within 3 (some .boolean)] ++ wsX70 ++ wsX50)
def wsX7_isReadable : List Cond := .code yX7_isReadable cX7_isReadable 1 (some .boolean) :: ([.constant RX7 141 (1000000), .methodLink RX7 95 yX7_within, .static yX7_within, .initialized RX7, .code yX7_within cX7_within 3 (some .boolean)])
def wsX7_read : List Cond := .code yX7_read cX7_read 5 (some .int) :: ([.fieldLink RX7 55 "RamBook" "readings" "LRamBook$Readings;", .methodLink RX7 244 yX7_isReadable, .static yX7_isReadable, .initialized RX7, .code yX7_isReadable cX7_isReadable 1 (some .boolean), .constant RX7 141 (1000000), .methodLink RX7 95 yX7_within, .static yX7_within, .code yX7_within cX7_within 3 (some .boolean), .methodLink RX7 87 yX7_isRam, .instanceMethod yX7_isRam, .selects RX7 yX7_isRam yX7_isRam, .code yX7_isRam cX7_isRam 2 (some .boolean), .fieldLink RX7 15 "RamBook" "ramCount" "I", .methodLink RX7 247 yX2_keep, .instanceMethod yX2_keep, .selects RX2 yX2_keep yX2_keep, .initialized RX2, .code yX2_keep cX2_keep 4 (some .int), .fieldLink RX2 21 "RamBook$Readings" "size" "I", .fieldLink RX2 11 "RamBook$Readings" "ramsRead" "[I", .fieldLink RX2 15 "RamBook$Readings" "beatsRead" "[I", .fieldLink RX2 18 "RamBook$Readings" "upsRead" "[I"] ++ wsX70 ++ wsX20)
def wsX7_wipe : List Cond := .code yX7_wipe cX7_wipe 2 (some .int) :: ([.fieldLink RX7 55 "RamBook" "readings" "LRamBook$Readings;", .fieldLink RX7 250 "RamBook$Readings" "size" "I"] ++ wsX70 ++ wsX20)
def wsX7_tolerance : List Cond := .code yX7_tolerance cX7_tolerance 4 (some .int) :: ([.fieldLink RX7 55 "RamBook" "readings" "LRamBook$Readings;", .fieldLink RX7 251 "RamBook$Readings" "toleranceBeats" "I", .fieldLink RX7 254 "RamBook$Readings" "toleranceUp" "I", .methodLink RX7 95 yX7_within, .static yX7_within, .initialized RX7, .code yX7_within cX7_within 3 (some .boolean)] ++ wsX70 ++ wsX20)
def wsX7_fits_r1 : List Cond := [Cond.fieldLink RX7 20 "RamBook" "trial" "LRamBook$Ram;", Cond.fieldLink RX7 11 "RamBook" "rams" "[LRamBook$Ram;", Cond.fieldLink RX7 55 "RamBook" "readings" "LRamBook$Readings;", Cond.methodLink RX7 87 yX7_isRam, Cond.instanceMethod yX7_isRam, Cond.selects RX7 yX7_isRam yX7_isRam, Cond.initialized RX7, Cond.code yX7_isRam cX7_isRam 2 (some .boolean), Cond.fieldLink RX7 15 "RamBook" "ramCount" "I", Cond.methodLink RX7 95 yX7_within, Cond.static yX7_within, Cond.code yX7_within cX7_within 3 (some .boolean), Cond.methodLink RX7 145 yX1_becomeLike, Cond.instanceMethod yX1_becomeLike, Cond.selects RX1 yX1_becomeLike yX1_becomeLike, Cond.initialized RX1, Cond.code yX1_becomeLike cX1_becomeLike 2 none, Cond.fieldLink RX1 9 "RamBook$Ram" "traits" "[I", Cond.methodLink RX1 35 arraycopyName, Cond.native arraycopyName, Cond.static arraycopyName, Cond.initialized "java/lang/System", Cond.fieldLink RX1 15 "RamBook$Ram" "reckoned" "Z", Cond.methodLink RX7 257 yX1_suffer]
def wsX7_fits_r2 : List Cond := [Cond.instanceMethod yX1_suffer, Cond.selects RX1 yX1_suffer yX1_suffer, Cond.code yX1_suffer cX1_suffer 2 none, Cond.methodLink RX1 45 yX1_put, Cond.instanceMethod yX1_put, Cond.selects RX1 yX1_put yX1_put, Cond.code yX1_put cX1_put 3 none, Cond.methodLink RX7 261 yX2_agreeWith, Cond.instanceMethod yX2_agreeWith, Cond.selects RX2 yX2_agreeWith yX2_agreeWith, Cond.initialized RX2, Cond.code yX2_agreeWith cX2_agreeWith 6 (some .boolean), Cond.fieldLink RX2 21 "RamBook$Readings" "size" "I", Cond.fieldLink RX2 11 "RamBook$Readings" "ramsRead" "[I", Cond.methodLink RX2 31 yX1_beatsAnHour, Cond.instanceMethod yX1_beatsAnHour, Cond.selects RX1 yX1_beatsAnHour yX1_beatsAnHour, Cond.code yX1_beatsAnHour cX1_beatsAnHour 1 (some .int), Cond.constantLong RX1 79 (3600), Cond.methodLink RX1 75 yX1_stalls, Cond.instanceMethod yX1_stalls, Cond.selects RX1 yX1_stalls yX1_stalls, Cond.code yX1_stalls cX1_stalls 1 (some .boolean), Cond.fieldLink RX1 19 "RamBook$Ram" "stalling" "Z"]
def wsX7_fits_r3 : List Cond := [Cond.methodLink RX1 58 yX1_reckon, Cond.instanceMethod yX1_reckon, Cond.selects RX1 yX1_reckon yX1_reckon, Cond.code yX1_reckon cX1_reckon 7 none, Cond.fieldLink RX1 26 "RamBook$Ram" "speed" "I", Cond.fieldLink RX1 29 "RamBook$Ram" "waste" "I", Cond.fieldLink RX1 22 "RamBook$Ram" "tick" "I", Cond.methodLink RX1 67 yX1_share, Cond.static yX1_share, Cond.code yX1_share cX1_share 4 (some .long), Cond.methodLink RX1 81 yX1_span, Cond.instanceMethod yX1_span, Cond.selects RX1 yX1_span yX1_span, Cond.code yX1_span cX1_span 1 (some .int), Cond.methodLink RX2 37 yX1_upAnHour, Cond.instanceMethod yX1_upAnHour, Cond.selects RX1 yX1_upAnHour yX1_upAnHour, Cond.code yX1_upAnHour cX1_upAnHour 1 (some .int), Cond.methodLink RX1 85 yX1_beatsAnHour, Cond.methodLink RX1 88 yX1_upOfBeat, Cond.instanceMethod yX1_upOfBeat, Cond.selects RX1 yX1_upOfBeat yX1_upOfBeat, Cond.code yX1_upOfBeat cX1_upOfBeat 5 (some .int), Cond.constantLong RX1 65 (100)]
def wsX7_fits_r4 : List Cond := [Cond.constantLong RX1 71 (19), Cond.constantLong RX1 73 (20), Cond.methodLink RX1 61 yX1_workBy, Cond.instanceMethod yX1_workBy, Cond.selects RX1 yX1_workBy yX1_workBy, Cond.code yX1_workBy cX1_workBy 3 (some .int), Cond.methodLink RX1 52 Lib.Math.min.name, Cond.static Lib.Math.min.name, Cond.initialized "java/lang/Math", Cond.code Lib.Math.min.name Lib.Math.min.code 2 (some .int), Cond.methodLink RX2 40 yX2_isNearBeats, Cond.instanceMethod yX2_isNearBeats, Cond.selects RX2 yX2_isNearBeats yX2_isNearBeats, Cond.code yX2_isNearBeats cX2_isNearBeats 3 (some .boolean), Cond.fieldLink RX2 15 "RamBook$Readings" "beatsRead" "[I", Cond.methodLink RX2 47 Lib.Math.abs.name, Cond.static Lib.Math.abs.name, Cond.code Lib.Math.abs.name Lib.Math.abs.code 1 (some .int), Cond.fieldLink RX2 25 "RamBook$Readings" "toleranceBeats" "I", Cond.methodLink RX2 44 yX2_isNearUp, Cond.instanceMethod yX2_isNearUp, Cond.selects RX2 yX2_isNearUp yX2_isNearUp, Cond.code yX2_isNearUp cX2_isNearUp 3 (some .boolean), Cond.fieldLink RX2 18 "RamBook$Readings" "upsRead" "[I"]
def wsX7_fits_r5 : List Cond := [Cond.fieldLink RX2 28 "RamBook$Readings" "toleranceUp" "I"]
def wsX7_fits : List Cond := .code yX7_fits cX7_fits 3 (some .int) :: ((wsX7_fits_r1 ++ (wsX7_fits_r2 ++ (wsX7_fits_r3 ++ (wsX7_fits_r4 ++ wsX7_fits_r5)))) ++ wsX70 ++ wsX10 ++ wsX20)
def wsX7_tryAllCauses_r1 : List Cond := [Cond.fieldLink RX7 62 "RamBook" "diagnosis" "LRamBook$Diagnosis;", Cond.fieldLink RX7 20 "RamBook" "trial" "LRamBook$Ram;", Cond.fieldLink RX7 11 "RamBook" "rams" "[LRamBook$Ram;", Cond.fieldLink RX7 55 "RamBook" "readings" "LRamBook$Readings;", Cond.methodLink RX7 299 yX0_begin, Cond.instanceMethod yX0_begin, Cond.selects RX0 yX0_begin yX0_begin, Cond.initialized RX0, Cond.code yX0_begin cX0_begin 1 none, Cond.fieldLink RX0 11 "RamBook$Diagnosis" "tallies" "[I", Cond.fieldLink RX0 15 "RamBook$Diagnosis" "fitting" "I", Cond.fieldLink RX0 19 "RamBook$Diagnosis" "least" "I", Cond.methodLink RX0 22 yJ7_fill_53178, Cond.static yJ7_fill_53178, Cond.initialized RJ7, Cond.code yJ7_fill_53178 cJ7_fill_53178 4 none, Cond.methodLink RX7 145 yX1_becomeLike, Cond.instanceMethod yX1_becomeLike, Cond.selects RX1 yX1_becomeLike yX1_becomeLike, Cond.initialized RX1, Cond.code yX1_becomeLike cX1_becomeLike 2 none, Cond.fieldLink RX1 9 "RamBook$Ram" "traits" "[I", Cond.methodLink RX1 35 arraycopyName, Cond.native arraycopyName]
def wsX7_tryAllCauses_r2 : List Cond := [Cond.static arraycopyName, Cond.initialized "java/lang/System", Cond.fieldLink RX1 15 "RamBook$Ram" "reckoned" "Z", Cond.methodLink RX7 257 yX1_suffer, Cond.instanceMethod yX1_suffer, Cond.selects RX1 yX1_suffer yX1_suffer, Cond.code yX1_suffer cX1_suffer 2 none, Cond.methodLink RX1 45 yX1_put, Cond.instanceMethod yX1_put, Cond.selects RX1 yX1_put yX1_put, Cond.code yX1_put cX1_put 3 none, Cond.static yX7_within, Cond.initialized RX7, Cond.code yX7_within cX7_within 3 (some .boolean), Cond.methodLink RX7 261 yX2_agreeWith, Cond.instanceMethod yX2_agreeWith, Cond.selects RX2 yX2_agreeWith yX2_agreeWith, Cond.initialized RX2, Cond.code yX2_agreeWith cX2_agreeWith 6 (some .boolean), Cond.fieldLink RX2 21 "RamBook$Readings" "size" "I", Cond.fieldLink RX2 11 "RamBook$Readings" "ramsRead" "[I", Cond.methodLink RX2 31 yX1_beatsAnHour, Cond.instanceMethod yX1_beatsAnHour, Cond.selects RX1 yX1_beatsAnHour yX1_beatsAnHour]
def wsX7_tryAllCauses_r3 : List Cond := [Cond.code yX1_beatsAnHour cX1_beatsAnHour 1 (some .int), Cond.constantLong RX1 79 (3600), Cond.methodLink RX1 75 yX1_stalls, Cond.instanceMethod yX1_stalls, Cond.selects RX1 yX1_stalls yX1_stalls, Cond.code yX1_stalls cX1_stalls 1 (some .boolean), Cond.fieldLink RX1 19 "RamBook$Ram" "stalling" "Z", Cond.methodLink RX1 58 yX1_reckon, Cond.instanceMethod yX1_reckon, Cond.selects RX1 yX1_reckon yX1_reckon, Cond.code yX1_reckon cX1_reckon 7 none, Cond.fieldLink RX1 26 "RamBook$Ram" "speed" "I", Cond.fieldLink RX1 29 "RamBook$Ram" "waste" "I", Cond.fieldLink RX1 22 "RamBook$Ram" "tick" "I", Cond.methodLink RX1 67 yX1_share, Cond.static yX1_share, Cond.code yX1_share cX1_share 4 (some .long), Cond.methodLink RX1 81 yX1_span, Cond.instanceMethod yX1_span, Cond.selects RX1 yX1_span yX1_span, Cond.code yX1_span cX1_span 1 (some .int), Cond.methodLink RX2 37 yX1_upAnHour, Cond.instanceMethod yX1_upAnHour, Cond.selects RX1 yX1_upAnHour yX1_upAnHour]
def wsX7_tryAllCauses_r4 : List Cond := [Cond.code yX1_upAnHour cX1_upAnHour 1 (some .int), Cond.methodLink RX1 85 yX1_beatsAnHour, Cond.methodLink RX1 88 yX1_upOfBeat, Cond.instanceMethod yX1_upOfBeat, Cond.selects RX1 yX1_upOfBeat yX1_upOfBeat, Cond.code yX1_upOfBeat cX1_upOfBeat 5 (some .int), Cond.constantLong RX1 65 (100), Cond.constantLong RX1 71 (19), Cond.constantLong RX1 73 (20), Cond.methodLink RX1 61 yX1_workBy, Cond.instanceMethod yX1_workBy, Cond.selects RX1 yX1_workBy yX1_workBy, Cond.code yX1_workBy cX1_workBy 3 (some .int), Cond.methodLink RX1 52 Lib.Math.min.name, Cond.static Lib.Math.min.name, Cond.initialized "java/lang/Math", Cond.code Lib.Math.min.name Lib.Math.min.code 2 (some .int), Cond.methodLink RX2 40 yX2_isNearBeats, Cond.instanceMethod yX2_isNearBeats, Cond.selects RX2 yX2_isNearBeats yX2_isNearBeats, Cond.code yX2_isNearBeats cX2_isNearBeats 3 (some .boolean), Cond.fieldLink RX2 15 "RamBook$Readings" "beatsRead" "[I", Cond.methodLink RX2 47 Lib.Math.abs.name, Cond.static Lib.Math.abs.name]
def wsX7_tryAllCauses_r5 : List Cond := [Cond.code Lib.Math.abs.name Lib.Math.abs.code 1 (some .int), Cond.fieldLink RX2 25 "RamBook$Readings" "toleranceBeats" "I", Cond.methodLink RX2 44 yX2_isNearUp, Cond.instanceMethod yX2_isNearUp, Cond.selects RX2 yX2_isNearUp yX2_isNearUp, Cond.code yX2_isNearUp cX2_isNearUp 3 (some .boolean), Cond.fieldLink RX2 18 "RamBook$Readings" "upsRead" "[I", Cond.fieldLink RX2 28 "RamBook$Readings" "toleranceUp" "I", Cond.methodLink RX7 302 yX0_admit, Cond.instanceMethod yX0_admit, Cond.selects RX0 yX0_admit yX0_admit, Cond.code yX0_admit cX0_admit 3 none]
def wsX7_tryAllCauses : List Cond := .code yX7_tryAllCauses cX7_tryAllCauses 5 none :: ((wsX7_tryAllCauses_r1 ++ (wsX7_tryAllCauses_r2 ++ (wsX7_tryAllCauses_r3 ++ (wsX7_tryAllCauses_r4 ++ wsX7_tryAllCauses_r5)))) ++ wsX70 ++ wsX00 ++ wsX10 ++ wsX20)
def wsX7_ails_r1 : List Cond := [Cond.fieldLink RX7 62 "RamBook" "diagnosis" "LRamBook$Diagnosis;", Cond.fieldLink RX7 268 "RamBook$Diagnosis" "fitting" "I", Cond.fieldLink RX7 271 "RamBook$Diagnosis" "least" "I", Cond.methodLink RX7 87 yX7_isRam, Cond.instanceMethod yX7_isRam, Cond.selects RX7 yX7_isRam yX7_isRam, Cond.initialized RX7, Cond.code yX7_isRam cX7_isRam 2 (some .boolean), Cond.fieldLink RX7 15 "RamBook" "ramCount" "I", Cond.methodLink RX7 95 yX7_within, Cond.static yX7_within, Cond.code yX7_within cX7_within 3 (some .boolean), Cond.methodLink RX7 265 yX7_tryAllCauses, Cond.instanceMethod yX7_tryAllCauses, Cond.selects RX7 yX7_tryAllCauses yX7_tryAllCauses, Cond.code yX7_tryAllCauses cX7_tryAllCauses 5 none, Cond.fieldLink RX7 20 "RamBook" "trial" "LRamBook$Ram;", Cond.fieldLink RX7 11 "RamBook" "rams" "[LRamBook$Ram;", Cond.fieldLink RX7 55 "RamBook" "readings" "LRamBook$Readings;", Cond.methodLink RX7 299 yX0_begin, Cond.instanceMethod yX0_begin, Cond.selects RX0 yX0_begin yX0_begin, Cond.initialized RX0, Cond.code yX0_begin cX0_begin 1 none]
def wsX7_ails_r2 : List Cond := [Cond.fieldLink RX0 11 "RamBook$Diagnosis" "tallies" "[I", Cond.fieldLink RX0 15 "RamBook$Diagnosis" "fitting" "I", Cond.fieldLink RX0 19 "RamBook$Diagnosis" "least" "I", Cond.methodLink RX0 22 yJ7_fill_53178, Cond.static yJ7_fill_53178, Cond.initialized RJ7, Cond.code yJ7_fill_53178 cJ7_fill_53178 4 none, Cond.methodLink RX7 145 yX1_becomeLike, Cond.instanceMethod yX1_becomeLike, Cond.selects RX1 yX1_becomeLike yX1_becomeLike, Cond.initialized RX1, Cond.code yX1_becomeLike cX1_becomeLike 2 none, Cond.fieldLink RX1 9 "RamBook$Ram" "traits" "[I", Cond.methodLink RX1 35 arraycopyName, Cond.native arraycopyName, Cond.static arraycopyName, Cond.initialized "java/lang/System", Cond.fieldLink RX1 15 "RamBook$Ram" "reckoned" "Z", Cond.methodLink RX7 257 yX1_suffer, Cond.instanceMethod yX1_suffer, Cond.selects RX1 yX1_suffer yX1_suffer, Cond.code yX1_suffer cX1_suffer 2 none, Cond.methodLink RX1 45 yX1_put, Cond.instanceMethod yX1_put]
def wsX7_ails_r3 : List Cond := [Cond.selects RX1 yX1_put yX1_put, Cond.code yX1_put cX1_put 3 none, Cond.methodLink RX7 261 yX2_agreeWith, Cond.instanceMethod yX2_agreeWith, Cond.selects RX2 yX2_agreeWith yX2_agreeWith, Cond.initialized RX2, Cond.code yX2_agreeWith cX2_agreeWith 6 (some .boolean), Cond.fieldLink RX2 21 "RamBook$Readings" "size" "I", Cond.fieldLink RX2 11 "RamBook$Readings" "ramsRead" "[I", Cond.methodLink RX2 31 yX1_beatsAnHour, Cond.instanceMethod yX1_beatsAnHour, Cond.selects RX1 yX1_beatsAnHour yX1_beatsAnHour, Cond.code yX1_beatsAnHour cX1_beatsAnHour 1 (some .int), Cond.constantLong RX1 79 (3600), Cond.methodLink RX1 75 yX1_stalls, Cond.instanceMethod yX1_stalls, Cond.selects RX1 yX1_stalls yX1_stalls, Cond.code yX1_stalls cX1_stalls 1 (some .boolean), Cond.fieldLink RX1 19 "RamBook$Ram" "stalling" "Z", Cond.methodLink RX1 58 yX1_reckon, Cond.instanceMethod yX1_reckon, Cond.selects RX1 yX1_reckon yX1_reckon, Cond.code yX1_reckon cX1_reckon 7 none, Cond.fieldLink RX1 26 "RamBook$Ram" "speed" "I"]
def wsX7_ails_r4 : List Cond := [Cond.fieldLink RX1 29 "RamBook$Ram" "waste" "I", Cond.fieldLink RX1 22 "RamBook$Ram" "tick" "I", Cond.methodLink RX1 67 yX1_share, Cond.static yX1_share, Cond.code yX1_share cX1_share 4 (some .long), Cond.methodLink RX1 81 yX1_span, Cond.instanceMethod yX1_span, Cond.selects RX1 yX1_span yX1_span, Cond.code yX1_span cX1_span 1 (some .int), Cond.methodLink RX2 37 yX1_upAnHour, Cond.instanceMethod yX1_upAnHour, Cond.selects RX1 yX1_upAnHour yX1_upAnHour, Cond.code yX1_upAnHour cX1_upAnHour 1 (some .int), Cond.methodLink RX1 85 yX1_beatsAnHour, Cond.methodLink RX1 88 yX1_upOfBeat, Cond.instanceMethod yX1_upOfBeat, Cond.selects RX1 yX1_upOfBeat yX1_upOfBeat, Cond.code yX1_upOfBeat cX1_upOfBeat 5 (some .int), Cond.constantLong RX1 65 (100), Cond.constantLong RX1 71 (19), Cond.constantLong RX1 73 (20), Cond.methodLink RX1 61 yX1_workBy, Cond.instanceMethod yX1_workBy, Cond.selects RX1 yX1_workBy yX1_workBy]
def wsX7_ails_r5 : List Cond := [Cond.code yX1_workBy cX1_workBy 3 (some .int), Cond.methodLink RX1 52 Lib.Math.min.name, Cond.static Lib.Math.min.name, Cond.initialized "java/lang/Math", Cond.code Lib.Math.min.name Lib.Math.min.code 2 (some .int), Cond.methodLink RX2 40 yX2_isNearBeats, Cond.instanceMethod yX2_isNearBeats, Cond.selects RX2 yX2_isNearBeats yX2_isNearBeats, Cond.code yX2_isNearBeats cX2_isNearBeats 3 (some .boolean), Cond.fieldLink RX2 15 "RamBook$Readings" "beatsRead" "[I", Cond.methodLink RX2 47 Lib.Math.abs.name, Cond.static Lib.Math.abs.name, Cond.code Lib.Math.abs.name Lib.Math.abs.code 1 (some .int), Cond.fieldLink RX2 25 "RamBook$Readings" "toleranceBeats" "I", Cond.methodLink RX2 44 yX2_isNearUp, Cond.instanceMethod yX2_isNearUp, Cond.selects RX2 yX2_isNearUp yX2_isNearUp, Cond.code yX2_isNearUp cX2_isNearUp 3 (some .boolean), Cond.fieldLink RX2 18 "RamBook$Readings" "upsRead" "[I", Cond.fieldLink RX2 28 "RamBook$Readings" "toleranceUp" "I", Cond.methodLink RX7 302 yX0_admit, Cond.instanceMethod yX0_admit, Cond.selects RX0 yX0_admit yX0_admit, Cond.code yX0_admit cX0_admit 3 none]
def wsX7_ails_r6 : List Cond := [Cond.methodLink RX7 274 yX0_nextLook, Cond.instanceMethod yX0_nextLook, Cond.selects RX0 yX0_nextLook yX0_nextLook, Cond.code yX0_nextLook cX0_nextLook 3 (some .int), Cond.methodLink RX0 28 yX0_greatest, Cond.instanceMethod yX0_greatest, Cond.selects RX0 yX0_greatest yX0_greatest, Cond.code yX0_greatest cX0_greatest 4 (some .int), Cond.methodLink RX0 32 Lib.Math.max.name, Cond.static Lib.Math.max.name, Cond.code Lib.Math.max.name Lib.Math.max.code 2 (some .int)]
def wsX7_ails : List Cond := .code yX7_ails cX7_ails 3 (some .int) :: ((wsX7_ails_r1 ++ (wsX7_ails_r2 ++ (wsX7_ails_r3 ++ (wsX7_ails_r4 ++ (wsX7_ails_r5 ++ wsX7_ails_r6))))) ++ wsX70 ++ wsX00 ++ wsX10 ++ wsX20)
def wsX7_sure_r1 : List Cond := [Cond.fieldLink RX7 62 "RamBook" "diagnosis" "LRamBook$Diagnosis;", Cond.methodLink RX7 87 yX7_isRam, Cond.instanceMethod yX7_isRam, Cond.selects RX7 yX7_isRam yX7_isRam, Cond.initialized RX7, Cond.code yX7_isRam cX7_isRam 2 (some .boolean), Cond.fieldLink RX7 15 "RamBook" "ramCount" "I", Cond.methodLink RX7 95 yX7_within, Cond.static yX7_within, Cond.code yX7_within cX7_within 3 (some .boolean), Cond.methodLink RX7 265 yX7_tryAllCauses, Cond.instanceMethod yX7_tryAllCauses, Cond.selects RX7 yX7_tryAllCauses yX7_tryAllCauses, Cond.code yX7_tryAllCauses cX7_tryAllCauses 5 none, Cond.fieldLink RX7 20 "RamBook" "trial" "LRamBook$Ram;", Cond.fieldLink RX7 11 "RamBook" "rams" "[LRamBook$Ram;", Cond.fieldLink RX7 55 "RamBook" "readings" "LRamBook$Readings;", Cond.methodLink RX7 299 yX0_begin, Cond.instanceMethod yX0_begin, Cond.selects RX0 yX0_begin yX0_begin, Cond.initialized RX0, Cond.code yX0_begin cX0_begin 1 none, Cond.fieldLink RX0 11 "RamBook$Diagnosis" "tallies" "[I", Cond.fieldLink RX0 15 "RamBook$Diagnosis" "fitting" "I"]
def wsX7_sure_r2 : List Cond := [Cond.fieldLink RX0 19 "RamBook$Diagnosis" "least" "I", Cond.methodLink RX0 22 yJ7_fill_53178, Cond.static yJ7_fill_53178, Cond.initialized RJ7, Cond.code yJ7_fill_53178 cJ7_fill_53178 4 none, Cond.methodLink RX7 145 yX1_becomeLike, Cond.instanceMethod yX1_becomeLike, Cond.selects RX1 yX1_becomeLike yX1_becomeLike, Cond.initialized RX1, Cond.code yX1_becomeLike cX1_becomeLike 2 none, Cond.fieldLink RX1 9 "RamBook$Ram" "traits" "[I", Cond.methodLink RX1 35 arraycopyName, Cond.native arraycopyName, Cond.static arraycopyName, Cond.initialized "java/lang/System", Cond.fieldLink RX1 15 "RamBook$Ram" "reckoned" "Z", Cond.methodLink RX7 257 yX1_suffer, Cond.instanceMethod yX1_suffer, Cond.selects RX1 yX1_suffer yX1_suffer, Cond.code yX1_suffer cX1_suffer 2 none, Cond.methodLink RX1 45 yX1_put, Cond.instanceMethod yX1_put, Cond.selects RX1 yX1_put yX1_put, Cond.code yX1_put cX1_put 3 none]
def wsX7_sure_r3 : List Cond := [Cond.methodLink RX7 261 yX2_agreeWith, Cond.instanceMethod yX2_agreeWith, Cond.selects RX2 yX2_agreeWith yX2_agreeWith, Cond.initialized RX2, Cond.code yX2_agreeWith cX2_agreeWith 6 (some .boolean), Cond.fieldLink RX2 21 "RamBook$Readings" "size" "I", Cond.fieldLink RX2 11 "RamBook$Readings" "ramsRead" "[I", Cond.methodLink RX2 31 yX1_beatsAnHour, Cond.instanceMethod yX1_beatsAnHour, Cond.selects RX1 yX1_beatsAnHour yX1_beatsAnHour, Cond.code yX1_beatsAnHour cX1_beatsAnHour 1 (some .int), Cond.constantLong RX1 79 (3600), Cond.methodLink RX1 75 yX1_stalls, Cond.instanceMethod yX1_stalls, Cond.selects RX1 yX1_stalls yX1_stalls, Cond.code yX1_stalls cX1_stalls 1 (some .boolean), Cond.fieldLink RX1 19 "RamBook$Ram" "stalling" "Z", Cond.methodLink RX1 58 yX1_reckon, Cond.instanceMethod yX1_reckon, Cond.selects RX1 yX1_reckon yX1_reckon, Cond.code yX1_reckon cX1_reckon 7 none, Cond.fieldLink RX1 26 "RamBook$Ram" "speed" "I", Cond.fieldLink RX1 29 "RamBook$Ram" "waste" "I", Cond.fieldLink RX1 22 "RamBook$Ram" "tick" "I"]
def wsX7_sure_r4 : List Cond := [Cond.methodLink RX1 67 yX1_share, Cond.static yX1_share, Cond.code yX1_share cX1_share 4 (some .long), Cond.methodLink RX1 81 yX1_span, Cond.instanceMethod yX1_span, Cond.selects RX1 yX1_span yX1_span, Cond.code yX1_span cX1_span 1 (some .int), Cond.methodLink RX2 37 yX1_upAnHour, Cond.instanceMethod yX1_upAnHour, Cond.selects RX1 yX1_upAnHour yX1_upAnHour, Cond.code yX1_upAnHour cX1_upAnHour 1 (some .int), Cond.methodLink RX1 85 yX1_beatsAnHour, Cond.methodLink RX1 88 yX1_upOfBeat, Cond.instanceMethod yX1_upOfBeat, Cond.selects RX1 yX1_upOfBeat yX1_upOfBeat, Cond.code yX1_upOfBeat cX1_upOfBeat 5 (some .int), Cond.constantLong RX1 65 (100), Cond.constantLong RX1 71 (19), Cond.constantLong RX1 73 (20), Cond.methodLink RX1 61 yX1_workBy, Cond.instanceMethod yX1_workBy, Cond.selects RX1 yX1_workBy yX1_workBy, Cond.code yX1_workBy cX1_workBy 3 (some .int), Cond.methodLink RX1 52 Lib.Math.min.name]
def wsX7_sure_r5 : List Cond := [Cond.static Lib.Math.min.name, Cond.initialized "java/lang/Math", Cond.code Lib.Math.min.name Lib.Math.min.code 2 (some .int), Cond.methodLink RX2 40 yX2_isNearBeats, Cond.instanceMethod yX2_isNearBeats, Cond.selects RX2 yX2_isNearBeats yX2_isNearBeats, Cond.code yX2_isNearBeats cX2_isNearBeats 3 (some .boolean), Cond.fieldLink RX2 15 "RamBook$Readings" "beatsRead" "[I", Cond.methodLink RX2 47 Lib.Math.abs.name, Cond.static Lib.Math.abs.name, Cond.code Lib.Math.abs.name Lib.Math.abs.code 1 (some .int), Cond.fieldLink RX2 25 "RamBook$Readings" "toleranceBeats" "I", Cond.methodLink RX2 44 yX2_isNearUp, Cond.instanceMethod yX2_isNearUp, Cond.selects RX2 yX2_isNearUp yX2_isNearUp, Cond.code yX2_isNearUp cX2_isNearUp 3 (some .boolean), Cond.fieldLink RX2 18 "RamBook$Readings" "upsRead" "[I", Cond.fieldLink RX2 28 "RamBook$Readings" "toleranceUp" "I", Cond.methodLink RX7 302 yX0_admit, Cond.instanceMethod yX0_admit, Cond.selects RX0 yX0_admit yX0_admit, Cond.code yX0_admit cX0_admit 3 none, Cond.methodLink RX7 277 yX0_onlyValueOf, Cond.instanceMethod yX0_onlyValueOf]
def wsX7_sure_r6 : List Cond := [Cond.selects RX0 yX0_onlyValueOf yX0_onlyValueOf, Cond.code yX0_onlyValueOf cX0_onlyValueOf 3 (some .int)]
def wsX7_sure : List Cond := .code yX7_sure cX7_sure 3 (some .int) :: ((wsX7_sure_r1 ++ (wsX7_sure_r2 ++ (wsX7_sure_r3 ++ (wsX7_sure_r4 ++ (wsX7_sure_r5 ++ wsX7_sure_r6))))) ++ wsX70 ++ wsX00 ++ wsX10 ++ wsX20)
def wsX7_count : List Cond := .code yX7_count cX7_count 2 (some .int) :: ([.fieldLink RX7 15 "RamBook" "ramCount" "I", .fieldLink RX7 34 "RamBook" "tunes" "LRamBook$Tunes;", .fieldLink RX7 160 "RamBook$Tunes" "size" "I", .fieldLink RX7 41 "RamBook" "farmRights" "LRamBook$Rights;", .fieldLink RX7 280 "RamBook$Rights" "items" "I", .fieldLink RX7 55 "RamBook" "readings" "LRamBook$Readings;", .fieldLink RX7 250 "RamBook$Readings" "size" "I", .fieldLink RX7 66 "RamBook" "nowMonth" "I", .fieldLink RX7 69 "RamBook" "nowDay" "I", .fieldLink RX7 72 "RamBook" "nowHour" "I", .fieldLink RX7 202 "RamBook$Rights" "draftLength" "I"] ++ wsX70 ++ wsX60 ++ wsX30 ++ wsX20)
def wsX7_trace : List Cond := .code yX7_trace cX7_trace 1 (some .long) :: ([.fieldLink RX7 75 "RamBook" "traced" "J"] ++ wsX70)
def wsX8_init : List Cond := .code yX8_init cX8_init 2 none :: ([.methodLink RX8 1 objectInit, .instanceMethod objectInit, .code objectInit ⟨#[0xb1]⟩ 1 none, .arrayClass .int, .fieldLink RX8 7 "RamBookModel" "ram" "[I", .fieldLink RX8 13 "RamBookModel" "now" "[I", .fieldLink RX8 16 "RamBookModel" "spring" "[I", .fieldLink RX8 19 "RamBookModel" "frost" "[I", .fieldLink RX8 22 "RamBookModel" "tuneWeight" "[I", .fieldLink RX8 25 "RamBookModel" "tuneStroke" "[I", .constant RX8 28 (50000), .fieldLink RX8 29 "RamBookModel" "room" "I", .fieldLink RX8 33 "RamBookModel" "draft" "[I", .fieldLink RX8 36 "RamBookModel" "item" "[I", .fieldLink RX8 39 "RamBookModel" "found" "[I", .arrayClass .long, .fieldLink RX8 42 "RamBookModel" "book" "[J", .fieldLink RX8 46 "RamBookModel" "readRam" "[I", .fieldLink RX8 49 "RamBookModel" "readBeats" "[I", .fieldLink RX8 52 "RamBookModel" "readUp" "[I", .fieldLink RX8 55 "RamBookModel" "toleranceBeats" "I", .fieldLink RX8 58 "RamBookModel" "toleranceUp" "I", .fieldLink RX8 61 "RamBookModel" "values" "[I"] ++ wsX80)
def wsX8_in : List Cond := .code yX8_in cX8_in 3 (some .boolean) :: ([])
def wsX8_isRam : List Cond := .code yX8_isRam cX8_isRam 2 (some .boolean) :: ([.fieldLink RX8 67 "RamBookModel" "rams" "I", .methodLink RX8 70 yX8_in, .static yX8_in, .initialized RX8, .code yX8_in cX8_in 3 (some .boolean)] ++ wsX80)
def wsX8_ram : List Cond := .code yX8_ram cX8_ram 7 (some .int) :: ([.fieldLink RX8 64 "RamBookModel" "thrown" "I", .fieldLink RX8 67 "RamBookModel" "rams" "I", .fieldLink RX8 7 "RamBookModel" "ram" "[I", .methodLink RX8 70 yX8_in, .static yX8_in, .initialized RX8, .code yX8_in cX8_in 3 (some .boolean)] ++ wsX80)
def wsX8_isValue : List Cond := .code yX8_isValue cX8_isValue 4 (some .boolean) :: ([.fieldLink RX8 7 "RamBookModel" "ram" "[I", .methodLink RX8 70 yX8_in, .static yX8_in, .initialized RX8, .code yX8_in cX8_in 3 (some .boolean)] ++ wsX80)
def wsX8_set : List Cond := .code yX8_set cX8_set 5 (some .int) :: ([.fieldLink RX8 64 "RamBookModel" "thrown" "I", .fieldLink RX8 7 "RamBookModel" "ram" "[I", .methodLink RX8 74 yX8_isRam, .instanceMethod yX8_isRam, .selects RX8 yX8_isRam yX8_isRam, .initialized RX8, .code yX8_isRam cX8_isRam 2 (some .boolean), .fieldLink RX8 67 "RamBookModel" "rams" "I", .methodLink RX8 70 yX8_in, .static yX8_in, .code yX8_in cX8_in 3 (some .boolean), .methodLink RX8 78 yX8_isValue, .instanceMethod yX8_isValue, .selects RX8 yX8_isValue yX8_isValue, .code yX8_isValue cX8_isValue 4 (some .boolean)] ++ wsX80)
def wsX8_about : List Cond := .code yX8_about cX8_about 3 (some .int) :: ([.fieldLink RX8 64 "RamBookModel" "thrown" "I", .fieldLink RX8 7 "RamBookModel" "ram" "[I", .methodLink RX8 74 yX8_isRam, .instanceMethod yX8_isRam, .selects RX8 yX8_isRam yX8_isRam, .initialized RX8, .code yX8_isRam cX8_isRam 2 (some .boolean), .fieldLink RX8 67 "RamBookModel" "rams" "I", .methodLink RX8 70 yX8_in, .static yX8_in, .code yX8_in cX8_in 3 (some .boolean)] ++ wsX80)
def wsX8_takes : List Cond := .code yX8_takes cX8_takes 3 none :: ([.fieldLink RX8 13 "RamBookModel" "now" "[I", .fieldLink RX8 7 "RamBookModel" "ram" "[I"] ++ wsX80)
def wsX8_workOf : List Cond := .code yX8_workOf cX8_workOf 3 (some .int) :: ([.fieldLink RX8 13 "RamBookModel" "now" "[I"] ++ wsX80)
def wsX8_work : List Cond := .code yX8_work cX8_work 3 (some .int) :: ([.fieldLink RX8 64 "RamBookModel" "thrown" "I", .fieldLink RX8 81 "RamBookModel" "trace" "J", .constantLong RX8 85 (11), .constantLong RX8 87 (111), .methodLink RX8 70 yX8_in, .static yX8_in, .initialized RX8, .code yX8_in cX8_in 3 (some .boolean), .methodLink RX8 74 yX8_isRam, .instanceMethod yX8_isRam, .selects RX8 yX8_isRam yX8_isRam, .code yX8_isRam cX8_isRam 2 (some .boolean), .fieldLink RX8 67 "RamBookModel" "rams" "I", .methodLink RX8 89 yX8_takes, .instanceMethod yX8_takes, .selects RX8 yX8_takes yX8_takes, .code yX8_takes cX8_takes 3 none, .fieldLink RX8 13 "RamBookModel" "now" "[I", .fieldLink RX8 7 "RamBookModel" "ram" "[I", .methodLink RX8 93 yX8_workOf, .instanceMethod yX8_workOf, .selects RX8 yX8_workOf yX8_workOf, .code yX8_workOf cX8_workOf 3 (some .int)] ++ wsX80)
def wsX8_beats : List Cond := .code yX8_beats cX8_beats 6 (some .boolean) :: ([.fieldLink RX8 13 "RamBookModel" "now" "[I", .fieldLink RX8 97 "RamBookModel" "speed" "J", .fieldLink RX8 100 "RamBookModel" "waste" "J", .fieldLink RX8 103 "RamBookModel" "up" "J", .fieldLink RX8 106 "RamBookModel" "tick" "I", .fieldLink RX8 109 "RamBookModel" "span" "I", .constantLong RX8 112 (100), .constantLong RX8 114 (50), .constantLong RX8 116 (19), .constantLong RX8 118 (20), .methodLink RX8 93 yX8_workOf, .instanceMethod yX8_workOf, .selects RX8 yX8_workOf yX8_workOf, .initialized RX8, .code yX8_workOf cX8_workOf 3 (some .int)] ++ wsX80)
def wsX8_beat_r1 : List Cond := [Cond.fieldLink RX8 64 "RamBookModel" "thrown" "I", Cond.fieldLink RX8 106 "RamBookModel" "tick" "I", Cond.fieldLink RX8 97 "RamBookModel" "speed" "J", Cond.fieldLink RX8 100 "RamBookModel" "waste" "J", Cond.fieldLink RX8 103 "RamBookModel" "up" "J", Cond.fieldLink RX8 109 "RamBookModel" "span" "I", Cond.methodLink RX8 74 yX8_isRam, Cond.instanceMethod yX8_isRam, Cond.selects RX8 yX8_isRam yX8_isRam, Cond.initialized RX8, Cond.code yX8_isRam cX8_isRam 2 (some .boolean), Cond.fieldLink RX8 67 "RamBookModel" "rams" "I", Cond.methodLink RX8 70 yX8_in, Cond.static yX8_in, Cond.code yX8_in cX8_in 3 (some .boolean), Cond.methodLink RX8 89 yX8_takes, Cond.instanceMethod yX8_takes, Cond.selects RX8 yX8_takes yX8_takes, Cond.code yX8_takes cX8_takes 3 none, Cond.fieldLink RX8 13 "RamBookModel" "now" "[I", Cond.fieldLink RX8 7 "RamBookModel" "ram" "[I", Cond.methodLink RX8 120 yX8_beats, Cond.instanceMethod yX8_beats, Cond.selects RX8 yX8_beats yX8_beats]
def wsX8_beat_r2 : List Cond := [Cond.code yX8_beats cX8_beats 6 (some .boolean), Cond.constantLong RX8 112 (100), Cond.constantLong RX8 114 (50), Cond.constantLong RX8 116 (19), Cond.constantLong RX8 118 (20), Cond.methodLink RX8 93 yX8_workOf, Cond.instanceMethod yX8_workOf, Cond.selects RX8 yX8_workOf yX8_workOf, Cond.code yX8_workOf cX8_workOf 3 (some .int)]
def wsX8_beat : List Cond := .code yX8_beat cX8_beat 3 (some .int) :: ((wsX8_beat_r1 ++ wsX8_beat_r2) ++ wsX80)
def wsX8_hourOf : List Cond := .code yX8_hourOf cX8_hourOf 3 (some .int) :: ([.fieldLink RX8 13 "RamBookModel" "now" "[I", .fieldLink RX8 109 "RamBookModel" "span" "I", .fieldLink RX8 100 "RamBookModel" "waste" "J", .fieldLink RX8 103 "RamBookModel" "up" "J", .methodLink RX8 120 yX8_beats, .instanceMethod yX8_beats, .selects RX8 yX8_beats yX8_beats, .initialized RX8, .code yX8_beats cX8_beats 6 (some .boolean), .fieldLink RX8 97 "RamBookModel" "speed" "J", .fieldLink RX8 106 "RamBookModel" "tick" "I", .constantLong RX8 112 (100), .constantLong RX8 114 (50), .constantLong RX8 116 (19), .constantLong RX8 118 (20), .methodLink RX8 93 yX8_workOf, .instanceMethod yX8_workOf, .selects RX8 yX8_workOf yX8_workOf, .code yX8_workOf cX8_workOf 3 (some .int)] ++ wsX80)
def wsX8_hourly_r1 : List Cond := [Cond.fieldLink RX8 64 "RamBookModel" "thrown" "I", Cond.methodLink RX8 74 yX8_isRam, Cond.instanceMethod yX8_isRam, Cond.selects RX8 yX8_isRam yX8_isRam, Cond.initialized RX8, Cond.code yX8_isRam cX8_isRam 2 (some .boolean), Cond.fieldLink RX8 67 "RamBookModel" "rams" "I", Cond.methodLink RX8 70 yX8_in, Cond.static yX8_in, Cond.code yX8_in cX8_in 3 (some .boolean), Cond.methodLink RX8 89 yX8_takes, Cond.instanceMethod yX8_takes, Cond.selects RX8 yX8_takes yX8_takes, Cond.code yX8_takes cX8_takes 3 none, Cond.fieldLink RX8 13 "RamBookModel" "now" "[I", Cond.fieldLink RX8 7 "RamBookModel" "ram" "[I", Cond.methodLink RX8 124 yX8_hourOf, Cond.instanceMethod yX8_hourOf, Cond.selects RX8 yX8_hourOf yX8_hourOf, Cond.code yX8_hourOf cX8_hourOf 3 (some .int), Cond.fieldLink RX8 109 "RamBookModel" "span" "I", Cond.fieldLink RX8 100 "RamBookModel" "waste" "J", Cond.fieldLink RX8 103 "RamBookModel" "up" "J", Cond.methodLink RX8 120 yX8_beats]
def wsX8_hourly_r2 : List Cond := [Cond.instanceMethod yX8_beats, Cond.selects RX8 yX8_beats yX8_beats, Cond.code yX8_beats cX8_beats 6 (some .boolean), Cond.fieldLink RX8 97 "RamBookModel" "speed" "J", Cond.fieldLink RX8 106 "RamBookModel" "tick" "I", Cond.constantLong RX8 112 (100), Cond.constantLong RX8 114 (50), Cond.constantLong RX8 116 (19), Cond.constantLong RX8 118 (20), Cond.methodLink RX8 93 yX8_workOf, Cond.instanceMethod yX8_workOf, Cond.selects RX8 yX8_workOf yX8_workOf, Cond.code yX8_workOf cX8_workOf 3 (some .int)]
def wsX8_hourly : List Cond := .code yX8_hourly cX8_hourly 3 (some .int) :: ((wsX8_hourly_r1 ++ wsX8_hourly_r2) ++ wsX80)
def wsX8_isMonth : List Cond := .code yX8_isMonth cX8_isMonth 1 (some .boolean) :: ([.methodLink RX8 70 yX8_in, .static yX8_in, .initialized RX8, .code yX8_in cX8_in 3 (some .boolean)])
def wsX8_spring : List Cond := .code yX8_spring cX8_spring 4 (some .int) :: ([.fieldLink RX8 64 "RamBookModel" "thrown" "I", .constant RX8 130 (1000000), .fieldLink RX8 16 "RamBookModel" "spring" "[I", .methodLink RX8 127 yX8_isMonth, .static yX8_isMonth, .initialized RX8, .code yX8_isMonth cX8_isMonth 1 (some .boolean), .methodLink RX8 70 yX8_in, .static yX8_in, .code yX8_in cX8_in 3 (some .boolean)] ++ wsX80)
def wsX8_tuned_r1 : List Cond := [Cond.fieldLink RX8 64 "RamBookModel" "thrown" "I", Cond.constantLong RX8 131 (-9), Cond.fieldLink RX8 13 "RamBookModel" "now" "[I", Cond.fieldLink RX8 103 "RamBookModel" "up" "J", Cond.fieldLink RX8 109 "RamBookModel" "span" "I", Cond.fieldLink RX8 100 "RamBookModel" "waste" "J", Cond.fieldLink RX8 16 "RamBookModel" "spring" "[I", Cond.methodLink RX8 74 yX8_isRam, Cond.instanceMethod yX8_isRam, Cond.selects RX8 yX8_isRam yX8_isRam, Cond.initialized RX8, Cond.code yX8_isRam cX8_isRam 2 (some .boolean), Cond.fieldLink RX8 67 "RamBookModel" "rams" "I", Cond.methodLink RX8 70 yX8_in, Cond.static yX8_in, Cond.code yX8_in cX8_in 3 (some .boolean), Cond.methodLink RX8 127 yX8_isMonth, Cond.static yX8_isMonth, Cond.code yX8_isMonth cX8_isMonth 1 (some .boolean), Cond.methodLink RX8 89 yX8_takes, Cond.instanceMethod yX8_takes, Cond.selects RX8 yX8_takes yX8_takes, Cond.code yX8_takes cX8_takes 3 none, Cond.fieldLink RX8 7 "RamBookModel" "ram" "[I"]
def wsX8_tuned_r2 : List Cond := [Cond.methodLink RX8 120 yX8_beats, Cond.instanceMethod yX8_beats, Cond.selects RX8 yX8_beats yX8_beats, Cond.code yX8_beats cX8_beats 6 (some .boolean), Cond.fieldLink RX8 97 "RamBookModel" "speed" "J", Cond.fieldLink RX8 106 "RamBookModel" "tick" "I", Cond.constantLong RX8 112 (100), Cond.constantLong RX8 114 (50), Cond.constantLong RX8 116 (19), Cond.constantLong RX8 118 (20), Cond.methodLink RX8 93 yX8_workOf, Cond.instanceMethod yX8_workOf, Cond.selects RX8 yX8_workOf yX8_workOf, Cond.code yX8_workOf cX8_workOf 3 (some .int)]
def wsX8_tuned : List Cond := .code yX8_tuned cX8_tuned 16 (some .int) :: ((wsX8_tuned_r1 ++ wsX8_tuned_r2) ++ wsX80)
def wsX8_tune : List Cond := .code yX8_tune cX8_tune 3 (some .int) :: ([.fieldLink RX8 64 "RamBookModel" "thrown" "I", .fieldLink RX8 133 "RamBookModel" "tunes" "I", .fieldLink RX8 22 "RamBookModel" "tuneWeight" "[I", .fieldLink RX8 25 "RamBookModel" "tuneStroke" "[I", .methodLink RX8 70 yX8_in, .static yX8_in, .initialized RX8, .code yX8_in cX8_in 3 (some .boolean)] ++ wsX80)
def wsX8_forget : List Cond := .code yX8_forget cX8_forget 2 (some .int) :: ([.fieldLink RX8 64 "RamBookModel" "thrown" "I", .fieldLink RX8 133 "RamBookModel" "tunes" "I"] ++ wsX80)
def wsX8_numbers : List Cond := .code yX8_numbers cX8_numbers 3 (some .int) :: ([.fieldLink RX8 67 "RamBookModel" "rams" "I"] ++ wsX80)
def wsX8_side_r1 : List Cond := [Cond.fieldLink RX8 64 "RamBookModel" "thrown" "I", Cond.constantLong RX8 136 (-1), Cond.fieldLink RX8 67 "RamBookModel" "rams" "I", Cond.fieldLink RX8 133 "RamBookModel" "tunes" "I", Cond.fieldLink RX8 13 "RamBookModel" "now" "[I", Cond.fieldLink RX8 22 "RamBookModel" "tuneWeight" "[I", Cond.fieldLink RX8 25 "RamBookModel" "tuneStroke" "[I", Cond.fieldLink RX8 109 "RamBookModel" "span" "I", Cond.fieldLink RX8 103 "RamBookModel" "up" "J", Cond.fieldLink RX8 100 "RamBookModel" "waste" "J", Cond.fieldLink RX8 16 "RamBookModel" "spring" "[I", Cond.methodLink RX8 127 yX8_isMonth, Cond.static yX8_isMonth, Cond.initialized RX8, Cond.code yX8_isMonth cX8_isMonth 1 (some .boolean), Cond.methodLink RX8 70 yX8_in, Cond.static yX8_in, Cond.code yX8_in cX8_in 3 (some .boolean), Cond.methodLink RX8 138 yX8_numbers, Cond.instanceMethod yX8_numbers, Cond.selects RX8 yX8_numbers yX8_numbers, Cond.code yX8_numbers cX8_numbers 3 (some .int), Cond.methodLink RX8 89 yX8_takes, Cond.instanceMethod yX8_takes]
def wsX8_side_r2 : List Cond := [Cond.selects RX8 yX8_takes yX8_takes, Cond.code yX8_takes cX8_takes 3 none, Cond.fieldLink RX8 7 "RamBookModel" "ram" "[I", Cond.methodLink RX8 120 yX8_beats, Cond.instanceMethod yX8_beats, Cond.selects RX8 yX8_beats yX8_beats, Cond.code yX8_beats cX8_beats 6 (some .boolean), Cond.fieldLink RX8 97 "RamBookModel" "speed" "J", Cond.fieldLink RX8 106 "RamBookModel" "tick" "I", Cond.constantLong RX8 112 (100), Cond.constantLong RX8 114 (50), Cond.constantLong RX8 116 (19), Cond.constantLong RX8 118 (20), Cond.methodLink RX8 93 yX8_workOf, Cond.instanceMethod yX8_workOf, Cond.selects RX8 yX8_workOf yX8_workOf, Cond.code yX8_workOf cX8_workOf 3 (some .int)]
def wsX8_side : List Cond := .code yX8_side cX8_side 15 (some .int) :: ((wsX8_side_r1 ++ wsX8_side_r2) ++ wsX80)
def wsX8_take : List Cond := .code yX8_take cX8_take 6 (some .int) :: ([.fieldLink RX8 64 "RamBookModel" "thrown" "I", .fieldLink RX8 67 "RamBookModel" "rams" "I", .fieldLink RX8 133 "RamBookModel" "tunes" "I", .fieldLink RX8 7 "RamBookModel" "ram" "[I", .fieldLink RX8 22 "RamBookModel" "tuneWeight" "[I", .fieldLink RX8 25 "RamBookModel" "tuneStroke" "[I", .methodLink RX8 138 yX8_numbers, .instanceMethod yX8_numbers, .selects RX8 yX8_numbers yX8_numbers, .initialized RX8, .code yX8_numbers cX8_numbers 3 (some .int), .methodLink RX8 70 yX8_in, .static yX8_in, .code yX8_in cX8_in 3 (some .boolean)] ++ wsX80)
def wsX8_frost : List Cond := .code yX8_frost cX8_frost 4 (some .int) :: ([.fieldLink RX8 64 "RamBookModel" "thrown" "I", .fieldLink RX8 19 "RamBookModel" "frost" "[I", .methodLink RX8 127 yX8_isMonth, .static yX8_isMonth, .initialized RX8, .code yX8_isMonth cX8_isMonth 1 (some .boolean), .methodLink RX8 70 yX8_in, .static yX8_in, .code yX8_in cX8_in 3 (some .boolean)] ++ wsX80)
def wsX8_silence : List Cond := .code yX8_silence cX8_silence 3 (some .int) :: ([.fieldLink RX8 64 "RamBookModel" "thrown" "I", .fieldLink RX8 142 "RamBookModel" "silentFrom" "I", .fieldLink RX8 145 "RamBookModel" "silentTo" "I", .methodLink RX8 70 yX8_in, .static yX8_in, .initialized RX8, .code yX8_in cX8_in 3 (some .boolean)] ++ wsX80)
def wsX8_tank : List Cond := .code yX8_tank cX8_tank 4 (some .int) :: ([.fieldLink RX8 64 "RamBookModel" "thrown" "I", .constant RX8 130 (1000000), .fieldLink RX8 29 "RamBookModel" "room" "I", .fieldLink RX8 148 "RamBookModel" "holds" "I", .methodLink RX8 70 yX8_in, .static yX8_in, .initialized RX8, .code yX8_in cX8_in 3 (some .boolean)] ++ wsX80)
def wsX8_type : List Cond := .code yX8_type cX8_type 5 (some .int) :: ([.fieldLink RX8 64 "RamBookModel" "thrown" "I", .fieldLink RX8 151 "RamBookModel" "typed" "I", .fieldLink RX8 33 "RamBookModel" "draft" "[I", .constantLong RX8 154 (255), .methodLink RX8 70 yX8_in, .static yX8_in, .initialized RX8, .code yX8_in cX8_in 3 (some .boolean)] ++ wsX80)
def wsX8_clear : List Cond := .code yX8_clear cX8_clear 2 (some .int) :: ([.fieldLink RX8 64 "RamBookModel" "thrown" "I", .fieldLink RX8 151 "RamBookModel" "typed" "I"] ++ wsX80)
def wsX8_byteAt : List Cond := .code yX8_byteAt cX8_byteAt 1 (some .int) :: ([.fieldLink RX8 156 "RamBookModel" "at" "I", .fieldLink RX8 151 "RamBookModel" "typed" "I", .fieldLink RX8 33 "RamBookModel" "draft" "[I"] ++ wsX80)
def wsX8_sign : List Cond := .code yX8_sign cX8_sign 2 (some .boolean) :: ([.fieldLink RX8 156 "RamBookModel" "at" "I", .fieldLink RX8 162 "RamBookModel" "fault" "I", .methodLink RX8 159 yX8_byteAt, .instanceMethod yX8_byteAt, .selects RX8 yX8_byteAt yX8_byteAt, .initialized RX8, .code yX8_byteAt cX8_byteAt 1 (some .int), .fieldLink RX8 151 "RamBookModel" "typed" "I", .fieldLink RX8 33 "RamBookModel" "draft" "[I"] ++ wsX80)
def wsX8_reads : List Cond := .code yX8_reads cX8_reads 6 (some .boolean) :: ([.fieldLink RX8 156 "RamBookModel" "at" "I", .fieldLink RX8 162 "RamBookModel" "fault" "I", .fieldLink RX8 165 "RamBookModel" "number" "I", .methodLink RX8 159 yX8_byteAt, .instanceMethod yX8_byteAt, .selects RX8 yX8_byteAt yX8_byteAt, .initialized RX8, .code yX8_byteAt cX8_byteAt 1 (some .int), .fieldLink RX8 151 "RamBookModel" "typed" "I", .fieldLink RX8 33 "RamBookModel" "draft" "[I", .methodLink RX8 70 yX8_in, .static yX8_in, .code yX8_in cX8_in 3 (some .boolean)] ++ wsX80)
def wsX8_readsItem : List Cond := .code yX8_readsItem cX8_readsItem 2 (some .boolean) :: ([.fieldLink RX8 156 "RamBookModel" "at" "I", .fieldLink RX8 162 "RamBookModel" "fault" "I", .fieldLink RX8 39 "RamBookModel" "found" "[I", .fieldLink RX8 165 "RamBookModel" "number" "I", .methodLink RX8 168 yX8_sign, .instanceMethod yX8_sign, .selects RX8 yX8_sign yX8_sign, .initialized RX8, .code yX8_sign cX8_sign 2 (some .boolean), .methodLink RX8 159 yX8_byteAt, .instanceMethod yX8_byteAt, .selects RX8 yX8_byteAt yX8_byteAt, .code yX8_byteAt cX8_byteAt 1 (some .int), .fieldLink RX8 151 "RamBookModel" "typed" "I", .fieldLink RX8 33 "RamBookModel" "draft" "[I", .methodLink RX8 70 yX8_in, .static yX8_in, .code yX8_in cX8_in 3 (some .boolean), .methodLink RX8 171 yX8_reads, .instanceMethod yX8_reads, .selects RX8 yX8_reads yX8_reads, .code yX8_reads cX8_reads 6 (some .boolean)] ++ wsX80)
def wsX8_rights_r1 : List Cond := [Cond.fieldLink RX8 64 "RamBookModel" "thrown" "I", Cond.fieldLink RX8 156 "RamBookModel" "at" "I", Cond.fieldLink RX8 151 "RamBookModel" "typed" "I", Cond.fieldLink RX8 162 "RamBookModel" "fault" "I", Cond.fieldLink RX8 36 "RamBookModel" "item" "[I", Cond.fieldLink RX8 39 "RamBookModel" "found" "[I", Cond.fieldLink RX8 177 "RamBookModel" "items" "I", Cond.methodLink RX8 174 yX8_readsItem, Cond.instanceMethod yX8_readsItem, Cond.selects RX8 yX8_readsItem yX8_readsItem, Cond.initialized RX8, Cond.code yX8_readsItem cX8_readsItem 2 (some .boolean), Cond.fieldLink RX8 165 "RamBookModel" "number" "I", Cond.methodLink RX8 168 yX8_sign, Cond.instanceMethod yX8_sign, Cond.selects RX8 yX8_sign yX8_sign, Cond.code yX8_sign cX8_sign 2 (some .boolean), Cond.methodLink RX8 159 yX8_byteAt, Cond.instanceMethod yX8_byteAt, Cond.selects RX8 yX8_byteAt yX8_byteAt, Cond.code yX8_byteAt cX8_byteAt 1 (some .int), Cond.fieldLink RX8 33 "RamBookModel" "draft" "[I", Cond.methodLink RX8 70 yX8_in, Cond.static yX8_in]
def wsX8_rights_r2 : List Cond := [Cond.code yX8_in cX8_in 3 (some .boolean), Cond.methodLink RX8 171 yX8_reads, Cond.instanceMethod yX8_reads, Cond.selects RX8 yX8_reads yX8_reads, Cond.code yX8_reads cX8_reads 6 (some .boolean)]
def wsX8_rights : List Cond := .code yX8_rights cX8_rights 3 (some .int) :: ((wsX8_rights_r1 ++ wsX8_rights_r2) ++ wsX80)
def wsX8_rightOf : List Cond := .code yX8_rightOf cX8_rightOf 5 (some .int) :: ([.fieldLink RX8 177 "RamBookModel" "items" "I", .fieldLink RX8 36 "RamBookModel" "item" "[I"] ++ wsX80)
def wsX8_right : List Cond := .code yX8_right cX8_right 3 (some .int) :: ([.fieldLink RX8 64 "RamBookModel" "thrown" "I", .methodLink RX8 70 yX8_in, .static yX8_in, .initialized RX8, .code yX8_in cX8_in 3 (some .boolean), .methodLink RX8 180 yX8_rightOf, .instanceMethod yX8_rightOf, .selects RX8 yX8_rightOf yX8_rightOf, .code yX8_rightOf cX8_rightOf 5 (some .int), .fieldLink RX8 177 "RamBookModel" "items" "I", .fieldLink RX8 36 "RamBookModel" "item" "[I"] ++ wsX80)
def wsX8_goes_r1 : List Cond := [Cond.fieldLink RX8 16 "RamBookModel" "spring" "[I", Cond.fieldLink RX8 184 "RamBookModel" "month" "I", Cond.fieldLink RX8 187 "RamBookModel" "hour" "I", Cond.fieldLink RX8 142 "RamBookModel" "silentFrom" "I", Cond.fieldLink RX8 145 "RamBookModel" "silentTo" "I", Cond.fieldLink RX8 67 "RamBookModel" "rams" "I", Cond.fieldLink RX8 13 "RamBookModel" "now" "[I", Cond.fieldLink RX8 19 "RamBookModel" "frost" "[I", Cond.fieldLink RX8 106 "RamBookModel" "tick" "I", Cond.fieldLink RX8 42 "RamBookModel" "book" "[J", Cond.fieldLink RX8 148 "RamBookModel" "holds" "I", Cond.fieldLink RX8 29 "RamBookModel" "room" "I", Cond.fieldLink RX8 7 "RamBookModel" "ram" "[I", Cond.fieldLink RX8 190 "RamBookModel" "day" "I", Cond.methodLink RX8 89 yX8_takes, Cond.instanceMethod yX8_takes, Cond.selects RX8 yX8_takes yX8_takes, Cond.initialized RX8, Cond.code yX8_takes cX8_takes 3 none, Cond.methodLink RX8 124 yX8_hourOf, Cond.instanceMethod yX8_hourOf, Cond.selects RX8 yX8_hourOf yX8_hourOf, Cond.code yX8_hourOf cX8_hourOf 3 (some .int), Cond.fieldLink RX8 109 "RamBookModel" "span" "I"]
def wsX8_goes_r2 : List Cond := [Cond.fieldLink RX8 100 "RamBookModel" "waste" "J", Cond.fieldLink RX8 103 "RamBookModel" "up" "J", Cond.methodLink RX8 120 yX8_beats, Cond.instanceMethod yX8_beats, Cond.selects RX8 yX8_beats yX8_beats, Cond.code yX8_beats cX8_beats 6 (some .boolean), Cond.fieldLink RX8 97 "RamBookModel" "speed" "J", Cond.constantLong RX8 112 (100), Cond.constantLong RX8 114 (50), Cond.constantLong RX8 116 (19), Cond.constantLong RX8 118 (20), Cond.methodLink RX8 93 yX8_workOf, Cond.instanceMethod yX8_workOf, Cond.selects RX8 yX8_workOf yX8_workOf, Cond.code yX8_workOf cX8_workOf 3 (some .int), Cond.methodLink RX8 180 yX8_rightOf, Cond.instanceMethod yX8_rightOf, Cond.selects RX8 yX8_rightOf yX8_rightOf, Cond.code yX8_rightOf cX8_rightOf 5 (some .int), Cond.fieldLink RX8 177 "RamBookModel" "items" "I", Cond.fieldLink RX8 36 "RamBookModel" "item" "[I"]
def wsX8_goes : List Cond := .code yX8_goes cX8_goes 9 (some .int) :: ((wsX8_goes_r1 ++ wsX8_goes_r2) ++ wsX80)
def wsX8_hours_r1 : List Cond := [Cond.fieldLink RX8 64 "RamBookModel" "thrown" "I", Cond.methodLink RX8 70 yX8_in, Cond.static yX8_in, Cond.initialized RX8, Cond.code yX8_in cX8_in 3 (some .boolean), Cond.methodLink RX8 193 yX8_goes, Cond.instanceMethod yX8_goes, Cond.selects RX8 yX8_goes yX8_goes, Cond.code yX8_goes cX8_goes 9 (some .int), Cond.fieldLink RX8 16 "RamBookModel" "spring" "[I", Cond.fieldLink RX8 184 "RamBookModel" "month" "I", Cond.fieldLink RX8 187 "RamBookModel" "hour" "I", Cond.fieldLink RX8 142 "RamBookModel" "silentFrom" "I", Cond.fieldLink RX8 145 "RamBookModel" "silentTo" "I", Cond.fieldLink RX8 67 "RamBookModel" "rams" "I", Cond.fieldLink RX8 13 "RamBookModel" "now" "[I", Cond.fieldLink RX8 19 "RamBookModel" "frost" "[I", Cond.fieldLink RX8 106 "RamBookModel" "tick" "I", Cond.fieldLink RX8 42 "RamBookModel" "book" "[J", Cond.fieldLink RX8 148 "RamBookModel" "holds" "I", Cond.fieldLink RX8 29 "RamBookModel" "room" "I", Cond.fieldLink RX8 7 "RamBookModel" "ram" "[I", Cond.fieldLink RX8 190 "RamBookModel" "day" "I", Cond.methodLink RX8 89 yX8_takes]
def wsX8_hours_r2 : List Cond := [Cond.instanceMethod yX8_takes, Cond.selects RX8 yX8_takes yX8_takes, Cond.code yX8_takes cX8_takes 3 none, Cond.methodLink RX8 124 yX8_hourOf, Cond.instanceMethod yX8_hourOf, Cond.selects RX8 yX8_hourOf yX8_hourOf, Cond.code yX8_hourOf cX8_hourOf 3 (some .int), Cond.fieldLink RX8 109 "RamBookModel" "span" "I", Cond.fieldLink RX8 100 "RamBookModel" "waste" "J", Cond.fieldLink RX8 103 "RamBookModel" "up" "J", Cond.methodLink RX8 120 yX8_beats, Cond.instanceMethod yX8_beats, Cond.selects RX8 yX8_beats yX8_beats, Cond.code yX8_beats cX8_beats 6 (some .boolean), Cond.fieldLink RX8 97 "RamBookModel" "speed" "J", Cond.constantLong RX8 112 (100), Cond.constantLong RX8 114 (50), Cond.constantLong RX8 116 (19), Cond.constantLong RX8 118 (20), Cond.methodLink RX8 93 yX8_workOf, Cond.instanceMethod yX8_workOf, Cond.selects RX8 yX8_workOf yX8_workOf, Cond.code yX8_workOf cX8_workOf 3 (some .int), Cond.methodLink RX8 180 yX8_rightOf]
def wsX8_hours_r3 : List Cond := [Cond.instanceMethod yX8_rightOf, Cond.selects RX8 yX8_rightOf yX8_rightOf, Cond.code yX8_rightOf cX8_rightOf 5 (some .int), Cond.fieldLink RX8 177 "RamBookModel" "items" "I", Cond.fieldLink RX8 36 "RamBookModel" "item" "[I"]
def wsX8_hours : List Cond := .code yX8_hours cX8_hours 4 (some .int) :: ((wsX8_hours_r1 ++ (wsX8_hours_r2 ++ wsX8_hours_r3)) ++ wsX80)
def wsX8_book : List Cond := .code yX8_book cX8_book 2 (some .long) :: ([.fieldLink RX8 64 "RamBookModel" "thrown" "I", .constantLong RX8 136 (-1), .fieldLink RX8 148 "RamBookModel" "holds" "I", .fieldLink RX8 42 "RamBookModel" "book" "[J", .methodLink RX8 70 yX8_in, .static yX8_in, .initialized RX8, .code yX8_in cX8_in 3 (some .boolean)] ++ wsX80)
def wsX8_isRead : List Cond := .code yX8_isRead cX8_isRead 1 (some .boolean) :: ([.constant RX8 130 (1000000), .methodLink RX8 70 yX8_in, .static yX8_in, .initialized RX8, .code yX8_in cX8_in 3 (some .boolean)])
def wsX8_read : List Cond := .code yX8_read cX8_read 4 (some .int) :: ([.fieldLink RX8 64 "RamBookModel" "thrown" "I", .fieldLink RX8 199 "RamBookModel" "readings" "I", .fieldLink RX8 46 "RamBookModel" "readRam" "[I", .fieldLink RX8 49 "RamBookModel" "readBeats" "[I", .fieldLink RX8 52 "RamBookModel" "readUp" "[I", .methodLink RX8 74 yX8_isRam, .instanceMethod yX8_isRam, .selects RX8 yX8_isRam yX8_isRam, .initialized RX8, .code yX8_isRam cX8_isRam 2 (some .boolean), .fieldLink RX8 67 "RamBookModel" "rams" "I", .methodLink RX8 70 yX8_in, .static yX8_in, .code yX8_in cX8_in 3 (some .boolean), .methodLink RX8 196 yX8_isRead, .static yX8_isRead, .code yX8_isRead cX8_isRead 1 (some .boolean), .constant RX8 130 (1000000)] ++ wsX80)
def wsX8_wipe : List Cond := .code yX8_wipe cX8_wipe 2 (some .int) :: ([.fieldLink RX8 64 "RamBookModel" "thrown" "I", .fieldLink RX8 199 "RamBookModel" "readings" "I"] ++ wsX80)
def wsX8_tolerance : List Cond := .code yX8_tolerance cX8_tolerance 4 (some .int) :: ([.fieldLink RX8 64 "RamBookModel" "thrown" "I", .fieldLink RX8 55 "RamBookModel" "toleranceBeats" "I", .fieldLink RX8 58 "RamBookModel" "toleranceUp" "I", .methodLink RX8 70 yX8_in, .static yX8_in, .initialized RX8, .code yX8_in cX8_in 3 (some .boolean)] ++ wsX80)
def wsX8_valueOf : List Cond := .code yX8_valueOf cX8_valueOf 2 (some .int) :: ([])
def wsX8_isFit_r1 : List Cond := [Cond.fieldLink RX8 13 "RamBookModel" "now" "[I", Cond.fieldLink RX8 199 "RamBookModel" "readings" "I", Cond.fieldLink RX8 46 "RamBookModel" "readRam" "[I", Cond.fieldLink RX8 49 "RamBookModel" "readBeats" "[I", Cond.fieldLink RX8 55 "RamBookModel" "toleranceBeats" "I", Cond.fieldLink RX8 52 "RamBookModel" "readUp" "[I", Cond.fieldLink RX8 58 "RamBookModel" "toleranceUp" "I", Cond.constantLong RX8 112 (100), Cond.methodLink RX8 89 yX8_takes, Cond.instanceMethod yX8_takes, Cond.selects RX8 yX8_takes yX8_takes, Cond.initialized RX8, Cond.code yX8_takes cX8_takes 3 none, Cond.fieldLink RX8 7 "RamBookModel" "ram" "[I", Cond.methodLink RX8 202 yX8_valueOf, Cond.static yX8_valueOf, Cond.code yX8_valueOf cX8_valueOf 2 (some .int), Cond.methodLink RX8 124 yX8_hourOf, Cond.instanceMethod yX8_hourOf, Cond.selects RX8 yX8_hourOf yX8_hourOf, Cond.code yX8_hourOf cX8_hourOf 3 (some .int), Cond.fieldLink RX8 109 "RamBookModel" "span" "I", Cond.fieldLink RX8 100 "RamBookModel" "waste" "J", Cond.fieldLink RX8 103 "RamBookModel" "up" "J"]
def wsX8_isFit_r2 : List Cond := [Cond.methodLink RX8 120 yX8_beats, Cond.instanceMethod yX8_beats, Cond.selects RX8 yX8_beats yX8_beats, Cond.code yX8_beats cX8_beats 6 (some .boolean), Cond.fieldLink RX8 97 "RamBookModel" "speed" "J", Cond.fieldLink RX8 106 "RamBookModel" "tick" "I", Cond.constantLong RX8 114 (50), Cond.constantLong RX8 116 (19), Cond.constantLong RX8 118 (20), Cond.methodLink RX8 93 yX8_workOf, Cond.instanceMethod yX8_workOf, Cond.selects RX8 yX8_workOf yX8_workOf, Cond.code yX8_workOf cX8_workOf 3 (some .int), Cond.methodLink RX8 70 yX8_in, Cond.static yX8_in, Cond.code yX8_in cX8_in 3 (some .boolean)]
def wsX8_isFit : List Cond := .code yX8_isFit cX8_isFit 9 (some .boolean) :: ((wsX8_isFit_r1 ++ wsX8_isFit_r2) ++ wsX80)
def wsX8_fits_r1 : List Cond := [Cond.fieldLink RX8 64 "RamBookModel" "thrown" "I", Cond.methodLink RX8 74 yX8_isRam, Cond.instanceMethod yX8_isRam, Cond.selects RX8 yX8_isRam yX8_isRam, Cond.initialized RX8, Cond.code yX8_isRam cX8_isRam 2 (some .boolean), Cond.fieldLink RX8 67 "RamBookModel" "rams" "I", Cond.methodLink RX8 70 yX8_in, Cond.static yX8_in, Cond.code yX8_in cX8_in 3 (some .boolean), Cond.methodLink RX8 205 yX8_isFit, Cond.instanceMethod yX8_isFit, Cond.selects RX8 yX8_isFit yX8_isFit, Cond.code yX8_isFit cX8_isFit 9 (some .boolean), Cond.fieldLink RX8 13 "RamBookModel" "now" "[I", Cond.fieldLink RX8 199 "RamBookModel" "readings" "I", Cond.fieldLink RX8 46 "RamBookModel" "readRam" "[I", Cond.fieldLink RX8 49 "RamBookModel" "readBeats" "[I", Cond.fieldLink RX8 55 "RamBookModel" "toleranceBeats" "I", Cond.fieldLink RX8 52 "RamBookModel" "readUp" "[I", Cond.fieldLink RX8 58 "RamBookModel" "toleranceUp" "I", Cond.constantLong RX8 112 (100), Cond.methodLink RX8 89 yX8_takes, Cond.instanceMethod yX8_takes]
def wsX8_fits_r2 : List Cond := [Cond.selects RX8 yX8_takes yX8_takes, Cond.code yX8_takes cX8_takes 3 none, Cond.fieldLink RX8 7 "RamBookModel" "ram" "[I", Cond.methodLink RX8 202 yX8_valueOf, Cond.static yX8_valueOf, Cond.code yX8_valueOf cX8_valueOf 2 (some .int), Cond.methodLink RX8 124 yX8_hourOf, Cond.instanceMethod yX8_hourOf, Cond.selects RX8 yX8_hourOf yX8_hourOf, Cond.code yX8_hourOf cX8_hourOf 3 (some .int), Cond.fieldLink RX8 109 "RamBookModel" "span" "I", Cond.fieldLink RX8 100 "RamBookModel" "waste" "J", Cond.fieldLink RX8 103 "RamBookModel" "up" "J", Cond.methodLink RX8 120 yX8_beats, Cond.instanceMethod yX8_beats, Cond.selects RX8 yX8_beats yX8_beats, Cond.code yX8_beats cX8_beats 6 (some .boolean), Cond.fieldLink RX8 97 "RamBookModel" "speed" "J", Cond.fieldLink RX8 106 "RamBookModel" "tick" "I", Cond.constantLong RX8 114 (50), Cond.constantLong RX8 116 (19), Cond.constantLong RX8 118 (20), Cond.methodLink RX8 93 yX8_workOf, Cond.instanceMethod yX8_workOf]
def wsX8_fits_r3 : List Cond := [Cond.selects RX8 yX8_workOf yX8_workOf, Cond.code yX8_workOf cX8_workOf 3 (some .int)]
def wsX8_fits : List Cond := .code yX8_fits cX8_fits 3 (some .int) :: ((wsX8_fits_r1 ++ (wsX8_fits_r2 ++ wsX8_fits_r3)) ++ wsX80)
def wsX8_ails_r1 : List Cond := [Cond.fieldLink RX8 64 "RamBookModel" "thrown" "I", Cond.fieldLink RX8 61 "RamBookModel" "values" "[I", Cond.methodLink RX8 74 yX8_isRam, Cond.instanceMethod yX8_isRam, Cond.selects RX8 yX8_isRam yX8_isRam, Cond.initialized RX8, Cond.code yX8_isRam cX8_isRam 2 (some .boolean), Cond.fieldLink RX8 67 "RamBookModel" "rams" "I", Cond.methodLink RX8 70 yX8_in, Cond.static yX8_in, Cond.code yX8_in cX8_in 3 (some .boolean), Cond.methodLink RX8 205 yX8_isFit, Cond.instanceMethod yX8_isFit, Cond.selects RX8 yX8_isFit yX8_isFit, Cond.code yX8_isFit cX8_isFit 9 (some .boolean), Cond.fieldLink RX8 13 "RamBookModel" "now" "[I", Cond.fieldLink RX8 199 "RamBookModel" "readings" "I", Cond.fieldLink RX8 46 "RamBookModel" "readRam" "[I", Cond.fieldLink RX8 49 "RamBookModel" "readBeats" "[I", Cond.fieldLink RX8 55 "RamBookModel" "toleranceBeats" "I", Cond.fieldLink RX8 52 "RamBookModel" "readUp" "[I", Cond.fieldLink RX8 58 "RamBookModel" "toleranceUp" "I", Cond.constantLong RX8 112 (100), Cond.methodLink RX8 89 yX8_takes]
def wsX8_ails_r2 : List Cond := [Cond.instanceMethod yX8_takes, Cond.selects RX8 yX8_takes yX8_takes, Cond.code yX8_takes cX8_takes 3 none, Cond.fieldLink RX8 7 "RamBookModel" "ram" "[I", Cond.methodLink RX8 202 yX8_valueOf, Cond.static yX8_valueOf, Cond.code yX8_valueOf cX8_valueOf 2 (some .int), Cond.methodLink RX8 124 yX8_hourOf, Cond.instanceMethod yX8_hourOf, Cond.selects RX8 yX8_hourOf yX8_hourOf, Cond.code yX8_hourOf cX8_hourOf 3 (some .int), Cond.fieldLink RX8 109 "RamBookModel" "span" "I", Cond.fieldLink RX8 100 "RamBookModel" "waste" "J", Cond.fieldLink RX8 103 "RamBookModel" "up" "J", Cond.methodLink RX8 120 yX8_beats, Cond.instanceMethod yX8_beats, Cond.selects RX8 yX8_beats yX8_beats, Cond.code yX8_beats cX8_beats 6 (some .boolean), Cond.fieldLink RX8 97 "RamBookModel" "speed" "J", Cond.fieldLink RX8 106 "RamBookModel" "tick" "I", Cond.constantLong RX8 114 (50), Cond.constantLong RX8 116 (19), Cond.constantLong RX8 118 (20), Cond.methodLink RX8 93 yX8_workOf]
def wsX8_ails_r3 : List Cond := [Cond.instanceMethod yX8_workOf, Cond.selects RX8 yX8_workOf yX8_workOf, Cond.code yX8_workOf cX8_workOf 3 (some .int)]
def wsX8_ails : List Cond := .code yX8_ails cX8_ails 11 (some .int) :: ((wsX8_ails_r1 ++ (wsX8_ails_r2 ++ wsX8_ails_r3)) ++ wsX80)
def wsX8_sure_r1 : List Cond := [Cond.fieldLink RX8 64 "RamBookModel" "thrown" "I", Cond.methodLink RX8 74 yX8_isRam, Cond.instanceMethod yX8_isRam, Cond.selects RX8 yX8_isRam yX8_isRam, Cond.initialized RX8, Cond.code yX8_isRam cX8_isRam 2 (some .boolean), Cond.fieldLink RX8 67 "RamBookModel" "rams" "I", Cond.methodLink RX8 70 yX8_in, Cond.static yX8_in, Cond.code yX8_in cX8_in 3 (some .boolean), Cond.methodLink RX8 205 yX8_isFit, Cond.instanceMethod yX8_isFit, Cond.selects RX8 yX8_isFit yX8_isFit, Cond.code yX8_isFit cX8_isFit 9 (some .boolean), Cond.fieldLink RX8 13 "RamBookModel" "now" "[I", Cond.fieldLink RX8 199 "RamBookModel" "readings" "I", Cond.fieldLink RX8 46 "RamBookModel" "readRam" "[I", Cond.fieldLink RX8 49 "RamBookModel" "readBeats" "[I", Cond.fieldLink RX8 55 "RamBookModel" "toleranceBeats" "I", Cond.fieldLink RX8 52 "RamBookModel" "readUp" "[I", Cond.fieldLink RX8 58 "RamBookModel" "toleranceUp" "I", Cond.constantLong RX8 112 (100), Cond.methodLink RX8 89 yX8_takes, Cond.instanceMethod yX8_takes]
def wsX8_sure_r2 : List Cond := [Cond.selects RX8 yX8_takes yX8_takes, Cond.code yX8_takes cX8_takes 3 none, Cond.fieldLink RX8 7 "RamBookModel" "ram" "[I", Cond.methodLink RX8 202 yX8_valueOf, Cond.static yX8_valueOf, Cond.code yX8_valueOf cX8_valueOf 2 (some .int), Cond.methodLink RX8 124 yX8_hourOf, Cond.instanceMethod yX8_hourOf, Cond.selects RX8 yX8_hourOf yX8_hourOf, Cond.code yX8_hourOf cX8_hourOf 3 (some .int), Cond.fieldLink RX8 109 "RamBookModel" "span" "I", Cond.fieldLink RX8 100 "RamBookModel" "waste" "J", Cond.fieldLink RX8 103 "RamBookModel" "up" "J", Cond.methodLink RX8 120 yX8_beats, Cond.instanceMethod yX8_beats, Cond.selects RX8 yX8_beats yX8_beats, Cond.code yX8_beats cX8_beats 6 (some .boolean), Cond.fieldLink RX8 97 "RamBookModel" "speed" "J", Cond.fieldLink RX8 106 "RamBookModel" "tick" "I", Cond.constantLong RX8 114 (50), Cond.constantLong RX8 116 (19), Cond.constantLong RX8 118 (20), Cond.methodLink RX8 93 yX8_workOf, Cond.instanceMethod yX8_workOf]
def wsX8_sure_r3 : List Cond := [Cond.selects RX8 yX8_workOf yX8_workOf, Cond.code yX8_workOf cX8_workOf 3 (some .int)]
def wsX8_sure : List Cond := .code yX8_sure cX8_sure 5 (some .int) :: ((wsX8_sure_r1 ++ (wsX8_sure_r2 ++ wsX8_sure_r3)) ++ wsX80)
def wsX8_count : List Cond := .code yX8_count cX8_count 2 (some .int) :: ([.fieldLink RX8 64 "RamBookModel" "thrown" "I", .fieldLink RX8 67 "RamBookModel" "rams" "I", .fieldLink RX8 133 "RamBookModel" "tunes" "I", .fieldLink RX8 177 "RamBookModel" "items" "I", .fieldLink RX8 199 "RamBookModel" "readings" "I", .fieldLink RX8 184 "RamBookModel" "month" "I", .fieldLink RX8 190 "RamBookModel" "day" "I", .fieldLink RX8 187 "RamBookModel" "hour" "I", .fieldLink RX8 151 "RamBookModel" "typed" "I"] ++ wsX80)
def wsX8_trace : List Cond := .code yX8_trace cX8_trace 1 (some .long) :: ([.fieldLink RX8 64 "RamBookModel" "thrown" "I", .fieldLink RX8 81 "RamBookModel" "trace" "J"] ++ wsX80)
def wsJ9_abs_0f7a4 : List Cond := .code yJ9_abs_0f7a4 cJ9_abs_0f7a4 1 (some .int) :: ([])
def wsJ9_max_7cf53 : List Cond := .code yJ9_max_7cf53 cJ9_max_7cf53 2 (some .int) :: ([])
def wsJ9_min_7cf53 : List Cond := .code yJ9_min_7cf53 cJ9_min_7cf53 2 (some .int) :: ([])
abbrev vwCl : List vw_C := [(RX0, TX0, 3), (RX1, TX1, 6), (RX2, TX2, 6), (RX3, TX3, 7), (RX4, TX4, 4), (RX5, TX5, 8), (RX6, TX6, 7), (RX7, TX7, 13), (RX8, TX8, 38)]
end
section
theorem dX0_init_0 : decode cX0_init 0 = .ok (.aload_n 0, 1) := by decide +kernel
theorem dX0_init_1 : decode cX0_init 1 = .ok (.invokespecial 3, 3) := by decide +kernel
theorem dX0_init_4 : decode cX0_init 4 = .ok (.aload_n 0, 1) := by decide +kernel
theorem dX0_init_5 : decode cX0_init 5 = .ok (.bipush 16, 2) := by decide +kernel
theorem dX0_init_7 : decode cX0_init 7 = .ok (.newarray .int, 2) := by decide +kernel
theorem dX0_init_9 : decode cX0_init 9 = .ok (.putfield 11, 3) := by decide +kernel
theorem dX0_init_12 : decode cX0_init 12 = .ok (.aload_n 0, 1) := by decide +kernel
theorem dX0_init_13 : decode cX0_init 13 = .ok (.iconst 0, 1) := by decide +kernel
theorem dX0_init_14 : decode cX0_init 14 = .ok (.putfield 15, 3) := by decide +kernel
theorem dX0_init_17 : decode cX0_init 17 = .ok (.aload_n 0, 1) := by decide +kernel
theorem dX0_init_18 : decode cX0_init 18 = .ok (.bipush (-9), 2) := by decide +kernel
theorem dX0_init_20 : decode cX0_init 20 = .ok (.putfield 19, 3) := by decide +kernel
theorem dX0_init_23 : decode cX0_init 23 = .ok (.return_, 1) := by decide +kernel
set_option maxRecDepth 20000 in
theorem ggX0_begin_J7_fill_53178 : GoodIn wsX0_begin wsJ7_fill_53178 := goodIn_r _ [7] (by decide +kernel) (by decide +kernel)
set_option maxRecDepth 20000 in
theorem gX0_begin_J7_fill_53178 : GoodIn wsX0_begin (va_wsS RX0 22 yJ7_fill_53178 wsJ7_fill_53178) := goodIn_app (goodIn_of _ (by decide +kernel)) ggX0_begin_J7_fill_53178
theorem dX0_begin_0 : decode cX0_begin 0 = .ok (.aload_n 0, 1) := by decide +kernel
theorem dX0_begin_1 : decode cX0_begin 1 = .ok (.getfield 11, 3) := by decide +kernel
theorem dX0_begin_4 : decode cX0_begin 4 = .ok (.iconst 0, 1) := by decide +kernel
theorem dX0_begin_5 : decode cX0_begin 5 = .ok (.invokestatic 22, 3) := by decide +kernel
theorem dX0_begin_8 : decode cX0_begin 8 = .ok (.aload_n 0, 1) := by decide +kernel
theorem dX0_begin_9 : decode cX0_begin 9 = .ok (.iconst 0, 1) := by decide +kernel
theorem dX0_begin_10 : decode cX0_begin 10 = .ok (.putfield 15, 3) := by decide +kernel
theorem dX0_begin_13 : decode cX0_begin 13 = .ok (.aload_n 0, 1) := by decide +kernel
theorem dX0_begin_14 : decode cX0_begin 14 = .ok (.bipush (-9), 2) := by decide +kernel
theorem dX0_begin_16 : decode cX0_begin 16 = .ok (.putfield 19, 3) := by decide +kernel
theorem dX0_begin_19 : decode cX0_begin 19 = .ok (.return_, 1) := by decide +kernel
theorem dX0_admit_0 : decode cX0_admit 0 = .ok (.aload_n 0, 1) := by decide +kernel
theorem dX0_admit_1 : decode cX0_admit 1 = .ok (.dup, 1) := by decide +kernel
theorem dX0_admit_2 : decode cX0_admit 2 = .ok (.getfield 15, 3) := by decide +kernel
theorem dX0_admit_5 : decode cX0_admit 5 = .ok (.iconst 1, 1) := by decide +kernel
theorem dX0_admit_6 : decode cX0_admit 6 = .ok (.iadd, 1) := by decide +kernel
theorem dX0_admit_7 : decode cX0_admit 7 = .ok (.putfield 15, 3) := by decide +kernel
theorem dX0_admit_10 : decode cX0_admit 10 = .ok (.aload_n 0, 1) := by decide +kernel
theorem dX0_admit_11 : decode cX0_admit 11 = .ok (.getfield 19, 3) := by decide +kernel
theorem dX0_admit_14 : decode cX0_admit 14 = .ok (.bipush (-9), 2) := by decide +kernel
theorem dX0_admit_16 : decode cX0_admit 16 = .ok (.if_icmp .eq 11, 3) := by decide +kernel
theorem dX0_admit_19 : decode cX0_admit 19 = .ok (.iload_n 1, 1) := by decide +kernel
theorem dX0_admit_20 : decode cX0_admit 20 = .ok (.aload_n 0, 1) := by decide +kernel
theorem dX0_admit_21 : decode cX0_admit 21 = .ok (.getfield 19, 3) := by decide +kernel
theorem dX0_admit_24 : decode cX0_admit 24 = .ok (.if_icmp .ge 8, 3) := by decide +kernel
theorem dX0_admit_27 : decode cX0_admit 27 = .ok (.aload_n 0, 1) := by decide +kernel
theorem dX0_admit_28 : decode cX0_admit 28 = .ok (.iload_n 1, 1) := by decide +kernel
theorem dX0_admit_29 : decode cX0_admit 29 = .ok (.putfield 19, 3) := by decide +kernel
theorem dX0_admit_32 : decode cX0_admit 32 = .ok (.iconst 0, 1) := by decide +kernel
theorem dX0_admit_33 : decode cX0_admit 33 = .ok (.istore_n 2, 1) := by decide +kernel
theorem dX0_admit_34 : decode cX0_admit 34 = .ok (.iload_n 2, 1) := by decide +kernel
theorem dX0_admit_35 : decode cX0_admit 35 = .ok (.iconst 4, 1) := by decide +kernel
theorem dX0_admit_36 : decode cX0_admit 36 = .ok (.if_icmp .ge 29, 3) := by decide +kernel
theorem dX0_admit_39 : decode cX0_admit 39 = .ok (.aload_n 0, 1) := by decide +kernel
theorem dX0_admit_40 : decode cX0_admit 40 = .ok (.getfield 11, 3) := by decide +kernel
theorem dX0_admit_43 : decode cX0_admit 43 = .ok (.iload_n 2, 1) := by decide +kernel
theorem dX0_admit_44 : decode cX0_admit 44 = .ok (.iconst 4, 1) := by decide +kernel
theorem dX0_admit_45 : decode cX0_admit 45 = .ok (.imul, 1) := by decide +kernel
theorem dX0_admit_46 : decode cX0_admit 46 = .ok (.iload_n 1, 1) := by decide +kernel
theorem dX0_admit_47 : decode cX0_admit 47 = .ok (.iconst 2, 1) := by decide +kernel
theorem dX0_admit_48 : decode cX0_admit 48 = .ok (.iload_n 2, 1) := by decide +kernel
theorem dX0_admit_49 : decode cX0_admit 49 = .ok (.imul, 1) := by decide +kernel
theorem dX0_admit_50 : decode cX0_admit 50 = .ok (.ishr, 1) := by decide +kernel
theorem dX0_admit_51 : decode cX0_admit 51 = .ok (.iconst 3, 1) := by decide +kernel
theorem dX0_admit_52 : decode cX0_admit 52 = .ok (.iand, 1) := by decide +kernel
theorem dX0_admit_53 : decode cX0_admit 53 = .ok (.iadd, 1) := by decide +kernel
theorem dX0_admit_54 : decode cX0_admit 54 = .ok (.dup2, 1) := by decide +kernel
theorem dX0_admit_55 : decode cX0_admit 55 = .ok (.iaload, 1) := by decide +kernel
theorem dX0_admit_56 : decode cX0_admit 56 = .ok (.iconst 1, 1) := by decide +kernel
theorem dX0_admit_57 : decode cX0_admit 57 = .ok (.iadd, 1) := by decide +kernel
theorem dX0_admit_58 : decode cX0_admit 58 = .ok (.iastore, 1) := by decide +kernel
theorem dX0_admit_59 : decode cX0_admit 59 = .ok (.iinc 2 1, 3) := by decide +kernel
theorem dX0_admit_62 : decode cX0_admit 62 = .ok (.goto (-28), 3) := by decide +kernel
theorem dX0_admit_65 : decode cX0_admit 65 = .ok (.return_, 1) := by decide +kernel
theorem dX0_onlyValueOf_0 : decode cX0_onlyValueOf 0 = .ok (.iconst 0, 1) := by decide +kernel
theorem dX0_onlyValueOf_1 : decode cX0_onlyValueOf 1 = .ok (.istore_n 2, 1) := by decide +kernel
theorem dX0_onlyValueOf_2 : decode cX0_onlyValueOf 2 = .ok (.iload_n 2, 1) := by decide +kernel
theorem dX0_onlyValueOf_3 : decode cX0_onlyValueOf 3 = .ok (.iconst 4, 1) := by decide +kernel
theorem dX0_onlyValueOf_4 : decode cX0_onlyValueOf 4 = .ok (.if_icmp .ge 35, 3) := by decide +kernel
theorem dX0_onlyValueOf_7 : decode cX0_onlyValueOf 7 = .ok (.aload_n 0, 1) := by decide +kernel
theorem dX0_onlyValueOf_8 : decode cX0_onlyValueOf 8 = .ok (.getfield 15, 3) := by decide +kernel
theorem dX0_onlyValueOf_11 : decode cX0_onlyValueOf 11 = .ok (.ifCond .le 22, 3) := by decide +kernel
theorem dX0_onlyValueOf_14 : decode cX0_onlyValueOf 14 = .ok (.aload_n 0, 1) := by decide +kernel
theorem dX0_onlyValueOf_15 : decode cX0_onlyValueOf 15 = .ok (.getfield 11, 3) := by decide +kernel
theorem dX0_onlyValueOf_18 : decode cX0_onlyValueOf 18 = .ok (.iload_n 1, 1) := by decide +kernel
theorem dX0_onlyValueOf_19 : decode cX0_onlyValueOf 19 = .ok (.iconst 4, 1) := by decide +kernel
theorem dX0_onlyValueOf_20 : decode cX0_onlyValueOf 20 = .ok (.imul, 1) := by decide +kernel
theorem dX0_onlyValueOf_21 : decode cX0_onlyValueOf 21 = .ok (.iload_n 2, 1) := by decide +kernel
theorem dX0_onlyValueOf_22 : decode cX0_onlyValueOf 22 = .ok (.iadd, 1) := by decide +kernel
theorem dX0_onlyValueOf_23 : decode cX0_onlyValueOf 23 = .ok (.iaload, 1) := by decide +kernel
theorem dX0_onlyValueOf_24 : decode cX0_onlyValueOf 24 = .ok (.aload_n 0, 1) := by decide +kernel
theorem dX0_onlyValueOf_25 : decode cX0_onlyValueOf 25 = .ok (.getfield 15, 3) := by decide +kernel
theorem dX0_onlyValueOf_28 : decode cX0_onlyValueOf 28 = .ok (.if_icmp .ne 5, 3) := by decide +kernel
theorem dX0_onlyValueOf_31 : decode cX0_onlyValueOf 31 = .ok (.iload_n 2, 1) := by decide +kernel
theorem dX0_onlyValueOf_32 : decode cX0_onlyValueOf 32 = .ok (.ireturn, 1) := by decide +kernel
theorem dX0_onlyValueOf_33 : decode cX0_onlyValueOf 33 = .ok (.iinc 2 1, 3) := by decide +kernel
theorem dX0_onlyValueOf_36 : decode cX0_onlyValueOf 36 = .ok (.goto (-34), 3) := by decide +kernel
theorem dX0_onlyValueOf_39 : decode cX0_onlyValueOf 39 = .ok (.bipush (-9), 2) := by decide +kernel
theorem dX0_onlyValueOf_41 : decode cX0_onlyValueOf 41 = .ok (.ireturn, 1) := by decide +kernel
set_option maxRecDepth 20000 in
theorem ggX0_nextLook_X0_greatest : GoodIn wsX0_nextLook wsX0_greatest := goodIn_r _ [6, 7, 8, 9, 10, 11, 12, 13, 14] (by decide +kernel) (by decide +kernel)
set_option maxRecDepth 20000 in
theorem gX0_nextLook_X0_greatest : GoodIn wsX0_nextLook (wsV RX0 28 RX0 yX0_greatest wsX0_greatest) := goodIn_app (goodIn_of _ (by decide +kernel)) ggX0_nextLook_X0_greatest
theorem dX0_nextLook_0 : decode cX0_nextLook 0 = .ok (.aload_n 0, 1) := by decide +kernel
theorem dX0_nextLook_1 : decode cX0_nextLook 1 = .ok (.getfield 15, 3) := by decide +kernel
theorem dX0_nextLook_4 : decode cX0_nextLook 4 = .ok (.iconst 1, 1) := by decide +kernel
theorem dX0_nextLook_5 : decode cX0_nextLook 5 = .ok (.if_icmp .gt 6, 3) := by decide +kernel
theorem dX0_nextLook_8 : decode cX0_nextLook 8 = .ok (.bipush (-9), 2) := by decide +kernel
theorem dX0_nextLook_10 : decode cX0_nextLook 10 = .ok (.ireturn, 1) := by decide +kernel
theorem dX0_nextLook_11 : decode cX0_nextLook 11 = .ok (.iconst 0, 1) := by decide +kernel
theorem dX0_nextLook_12 : decode cX0_nextLook 12 = .ok (.istore_n 1, 1) := by decide +kernel
theorem dX0_nextLook_13 : decode cX0_nextLook 13 = .ok (.iconst 1, 1) := by decide +kernel
theorem dX0_nextLook_14 : decode cX0_nextLook 14 = .ok (.istore_n 2, 1) := by decide +kernel
theorem dX0_nextLook_15 : decode cX0_nextLook 15 = .ok (.iload_n 2, 1) := by decide +kernel
theorem dX0_nextLook_16 : decode cX0_nextLook 16 = .ok (.iconst 4, 1) := by decide +kernel
theorem dX0_nextLook_17 : decode cX0_nextLook 17 = .ok (.if_icmp .ge 24, 3) := by decide +kernel
theorem dX0_nextLook_20 : decode cX0_nextLook 20 = .ok (.aload_n 0, 1) := by decide +kernel
theorem dX0_nextLook_21 : decode cX0_nextLook 21 = .ok (.iload_n 2, 1) := by decide +kernel
theorem dX0_nextLook_22 : decode cX0_nextLook 22 = .ok (.invokevirtual 28, 3) := by decide +kernel
theorem dX0_nextLook_25 : decode cX0_nextLook 25 = .ok (.aload_n 0, 1) := by decide +kernel
theorem dX0_nextLook_26 : decode cX0_nextLook 26 = .ok (.iload_n 1, 1) := by decide +kernel
theorem dX0_nextLook_27 : decode cX0_nextLook 27 = .ok (.invokevirtual 28, 3) := by decide +kernel
theorem dX0_nextLook_30 : decode cX0_nextLook 30 = .ok (.if_icmp .ge 5, 3) := by decide +kernel
theorem dX0_nextLook_33 : decode cX0_nextLook 33 = .ok (.iload_n 2, 1) := by decide +kernel
theorem dX0_nextLook_34 : decode cX0_nextLook 34 = .ok (.istore_n 1, 1) := by decide +kernel
theorem dX0_nextLook_35 : decode cX0_nextLook 35 = .ok (.iinc 2 1, 3) := by decide +kernel
theorem dX0_nextLook_38 : decode cX0_nextLook 38 = .ok (.goto (-23), 3) := by decide +kernel
theorem dX0_nextLook_41 : decode cX0_nextLook 41 = .ok (.iload_n 1, 1) := by decide +kernel
theorem dX0_nextLook_42 : decode cX0_nextLook 42 = .ok (.ireturn, 1) := by decide +kernel
theorem dX0_greatest_0 : decode cX0_greatest 0 = .ok (.iconst 0, 1) := by decide +kernel
theorem dX0_greatest_1 : decode cX0_greatest 1 = .ok (.istore_n 2, 1) := by decide +kernel
theorem dX0_greatest_2 : decode cX0_greatest 2 = .ok (.iconst 0, 1) := by decide +kernel
theorem dX0_greatest_3 : decode cX0_greatest 3 = .ok (.istore_n 3, 1) := by decide +kernel
theorem dX0_greatest_4 : decode cX0_greatest 4 = .ok (.iload_n 3, 1) := by decide +kernel
theorem dX0_greatest_5 : decode cX0_greatest 5 = .ok (.iconst 4, 1) := by decide +kernel
theorem dX0_greatest_6 : decode cX0_greatest 6 = .ok (.if_icmp .ge 24, 3) := by decide +kernel
theorem dX0_greatest_9 : decode cX0_greatest 9 = .ok (.iload_n 2, 1) := by decide +kernel
theorem dX0_greatest_10 : decode cX0_greatest 10 = .ok (.aload_n 0, 1) := by decide +kernel
theorem dX0_greatest_11 : decode cX0_greatest 11 = .ok (.getfield 11, 3) := by decide +kernel
theorem dX0_greatest_14 : decode cX0_greatest 14 = .ok (.iload_n 1, 1) := by decide +kernel
theorem dX0_greatest_15 : decode cX0_greatest 15 = .ok (.iconst 4, 1) := by decide +kernel
theorem dX0_greatest_16 : decode cX0_greatest 16 = .ok (.imul, 1) := by decide +kernel
theorem dX0_greatest_17 : decode cX0_greatest 17 = .ok (.iload_n 3, 1) := by decide +kernel
theorem dX0_greatest_18 : decode cX0_greatest 18 = .ok (.iadd, 1) := by decide +kernel
theorem dX0_greatest_19 : decode cX0_greatest 19 = .ok (.iaload, 1) := by decide +kernel
theorem dX0_greatest_20 : decode cX0_greatest 20 = .ok (.invokestatic 32, 3) := by decide +kernel
theorem dX0_greatest_23 : decode cX0_greatest 23 = .ok (.istore_n 2, 1) := by decide +kernel
theorem dX0_greatest_24 : decode cX0_greatest 24 = .ok (.iinc 3 1, 3) := by decide +kernel
theorem dX0_greatest_27 : decode cX0_greatest 27 = .ok (.goto (-23), 3) := by decide +kernel
theorem dX0_greatest_30 : decode cX0_greatest 30 = .ok (.iload_n 2, 1) := by decide +kernel
theorem dX0_greatest_31 : decode cX0_greatest 31 = .ok (.ireturn, 1) := by decide +kernel
theorem dX1_init_0 : decode cX1_init 0 = .ok (.aload_n 0, 1) := by decide +kernel
theorem dX1_init_1 : decode cX1_init 1 = .ok (.invokespecial 3, 3) := by decide +kernel
theorem dX1_init_4 : decode cX1_init 4 = .ok (.aload_n 0, 1) := by decide +kernel
theorem dX1_init_5 : decode cX1_init 5 = .ok (.bipush 13, 2) := by decide +kernel
theorem dX1_init_7 : decode cX1_init 7 = .ok (.newarray .int, 2) := by decide +kernel
theorem dX1_init_9 : decode cX1_init 9 = .ok (.putfield 9, 3) := by decide +kernel
theorem dX1_init_12 : decode cX1_init 12 = .ok (.aload_n 0, 1) := by decide +kernel
theorem dX1_init_13 : decode cX1_init 13 = .ok (.iconst 0, 1) := by decide +kernel
theorem dX1_init_14 : decode cX1_init 14 = .ok (.putfield 15, 3) := by decide +kernel
theorem dX1_init_17 : decode cX1_init 17 = .ok (.aload_n 0, 1) := by decide +kernel
theorem dX1_init_18 : decode cX1_init 18 = .ok (.iconst 0, 1) := by decide +kernel
theorem dX1_init_19 : decode cX1_init 19 = .ok (.putfield 19, 3) := by decide +kernel
theorem dX1_init_22 : decode cX1_init 22 = .ok (.aload_n 0, 1) := by decide +kernel
theorem dX1_init_23 : decode cX1_init 23 = .ok (.iconst 0, 1) := by decide +kernel
theorem dX1_init_24 : decode cX1_init 24 = .ok (.putfield 22, 3) := by decide +kernel
theorem dX1_init_27 : decode cX1_init 27 = .ok (.aload_n 0, 1) := by decide +kernel
theorem dX1_init_28 : decode cX1_init 28 = .ok (.iconst 0, 1) := by decide +kernel
theorem dX1_init_29 : decode cX1_init 29 = .ok (.putfield 26, 3) := by decide +kernel
theorem dX1_init_32 : decode cX1_init 32 = .ok (.aload_n 0, 1) := by decide +kernel
theorem dX1_init_33 : decode cX1_init 33 = .ok (.iconst 0, 1) := by decide +kernel
theorem dX1_init_34 : decode cX1_init 34 = .ok (.putfield 29, 3) := by decide +kernel
theorem dX1_init_37 : decode cX1_init 37 = .ok (.getstatic 32, 3) := by decide +kernel
theorem dX1_init_40 : decode cX1_init 40 = .ok (.iconst 0, 1) := by decide +kernel
theorem dX1_init_41 : decode cX1_init 41 = .ok (.aload_n 0, 1) := by decide +kernel
theorem dX1_init_42 : decode cX1_init 42 = .ok (.getfield 9, 3) := by decide +kernel
theorem dX1_init_45 : decode cX1_init 45 = .ok (.iconst 0, 1) := by decide +kernel
theorem dX1_init_46 : decode cX1_init 46 = .ok (.bipush 13, 2) := by decide +kernel
theorem dX1_init_48 : decode cX1_init 48 = .ok (.invokestatic 35, 3) := by decide +kernel
theorem dX1_init_51 : decode cX1_init 51 = .ok (.aload_n 0, 1) := by decide +kernel
theorem dX1_init_52 : decode cX1_init 52 = .ok (.getfield 9, 3) := by decide +kernel
theorem dX1_init_55 : decode cX1_init 55 = .ok (.iconst 4, 1) := by decide +kernel
theorem dX1_init_56 : decode cX1_init 56 = .ok (.bipush 60, 2) := by decide +kernel
theorem dX1_init_58 : decode cX1_init 58 = .ok (.iastore, 1) := by decide +kernel
theorem dX1_init_59 : decode cX1_init 59 = .ok (.aload_n 0, 1) := by decide +kernel
theorem dX1_init_60 : decode cX1_init 60 = .ok (.getfield 9, 3) := by decide +kernel
theorem dX1_init_63 : decode cX1_init 63 = .ok (.iconst 5, 1) := by decide +kernel
theorem dX1_init_64 : decode cX1_init 64 = .ok (.iconst 4, 1) := by decide +kernel
theorem dX1_init_65 : decode cX1_init 65 = .ok (.iastore, 1) := by decide +kernel
theorem dX1_init_66 : decode cX1_init 66 = .ok (.aload_n 0, 1) := by decide +kernel
theorem dX1_init_67 : decode cX1_init 67 = .ok (.getfield 9, 3) := by decide +kernel
theorem dX1_init_70 : decode cX1_init 70 = .ok (.bipush 6, 2) := by decide +kernel
theorem dX1_init_72 : decode cX1_init 72 = .ok (.bipush 100, 2) := by decide +kernel
theorem dX1_init_74 : decode cX1_init 74 = .ok (.iastore, 1) := by decide +kernel
theorem dX1_init_75 : decode cX1_init 75 = .ok (.aload_n 0, 1) := by decide +kernel
theorem dX1_init_76 : decode cX1_init 76 = .ok (.getfield 9, 3) := by decide +kernel
theorem dX1_init_79 : decode cX1_init 79 = .ok (.bipush 12, 2) := by decide +kernel
theorem dX1_init_81 : decode cX1_init 81 = .ok (.iconst 1, 1) := by decide +kernel
theorem dX1_init_82 : decode cX1_init 82 = .ok (.iastore, 1) := by decide +kernel
theorem dX1_init_83 : decode cX1_init 83 = .ok (.return_, 1) := by decide +kernel
set_option maxRecDepth 20000 in
theorem ggX1_trait_X7_within : GoodIn wsX1_trait wsX7_within := goodIn_r _ [4] (by decide +kernel) (by decide +kernel)
set_option maxRecDepth 20000 in
theorem gX1_trait_X7_within_n41 : GoodIn wsX1_trait (wsX7_within) := ggX1_trait_X7_within
theorem dX1_trait_0 : decode cX1_trait 0 = .ok (.iload_n 1, 1) := by decide +kernel
theorem dX1_trait_1 : decode cX1_trait 1 = .ok (.iconst 0, 1) := by decide +kernel
theorem dX1_trait_2 : decode cX1_trait 2 = .ok (.bipush 12, 2) := by decide +kernel
theorem dX1_trait_4 : decode cX1_trait 4 = .ok (.invokestatic 41, 3) := by decide +kernel
theorem dX1_trait_7 : decode cX1_trait 7 = .ok (.ifCond .eq 12, 3) := by decide +kernel
theorem dX1_trait_10 : decode cX1_trait 10 = .ok (.aload_n 0, 1) := by decide +kernel
theorem dX1_trait_11 : decode cX1_trait 11 = .ok (.getfield 9, 3) := by decide +kernel
theorem dX1_trait_14 : decode cX1_trait 14 = .ok (.iload_n 1, 1) := by decide +kernel
theorem dX1_trait_15 : decode cX1_trait 15 = .ok (.iaload, 1) := by decide +kernel
theorem dX1_trait_16 : decode cX1_trait 16 = .ok (.goto 4, 3) := by decide +kernel
theorem dX1_trait_19 : decode cX1_trait 19 = .ok (.iconst (-1), 1) := by decide +kernel
theorem dX1_trait_20 : decode cX1_trait 20 = .ok (.ireturn, 1) := by decide +kernel
set_option maxRecDepth 20000 in
theorem ggX1_put_X7_within : GoodIn wsX1_put wsX7_within := goodIn_r _ [5] (by decide +kernel) (by decide +kernel)
set_option maxRecDepth 20000 in
theorem gX1_put_X7_within_n41 : GoodIn wsX1_put (wsX7_within) := ggX1_put_X7_within
theorem dX1_put_0 : decode cX1_put 0 = .ok (.iload_n 1, 1) := by decide +kernel
theorem dX1_put_1 : decode cX1_put 1 = .ok (.iconst 0, 1) := by decide +kernel
theorem dX1_put_2 : decode cX1_put 2 = .ok (.bipush 12, 2) := by decide +kernel
theorem dX1_put_4 : decode cX1_put 4 = .ok (.invokestatic 41, 3) := by decide +kernel
theorem dX1_put_7 : decode cX1_put 7 = .ok (.ifCond .eq 13, 3) := by decide +kernel
theorem dX1_put_10 : decode cX1_put 10 = .ok (.aload_n 0, 1) := by decide +kernel
theorem dX1_put_11 : decode cX1_put 11 = .ok (.getfield 9, 3) := by decide +kernel
theorem dX1_put_14 : decode cX1_put 14 = .ok (.iload_n 1, 1) := by decide +kernel
theorem dX1_put_15 : decode cX1_put 15 = .ok (.iaload, 1) := by decide +kernel
theorem dX1_put_16 : decode cX1_put 16 = .ok (.iload_n 2, 1) := by decide +kernel
theorem dX1_put_17 : decode cX1_put 17 = .ok (.if_icmp .ne 4, 3) := by decide +kernel
theorem dX1_put_20 : decode cX1_put 20 = .ok (.return_, 1) := by decide +kernel
theorem dX1_put_21 : decode cX1_put 21 = .ok (.aload_n 0, 1) := by decide +kernel
theorem dX1_put_22 : decode cX1_put 22 = .ok (.getfield 9, 3) := by decide +kernel
theorem dX1_put_25 : decode cX1_put 25 = .ok (.iload_n 1, 1) := by decide +kernel
theorem dX1_put_26 : decode cX1_put 26 = .ok (.iload_n 2, 1) := by decide +kernel
theorem dX1_put_27 : decode cX1_put 27 = .ok (.iastore, 1) := by decide +kernel
theorem dX1_put_28 : decode cX1_put 28 = .ok (.iload_n 1, 1) := by decide +kernel
theorem dX1_put_29 : decode cX1_put 29 = .ok (.bipush 6, 2) := by decide +kernel
theorem dX1_put_31 : decode cX1_put 31 = .ok (.if_icmp .eq 14, 3) := by decide +kernel
theorem dX1_put_34 : decode cX1_put 34 = .ok (.iload_n 1, 1) := by decide +kernel
theorem dX1_put_35 : decode cX1_put 35 = .ok (.bipush 9, 2) := by decide +kernel
theorem dX1_put_37 : decode cX1_put 37 = .ok (.if_icmp .eq 8, 3) := by decide +kernel
theorem dX1_put_40 : decode cX1_put 40 = .ok (.aload_n 0, 1) := by decide +kernel
theorem dX1_put_41 : decode cX1_put 41 = .ok (.iconst 0, 1) := by decide +kernel
theorem dX1_put_42 : decode cX1_put 42 = .ok (.putfield 15, 3) := by decide +kernel
theorem dX1_put_45 : decode cX1_put 45 = .ok (.return_, 1) := by decide +kernel
theorem dX1_becomeLike_0 : decode cX1_becomeLike 0 = .ok (.aload_n 1, 1) := by decide +kernel
theorem dX1_becomeLike_1 : decode cX1_becomeLike 1 = .ok (.getfield 9, 3) := by decide +kernel
theorem dX1_becomeLike_4 : decode cX1_becomeLike 4 = .ok (.iconst 0, 1) := by decide +kernel
theorem dX1_becomeLike_5 : decode cX1_becomeLike 5 = .ok (.aload_n 0, 1) := by decide +kernel
theorem dX1_becomeLike_6 : decode cX1_becomeLike 6 = .ok (.getfield 9, 3) := by decide +kernel
theorem dX1_becomeLike_9 : decode cX1_becomeLike 9 = .ok (.iconst 0, 1) := by decide +kernel
theorem dX1_becomeLike_10 : decode cX1_becomeLike 10 = .ok (.bipush 13, 2) := by decide +kernel
theorem dX1_becomeLike_12 : decode cX1_becomeLike 12 = .ok (.invokestatic 35, 3) := by decide +kernel
theorem dX1_becomeLike_15 : decode cX1_becomeLike 15 = .ok (.aload_n 0, 1) := by decide +kernel
theorem dX1_becomeLike_16 : decode cX1_becomeLike 16 = .ok (.iconst 0, 1) := by decide +kernel
theorem dX1_becomeLike_17 : decode cX1_becomeLike 17 = .ok (.putfield 15, 3) := by decide +kernel
theorem dX1_becomeLike_20 : decode cX1_becomeLike 20 = .ok (.return_, 1) := by decide +kernel
set_option maxRecDepth 20000 in
theorem ggX1_suffer_X1_put : GoodIn wsX1_suffer wsX1_put := goodIn_r _ [5, 6, 7, 8, 9, 10, 11, 12, 13, 14, 15, 16] (by decide +kernel) (by decide +kernel)
set_option maxRecDepth 20000 in
theorem gX1_suffer_X1_put : GoodIn wsX1_suffer (wsV RX1 45 RX1 yX1_put wsX1_put) := goodIn_app (goodIn_of _ (by decide +kernel)) ggX1_suffer_X1_put
theorem dX1_suffer_0 : decode cX1_suffer 0 = .ok (.aload_n 0, 1) := by decide +kernel
theorem dX1_suffer_1 : decode cX1_suffer 1 = .ok (.bipush 7, 2) := by decide +kernel
theorem dX1_suffer_3 : decode cX1_suffer 3 = .ok (.iload_n 1, 1) := by decide +kernel
theorem dX1_suffer_4 : decode cX1_suffer 4 = .ok (.iconst 3, 1) := by decide +kernel
theorem dX1_suffer_5 : decode cX1_suffer 5 = .ok (.iand, 1) := by decide +kernel
theorem dX1_suffer_6 : decode cX1_suffer 6 = .ok (.invokevirtual 45, 3) := by decide +kernel
theorem dX1_suffer_9 : decode cX1_suffer 9 = .ok (.aload_n 0, 1) := by decide +kernel
theorem dX1_suffer_10 : decode cX1_suffer 10 = .ok (.bipush 8, 2) := by decide +kernel
theorem dX1_suffer_12 : decode cX1_suffer 12 = .ok (.iload_n 1, 1) := by decide +kernel
theorem dX1_suffer_13 : decode cX1_suffer 13 = .ok (.iconst 2, 1) := by decide +kernel
theorem dX1_suffer_14 : decode cX1_suffer 14 = .ok (.ishr, 1) := by decide +kernel
theorem dX1_suffer_15 : decode cX1_suffer 15 = .ok (.iconst 3, 1) := by decide +kernel
theorem dX1_suffer_16 : decode cX1_suffer 16 = .ok (.iand, 1) := by decide +kernel
theorem dX1_suffer_17 : decode cX1_suffer 17 = .ok (.invokevirtual 45, 3) := by decide +kernel
theorem dX1_suffer_20 : decode cX1_suffer 20 = .ok (.aload_n 0, 1) := by decide +kernel
theorem dX1_suffer_21 : decode cX1_suffer 21 = .ok (.bipush 9, 2) := by decide +kernel
theorem dX1_suffer_23 : decode cX1_suffer 23 = .ok (.iload_n 1, 1) := by decide +kernel
theorem dX1_suffer_24 : decode cX1_suffer 24 = .ok (.iconst 4, 1) := by decide +kernel
theorem dX1_suffer_25 : decode cX1_suffer 25 = .ok (.ishr, 1) := by decide +kernel
theorem dX1_suffer_26 : decode cX1_suffer 26 = .ok (.iconst 3, 1) := by decide +kernel
theorem dX1_suffer_27 : decode cX1_suffer 27 = .ok (.iand, 1) := by decide +kernel
theorem dX1_suffer_28 : decode cX1_suffer 28 = .ok (.invokevirtual 45, 3) := by decide +kernel
theorem dX1_suffer_31 : decode cX1_suffer 31 = .ok (.aload_n 0, 1) := by decide +kernel
theorem dX1_suffer_32 : decode cX1_suffer 32 = .ok (.bipush 6, 2) := by decide +kernel
theorem dX1_suffer_34 : decode cX1_suffer 34 = .ok (.getstatic 49, 3) := by decide +kernel
theorem dX1_suffer_37 : decode cX1_suffer 37 = .ok (.iload_n 1, 1) := by decide +kernel
theorem dX1_suffer_38 : decode cX1_suffer 38 = .ok (.bipush 6, 2) := by decide +kernel
theorem dX1_suffer_40 : decode cX1_suffer 40 = .ok (.ishr, 1) := by decide +kernel
theorem dX1_suffer_41 : decode cX1_suffer 41 = .ok (.iconst 3, 1) := by decide +kernel
theorem dX1_suffer_42 : decode cX1_suffer 42 = .ok (.iand, 1) := by decide +kernel
theorem dX1_suffer_43 : decode cX1_suffer 43 = .ok (.iaload, 1) := by decide +kernel
theorem dX1_suffer_44 : decode cX1_suffer 44 = .ok (.invokevirtual 45, 3) := by decide +kernel
theorem dX1_suffer_47 : decode cX1_suffer 47 = .ok (.return_, 1) := by decide +kernel
theorem dX1_workBy_0 : decode cX1_workBy 0 = .ok (.bipush 40, 2) := by decide +kernel
theorem dX1_workBy_2 : decode cX1_workBy 2 = .ok (.aload_n 0, 1) := by decide +kernel
theorem dX1_workBy_3 : decode cX1_workBy 3 = .ok (.getfield 9, 3) := by decide +kernel
theorem dX1_workBy_6 : decode cX1_workBy 6 = .ok (.bipush 6, 2) := by decide +kernel
theorem dX1_workBy_8 : decode cX1_workBy 8 = .ok (.iaload, 1) := by decide +kernel
theorem dX1_workBy_9 : decode cX1_workBy 9 = .ok (.iconst 4, 1) := by decide +kernel
theorem dX1_workBy_10 : decode cX1_workBy 10 = .ok (.idiv, 1) := by decide +kernel
theorem dX1_workBy_11 : decode cX1_workBy 11 = .ok (.iadd, 1) := by decide +kernel
theorem dX1_workBy_12 : decode cX1_workBy 12 = .ok (.iconst 3, 1) := by decide +kernel
theorem dX1_workBy_13 : decode cX1_workBy 13 = .ok (.aload_n 0, 1) := by decide +kernel
theorem dX1_workBy_14 : decode cX1_workBy 14 = .ok (.getfield 9, 3) := by decide +kernel
theorem dX1_workBy_17 : decode cX1_workBy 17 = .ok (.bipush 7, 2) := by decide +kernel
theorem dX1_workBy_19 : decode cX1_workBy 19 = .ok (.iaload, 1) := by decide +kernel
theorem dX1_workBy_20 : decode cX1_workBy 20 = .ok (.imul, 1) := by decide +kernel
theorem dX1_workBy_21 : decode cX1_workBy 21 = .ok (.isub, 1) := by decide +kernel
theorem dX1_workBy_22 : decode cX1_workBy 22 = .ok (.istore_n 2, 1) := by decide +kernel
theorem dX1_workBy_23 : decode cX1_workBy 23 = .ok (.iload_n 1, 1) := by decide +kernel
theorem dX1_workBy_24 : decode cX1_workBy 24 = .ok (.iconst 1, 1) := by decide +kernel
theorem dX1_workBy_25 : decode cX1_workBy 25 = .ok (.if_icmp .lt 13, 3) := by decide +kernel
theorem dX1_workBy_28 : decode cX1_workBy 28 = .ok (.iload_n 2, 1) := by decide +kernel
theorem dX1_workBy_29 : decode cX1_workBy 29 = .ok (.bipush 8, 2) := by decide +kernel
theorem dX1_workBy_31 : decode cX1_workBy 31 = .ok (.iadd, 1) := by decide +kernel
theorem dX1_workBy_32 : decode cX1_workBy 32 = .ok (.bipush 80, 2) := by decide +kernel
theorem dX1_workBy_34 : decode cX1_workBy 34 = .ok (.invokestatic 52, 3) := by decide +kernel
theorem dX1_workBy_37 : decode cX1_workBy 37 = .ok (.istore_n 2, 1) := by decide +kernel
theorem dX1_workBy_38 : decode cX1_workBy 38 = .ok (.iload_n 1, 1) := by decide +kernel
theorem dX1_workBy_39 : decode cX1_workBy 39 = .ok (.iconst 2, 1) := by decide +kernel
theorem dX1_workBy_40 : decode cX1_workBy 40 = .ok (.if_icmp .lt 25, 3) := by decide +kernel
theorem dX1_workBy_43 : decode cX1_workBy 43 = .ok (.iload_n 2, 1) := by decide +kernel
theorem dX1_workBy_44 : decode cX1_workBy 44 = .ok (.iload_n 2, 1) := by decide +kernel
theorem dX1_workBy_45 : decode cX1_workBy 45 = .ok (.bipush 10, 2) := by decide +kernel
theorem dX1_workBy_47 : decode cX1_workBy 47 = .ok (.idiv, 1) := by decide +kernel
theorem dX1_workBy_48 : decode cX1_workBy 48 = .ok (.iadd, 1) := by decide +kernel
theorem dX1_workBy_49 : decode cX1_workBy 49 = .ok (.bipush 85, 2) := by decide +kernel
theorem dX1_workBy_51 : decode cX1_workBy 51 = .ok (.invokestatic 52, 3) := by decide +kernel
theorem dX1_workBy_54 : decode cX1_workBy 54 = .ok (.iconst 2, 1) := by decide +kernel
theorem dX1_workBy_55 : decode cX1_workBy 55 = .ok (.aload_n 0, 1) := by decide +kernel
theorem dX1_workBy_56 : decode cX1_workBy 56 = .ok (.getfield 9, 3) := by decide +kernel
theorem dX1_workBy_59 : decode cX1_workBy 59 = .ok (.bipush 8, 2) := by decide +kernel
theorem dX1_workBy_61 : decode cX1_workBy 61 = .ok (.iaload, 1) := by decide +kernel
theorem dX1_workBy_62 : decode cX1_workBy 62 = .ok (.imul, 1) := by decide +kernel
theorem dX1_workBy_63 : decode cX1_workBy 63 = .ok (.isub, 1) := by decide +kernel
theorem dX1_workBy_64 : decode cX1_workBy 64 = .ok (.istore_n 2, 1) := by decide +kernel
theorem dX1_workBy_65 : decode cX1_workBy 65 = .ok (.iload_n 2, 1) := by decide +kernel
theorem dX1_workBy_66 : decode cX1_workBy 66 = .ok (.ireturn, 1) := by decide +kernel
set_option maxRecDepth 20000 in
theorem ggX1_stalls_X1_reckon : GoodIn wsX1_stalls wsX1_reckon := goodIn_r _ [6, 7, 1, 8, 9, 10, 11, 12, 13, 5, 14, 15, 16, 17, 18, 19, 20] (by decide +kernel) (by decide +kernel)
set_option maxRecDepth 20000 in
theorem gX1_stalls_X1_reckon : GoodIn wsX1_stalls (wsV RX1 58 RX1 yX1_reckon wsX1_reckon) := goodIn_app (goodIn_of _ (by decide +kernel)) ggX1_stalls_X1_reckon
theorem dX1_stalls_0 : decode cX1_stalls 0 = .ok (.aload_n 0, 1) := by decide +kernel
theorem dX1_stalls_1 : decode cX1_stalls 1 = .ok (.invokevirtual 58, 3) := by decide +kernel
theorem dX1_stalls_4 : decode cX1_stalls 4 = .ok (.aload_n 0, 1) := by decide +kernel
theorem dX1_stalls_5 : decode cX1_stalls 5 = .ok (.getfield 19, 3) := by decide +kernel
theorem dX1_stalls_8 : decode cX1_stalls 8 = .ok (.ireturn, 1) := by decide +kernel
set_option maxRecDepth 20000 in
theorem ggX1_shutTick_X1_reckon : GoodIn wsX1_shutTick wsX1_reckon := goodIn_r _ [6, 7, 8, 9, 10, 11, 1, 12, 13, 5, 14, 15, 16, 17, 18, 19, 20] (by decide +kernel) (by decide +kernel)
set_option maxRecDepth 20000 in
theorem gX1_shutTick_X1_reckon : GoodIn wsX1_shutTick (wsV RX1 58 RX1 yX1_reckon wsX1_reckon) := goodIn_app (goodIn_of _ (by decide +kernel)) ggX1_shutTick_X1_reckon
theorem dX1_shutTick_0 : decode cX1_shutTick 0 = .ok (.aload_n 0, 1) := by decide +kernel
theorem dX1_shutTick_1 : decode cX1_shutTick 1 = .ok (.invokevirtual 58, 3) := by decide +kernel
theorem dX1_shutTick_4 : decode cX1_shutTick 4 = .ok (.aload_n 0, 1) := by decide +kernel
theorem dX1_shutTick_5 : decode cX1_shutTick 5 = .ok (.getfield 22, 3) := by decide +kernel
theorem dX1_shutTick_8 : decode cX1_shutTick 8 = .ok (.ireturn, 1) := by decide +kernel
set_option maxRecDepth 20000 in
theorem ggX1_shutSpeed_X1_reckon : GoodIn wsX1_shutSpeed wsX1_reckon := goodIn_r _ [6, 7, 8, 1, 9, 10, 11, 12, 13, 5, 14, 15, 16, 17, 18, 19, 20] (by decide +kernel) (by decide +kernel)
set_option maxRecDepth 20000 in
theorem gX1_shutSpeed_X1_reckon : GoodIn wsX1_shutSpeed (wsV RX1 58 RX1 yX1_reckon wsX1_reckon) := goodIn_app (goodIn_of _ (by decide +kernel)) ggX1_shutSpeed_X1_reckon
theorem dX1_shutSpeed_0 : decode cX1_shutSpeed 0 = .ok (.aload_n 0, 1) := by decide +kernel
theorem dX1_shutSpeed_1 : decode cX1_shutSpeed 1 = .ok (.invokevirtual 58, 3) := by decide +kernel
theorem dX1_shutSpeed_4 : decode cX1_shutSpeed 4 = .ok (.aload_n 0, 1) := by decide +kernel
theorem dX1_shutSpeed_5 : decode cX1_shutSpeed 5 = .ok (.getfield 26, 3) := by decide +kernel
theorem dX1_shutSpeed_8 : decode cX1_shutSpeed 8 = .ok (.ireturn, 1) := by decide +kernel
set_option maxRecDepth 20000 in
theorem ggX1_wasteOfBeat_X1_reckon : GoodIn wsX1_wasteOfBeat wsX1_reckon := goodIn_r _ [6, 7, 8, 9, 1, 10, 11, 12, 13, 5, 14, 15, 16, 17, 18, 19, 20] (by decide +kernel) (by decide +kernel)
set_option maxRecDepth 20000 in
theorem gX1_wasteOfBeat_X1_reckon : GoodIn wsX1_wasteOfBeat (wsV RX1 58 RX1 yX1_reckon wsX1_reckon) := goodIn_app (goodIn_of _ (by decide +kernel)) ggX1_wasteOfBeat_X1_reckon
theorem dX1_wasteOfBeat_0 : decode cX1_wasteOfBeat 0 = .ok (.aload_n 0, 1) := by decide +kernel
theorem dX1_wasteOfBeat_1 : decode cX1_wasteOfBeat 1 = .ok (.invokevirtual 58, 3) := by decide +kernel
theorem dX1_wasteOfBeat_4 : decode cX1_wasteOfBeat 4 = .ok (.aload_n 0, 1) := by decide +kernel
theorem dX1_wasteOfBeat_5 : decode cX1_wasteOfBeat 5 = .ok (.getfield 29, 3) := by decide +kernel
theorem dX1_wasteOfBeat_8 : decode cX1_wasteOfBeat 8 = .ok (.ireturn, 1) := by decide +kernel
set_option maxRecDepth 20000 in
theorem ggX1_upOfBeat_X1_reckon : GoodIn wsX1_upOfBeat wsX1_reckon := goodIn_r _ [12, 13, 1, 2, 4, 3, 14, 15, 16, 11, 17, 26, 27, 28, 29, 30, 31] (by decide +kernel) (by decide +kernel)
set_option maxRecDepth 20000 in
theorem gX1_upOfBeat_X1_reckon : GoodIn wsX1_upOfBeat (wsV RX1 58 RX1 yX1_reckon wsX1_reckon) := goodIn_app (goodIn_of _ (by decide +kernel)) ggX1_upOfBeat_X1_reckon
set_option maxRecDepth 20000 in
theorem ggX1_upOfBeat_X1_workBy : GoodIn wsX1_upOfBeat wsX1_workBy := goodIn_r _ [21, 3, 22, 23, 24, 25, 26, 27, 28, 29, 30, 31] (by decide +kernel) (by decide +kernel)
set_option maxRecDepth 20000 in
theorem gX1_upOfBeat_X1_workBy : GoodIn wsX1_upOfBeat (wsV RX1 61 RX1 yX1_workBy wsX1_workBy) := goodIn_app (goodIn_of _ (by decide +kernel)) ggX1_upOfBeat_X1_workBy
set_option maxRecDepth 20000 in
theorem ggX1_upOfBeat_X1_share : GoodIn wsX1_upOfBeat wsX1_share := goodIn_r _ [17] (by decide +kernel) (by decide +kernel)
set_option maxRecDepth 20000 in
theorem gX1_upOfBeat_X1_share : GoodIn wsX1_upOfBeat (va_wsS RX1 67 yX1_share wsX1_share) := goodIn_app (goodIn_of _ (by decide +kernel)) ggX1_upOfBeat_X1_share
theorem dX1_upOfBeat_0 : decode cX1_upOfBeat 0 = .ok (.aload_n 0, 1) := by decide +kernel
theorem dX1_upOfBeat_1 : decode cX1_upOfBeat 1 = .ok (.invokevirtual 58, 3) := by decide +kernel
theorem dX1_upOfBeat_4 : decode cX1_upOfBeat 4 = .ok (.aload_n 0, 1) := by decide +kernel
theorem dX1_upOfBeat_5 : decode cX1_upOfBeat 5 = .ok (.getfield 19, 3) := by decide +kernel
theorem dX1_upOfBeat_8 : decode cX1_upOfBeat 8 = .ok (.ifCond .ne 19, 3) := by decide +kernel
theorem dX1_upOfBeat_11 : decode cX1_upOfBeat 11 = .ok (.aload_n 0, 1) := by decide +kernel
theorem dX1_upOfBeat_12 : decode cX1_upOfBeat 12 = .ok (.getfield 26, 3) := by decide +kernel
theorem dX1_upOfBeat_15 : decode cX1_upOfBeat 15 = .ok (.aload_n 0, 1) := by decide +kernel
theorem dX1_upOfBeat_16 : decode cX1_upOfBeat 16 = .ok (.getfield 9, 3) := by decide +kernel
theorem dX1_upOfBeat_19 : decode cX1_upOfBeat 19 = .ok (.iconst 1, 1) := by decide +kernel
theorem dX1_upOfBeat_20 : decode cX1_upOfBeat 20 = .ok (.iaload, 1) := by decide +kernel
theorem dX1_upOfBeat_21 : decode cX1_upOfBeat 21 = .ok (.bipush 20, 2) := by decide +kernel
theorem dX1_upOfBeat_23 : decode cX1_upOfBeat 23 = .ok (.idiv, 1) := by decide +kernel
theorem dX1_upOfBeat_24 : decode cX1_upOfBeat 24 = .ok (.if_icmp .ge 5, 3) := by decide +kernel
theorem dX1_upOfBeat_27 : decode cX1_upOfBeat 27 = .ok (.iconst 0, 1) := by decide +kernel
theorem dX1_upOfBeat_28 : decode cX1_upOfBeat 28 = .ok (.ireturn, 1) := by decide +kernel
theorem dX1_upOfBeat_29 : decode cX1_upOfBeat 29 = .ok (.aload_n 0, 1) := by decide +kernel
theorem dX1_upOfBeat_30 : decode cX1_upOfBeat 30 = .ok (.getfield 29, 3) := by decide +kernel
theorem dX1_upOfBeat_33 : decode cX1_upOfBeat 33 = .ok (.i2l, 1) := by decide +kernel
theorem dX1_upOfBeat_34 : decode cX1_upOfBeat 34 = .ok (.aload_n 0, 1) := by decide +kernel
theorem dX1_upOfBeat_35 : decode cX1_upOfBeat 35 = .ok (.getfield 9, 3) := by decide +kernel
theorem dX1_upOfBeat_38 : decode cX1_upOfBeat 38 = .ok (.iconst 0, 1) := by decide +kernel
theorem dX1_upOfBeat_39 : decode cX1_upOfBeat 39 = .ok (.iaload, 1) := by decide +kernel
theorem dX1_upOfBeat_40 : decode cX1_upOfBeat 40 = .ok (.i2l, 1) := by decide +kernel
theorem dX1_upOfBeat_41 : decode cX1_upOfBeat 41 = .ok (.lmul, 1) := by decide +kernel
theorem dX1_upOfBeat_42 : decode cX1_upOfBeat 42 = .ok (.aload_n 0, 1) := by decide +kernel
theorem dX1_upOfBeat_43 : decode cX1_upOfBeat 43 = .ok (.aload_n 0, 1) := by decide +kernel
theorem dX1_upOfBeat_44 : decode cX1_upOfBeat 44 = .ok (.getfield 9, 3) := by decide +kernel
theorem dX1_upOfBeat_47 : decode cX1_upOfBeat 47 = .ok (.bipush 10, 2) := by decide +kernel
theorem dX1_upOfBeat_49 : decode cX1_upOfBeat 49 = .ok (.iaload, 1) := by decide +kernel
theorem dX1_upOfBeat_50 : decode cX1_upOfBeat 50 = .ok (.invokevirtual 61, 3) := by decide +kernel
theorem dX1_upOfBeat_53 : decode cX1_upOfBeat 53 = .ok (.i2l, 1) := by decide +kernel
theorem dX1_upOfBeat_54 : decode cX1_upOfBeat 54 = .ok (.lmul, 1) := by decide +kernel
theorem dX1_upOfBeat_55 : decode cX1_upOfBeat 55 = .ok (.ldc2_w 65, 3) := by decide +kernel
theorem dX1_upOfBeat_58 : decode cX1_upOfBeat 58 = .ok (.aload_n 0, 1) := by decide +kernel
theorem dX1_upOfBeat_59 : decode cX1_upOfBeat 59 = .ok (.getfield 9, 3) := by decide +kernel
theorem dX1_upOfBeat_62 : decode cX1_upOfBeat 62 = .ok (.iconst 1, 1) := by decide +kernel
theorem dX1_upOfBeat_63 : decode cX1_upOfBeat 63 = .ok (.iaload, 1) := by decide +kernel
theorem dX1_upOfBeat_64 : decode cX1_upOfBeat 64 = .ok (.i2l, 1) := by decide +kernel
theorem dX1_upOfBeat_65 : decode cX1_upOfBeat 65 = .ok (.lmul, 1) := by decide +kernel
theorem dX1_upOfBeat_66 : decode cX1_upOfBeat 66 = .ok (.invokestatic 67, 3) := by decide +kernel
theorem dX1_upOfBeat_69 : decode cX1_upOfBeat 69 = .ok (.lstore_n 1, 1) := by decide +kernel
theorem dX1_upOfBeat_70 : decode cX1_upOfBeat 70 = .ok (.lload_n 1, 1) := by decide +kernel
theorem dX1_upOfBeat_71 : decode cX1_upOfBeat 71 = .ok (.aload_n 0, 1) := by decide +kernel
theorem dX1_upOfBeat_72 : decode cX1_upOfBeat 72 = .ok (.getfield 9, 3) := by decide +kernel
theorem dX1_upOfBeat_75 : decode cX1_upOfBeat 75 = .ok (.bipush 9, 2) := by decide +kernel
theorem dX1_upOfBeat_77 : decode cX1_upOfBeat 77 = .ok (.iaload, 1) := by decide +kernel
theorem dX1_upOfBeat_78 : decode cX1_upOfBeat 78 = .ok (.i2l, 1) := by decide +kernel
theorem dX1_upOfBeat_79 : decode cX1_upOfBeat 79 = .ok (.lmul, 1) := by decide +kernel
theorem dX1_upOfBeat_80 : decode cX1_upOfBeat 80 = .ok (.ldc2_w 71, 3) := by decide +kernel
theorem dX1_upOfBeat_83 : decode cX1_upOfBeat 83 = .ok (.ladd, 1) := by decide +kernel
theorem dX1_upOfBeat_84 : decode cX1_upOfBeat 84 = .ok (.ldc2_w 73, 3) := by decide +kernel
theorem dX1_upOfBeat_87 : decode cX1_upOfBeat 87 = .ok (.ldiv, 1) := by decide +kernel
theorem dX1_upOfBeat_88 : decode cX1_upOfBeat 88 = .ok (.lstore_n 3, 1) := by decide +kernel
theorem dX1_upOfBeat_89 : decode cX1_upOfBeat 89 = .ok (.lload_n 1, 1) := by decide +kernel
theorem dX1_upOfBeat_90 : decode cX1_upOfBeat 90 = .ok (.lload_n 3, 1) := by decide +kernel
theorem dX1_upOfBeat_91 : decode cX1_upOfBeat 91 = .ok (.lsub, 1) := by decide +kernel
theorem dX1_upOfBeat_92 : decode cX1_upOfBeat 92 = .ok (.l2i, 1) := by decide +kernel
theorem dX1_upOfBeat_93 : decode cX1_upOfBeat 93 = .ok (.ireturn, 1) := by decide +kernel
set_option maxRecDepth 20000 in
theorem ggX1_span_X1_reckon : GoodIn wsX1_span wsX1_reckon := goodIn_r _ [7, 8, 9, 10, 11, 2, 1, 12, 13, 6, 14, 15, 16, 17, 18, 19, 20] (by decide +kernel) (by decide +kernel)
set_option maxRecDepth 20000 in
theorem gX1_span_X1_reckon : GoodIn wsX1_span (wsV RX1 58 RX1 yX1_reckon wsX1_reckon) := goodIn_app (goodIn_of _ (by decide +kernel)) ggX1_span_X1_reckon
theorem dX1_span_0 : decode cX1_span 0 = .ok (.aload_n 0, 1) := by decide +kernel
theorem dX1_span_1 : decode cX1_span 1 = .ok (.invokevirtual 58, 3) := by decide +kernel
theorem dX1_span_4 : decode cX1_span 4 = .ok (.aload_n 0, 1) := by decide +kernel
theorem dX1_span_5 : decode cX1_span 5 = .ok (.getfield 22, 3) := by decide +kernel
theorem dX1_span_8 : decode cX1_span 8 = .ok (.iconst 4, 1) := by decide +kernel
theorem dX1_span_9 : decode cX1_span 9 = .ok (.iadd, 1) := by decide +kernel
theorem dX1_span_10 : decode cX1_span 10 = .ok (.aload_n 0, 1) := by decide +kernel
theorem dX1_span_11 : decode cX1_span 11 = .ok (.getfield 9, 3) := by decide +kernel
theorem dX1_span_14 : decode cX1_span 14 = .ok (.iconst 1, 1) := by decide +kernel
theorem dX1_span_15 : decode cX1_span 15 = .ok (.iaload, 1) := by decide +kernel
theorem dX1_span_16 : decode cX1_span 16 = .ok (.sipush 200, 3) := by decide +kernel
theorem dX1_span_19 : decode cX1_span 19 = .ok (.idiv, 1) := by decide +kernel
theorem dX1_span_20 : decode cX1_span 20 = .ok (.iadd, 1) := by decide +kernel
theorem dX1_span_21 : decode cX1_span 21 = .ok (.ireturn, 1) := by decide +kernel
set_option maxRecDepth 20000 in
theorem ggX1_beatsAnHour_X1_stalls : GoodIn wsX1_beatsAnHour wsX1_stalls := goodIn_r _ [6, 7, 8, 9, 10, 5, 11, 12, 13, 14, 15, 16, 17, 18, 19, 24, 25, 26, 27, 28, 29] (by decide +kernel) (by decide +kernel)
set_option maxRecDepth 20000 in
theorem gX1_beatsAnHour_X1_stalls : GoodIn wsX1_beatsAnHour (wsV RX1 75 RX1 yX1_stalls wsX1_stalls) := goodIn_app (goodIn_of _ (by decide +kernel)) ggX1_beatsAnHour_X1_stalls
set_option maxRecDepth 20000 in
theorem ggX1_beatsAnHour_X1_span : GoodIn wsX1_beatsAnHour wsX1_span := goodIn_r _ [23, 16, 15, 8, 9, 10, 5, 11, 12, 7, 13, 14, 17, 18, 19, 24, 25, 26, 27, 28, 29] (by decide +kernel) (by decide +kernel)
set_option maxRecDepth 20000 in
theorem gX1_beatsAnHour_X1_span : GoodIn wsX1_beatsAnHour (wsV RX1 81 RX1 yX1_span wsX1_span) := goodIn_app (goodIn_of _ (by decide +kernel)) ggX1_beatsAnHour_X1_span
set_option maxRecDepth 20000 in
theorem ggX1_beatsAnHour_X1_share : GoodIn wsX1_beatsAnHour wsX1_share := goodIn_r _ [19] (by decide +kernel) (by decide +kernel)
set_option maxRecDepth 20000 in
theorem gX1_beatsAnHour_X1_share : GoodIn wsX1_beatsAnHour (va_wsS RX1 67 yX1_share wsX1_share) := goodIn_app (goodIn_of _ (by decide +kernel)) ggX1_beatsAnHour_X1_share
theorem dX1_beatsAnHour_0 : decode cX1_beatsAnHour 0 = .ok (.aload_n 0, 1) := by decide +kernel
theorem dX1_beatsAnHour_1 : decode cX1_beatsAnHour 1 = .ok (.invokevirtual 75, 3) := by decide +kernel
theorem dX1_beatsAnHour_4 : decode cX1_beatsAnHour 4 = .ok (.ifCond .eq 7, 3) := by decide +kernel
theorem dX1_beatsAnHour_7 : decode cX1_beatsAnHour 7 = .ok (.iconst 0, 1) := by decide +kernel
theorem dX1_beatsAnHour_8 : decode cX1_beatsAnHour 8 = .ok (.goto 15, 3) := by decide +kernel
theorem dX1_beatsAnHour_11 : decode cX1_beatsAnHour 11 = .ok (.ldc2_w 79, 3) := by decide +kernel
theorem dX1_beatsAnHour_14 : decode cX1_beatsAnHour 14 = .ok (.aload_n 0, 1) := by decide +kernel
theorem dX1_beatsAnHour_15 : decode cX1_beatsAnHour 15 = .ok (.invokevirtual 81, 3) := by decide +kernel
theorem dX1_beatsAnHour_18 : decode cX1_beatsAnHour 18 = .ok (.i2l, 1) := by decide +kernel
theorem dX1_beatsAnHour_19 : decode cX1_beatsAnHour 19 = .ok (.invokestatic 67, 3) := by decide +kernel
theorem dX1_beatsAnHour_22 : decode cX1_beatsAnHour 22 = .ok (.l2i, 1) := by decide +kernel
theorem dX1_beatsAnHour_23 : decode cX1_beatsAnHour 23 = .ok (.ireturn, 1) := by decide +kernel
set_option maxRecDepth 20000 in
theorem ggX1_wasteAnHour_X1_stalls : GoodIn wsX1_wasteAnHour wsX1_stalls := goodIn_r _ [7, 8, 9, 10, 11, 6, 12, 13, 14, 2, 1, 15, 16, 17, 18, 28, 29, 30, 31, 32, 33] (by decide +kernel) (by decide +kernel)
set_option maxRecDepth 20000 in
theorem gX1_wasteAnHour_X1_stalls : GoodIn wsX1_wasteAnHour (wsV RX1 75 RX1 yX1_stalls wsX1_stalls) := goodIn_app (goodIn_of _ (by decide +kernel)) ggX1_wasteAnHour_X1_stalls
set_option maxRecDepth 20000 in
theorem ggX1_wasteAnHour_X1_beatsAnHour : GoodIn wsX1_wasteAnHour wsX1_beatsAnHour := goodIn_r _ [22, 23, 3, 4, 5, 6, 7, 8, 9, 10, 11, 12, 13, 14, 2, 1, 15, 16, 17, 18, 24, 25, 26, 27, 28, 29, 30, 31, 32, 33] (by decide +kernel) (by decide +kernel)
set_option maxRecDepth 20000 in
theorem gX1_wasteAnHour_X1_beatsAnHour : GoodIn wsX1_wasteAnHour (wsV RX1 85 RX1 yX1_beatsAnHour wsX1_beatsAnHour) := goodIn_app (goodIn_of _ (by decide +kernel)) ggX1_wasteAnHour_X1_beatsAnHour
theorem dX1_wasteAnHour_0 : decode cX1_wasteAnHour 0 = .ok (.aload_n 0, 1) := by decide +kernel
theorem dX1_wasteAnHour_1 : decode cX1_wasteAnHour 1 = .ok (.invokevirtual 75, 3) := by decide +kernel
theorem dX1_wasteAnHour_4 : decode cX1_wasteAnHour 4 = .ok (.ifCond .eq 38, 3) := by decide +kernel
theorem dX1_wasteAnHour_7 : decode cX1_wasteAnHour 7 = .ok (.bipush 36, 2) := by decide +kernel
theorem dX1_wasteAnHour_9 : decode cX1_wasteAnHour 9 = .ok (.aload_n 0, 1) := by decide +kernel
theorem dX1_wasteAnHour_10 : decode cX1_wasteAnHour 10 = .ok (.getfield 9, 3) := by decide +kernel
theorem dX1_wasteAnHour_13 : decode cX1_wasteAnHour 13 = .ok (.iconst 3, 1) := by decide +kernel
theorem dX1_wasteAnHour_14 : decode cX1_wasteAnHour 14 = .ok (.iaload, 1) := by decide +kernel
theorem dX1_wasteAnHour_15 : decode cX1_wasteAnHour 15 = .ok (.imul, 1) := by decide +kernel
theorem dX1_wasteAnHour_16 : decode cX1_wasteAnHour 16 = .ok (.aload_n 0, 1) := by decide +kernel
theorem dX1_wasteAnHour_17 : decode cX1_wasteAnHour 17 = .ok (.getfield 9, 3) := by decide +kernel
theorem dX1_wasteAnHour_20 : decode cX1_wasteAnHour 20 = .ok (.iconst 5, 1) := by decide +kernel
theorem dX1_wasteAnHour_21 : decode cX1_wasteAnHour 21 = .ok (.iaload, 1) := by decide +kernel
theorem dX1_wasteAnHour_22 : decode cX1_wasteAnHour 22 = .ok (.aload_n 0, 1) := by decide +kernel
theorem dX1_wasteAnHour_23 : decode cX1_wasteAnHour 23 = .ok (.getfield 9, 3) := by decide +kernel
theorem dX1_wasteAnHour_26 : decode cX1_wasteAnHour 26 = .ok (.bipush 7, 2) := by decide +kernel
theorem dX1_wasteAnHour_28 : decode cX1_wasteAnHour 28 = .ok (.iaload, 1) := by decide +kernel
theorem dX1_wasteAnHour_29 : decode cX1_wasteAnHour 29 = .ok (.iadd, 1) := by decide +kernel
theorem dX1_wasteAnHour_30 : decode cX1_wasteAnHour 30 = .ok (.imul, 1) := by decide +kernel
theorem dX1_wasteAnHour_31 : decode cX1_wasteAnHour 31 = .ok (.aload_n 0, 1) := by decide +kernel
theorem dX1_wasteAnHour_32 : decode cX1_wasteAnHour 32 = .ok (.getfield 9, 3) := by decide +kernel
theorem dX1_wasteAnHour_35 : decode cX1_wasteAnHour 35 = .ok (.iconst 0, 1) := by decide +kernel
theorem dX1_wasteAnHour_36 : decode cX1_wasteAnHour 36 = .ok (.iaload, 1) := by decide +kernel
theorem dX1_wasteAnHour_37 : decode cX1_wasteAnHour 37 = .ok (.imul, 1) := by decide +kernel
theorem dX1_wasteAnHour_38 : decode cX1_wasteAnHour 38 = .ok (.bipush 10, 2) := by decide +kernel
theorem dX1_wasteAnHour_40 : decode cX1_wasteAnHour 40 = .ok (.idiv, 1) := by decide +kernel
theorem dX1_wasteAnHour_41 : decode cX1_wasteAnHour 41 = .ok (.ireturn, 1) := by decide +kernel
theorem dX1_wasteAnHour_42 : decode cX1_wasteAnHour 42 = .ok (.aload_n 0, 1) := by decide +kernel
theorem dX1_wasteAnHour_43 : decode cX1_wasteAnHour 43 = .ok (.invokevirtual 85, 3) := by decide +kernel
theorem dX1_wasteAnHour_46 : decode cX1_wasteAnHour 46 = .ok (.aload_n 0, 1) := by decide +kernel
theorem dX1_wasteAnHour_47 : decode cX1_wasteAnHour 47 = .ok (.getfield 29, 3) := by decide +kernel
theorem dX1_wasteAnHour_50 : decode cX1_wasteAnHour 50 = .ok (.imul, 1) := by decide +kernel
theorem dX1_wasteAnHour_51 : decode cX1_wasteAnHour 51 = .ok (.ireturn, 1) := by decide +kernel
set_option maxRecDepth 20000 in
theorem ggX1_upAnHour_X1_beatsAnHour : GoodIn wsX1_upAnHour wsX1_beatsAnHour := goodIn_r _ [5, 6, 7, 8, 9, 4, 10, 11, 12, 13, 14, 15, 16, 17, 18, 19, 20, 21, 22, 23, 24, 25, 26, 27, 43, 44, 45, 46, 47, 48] (by decide +kernel) (by decide +kernel)
set_option maxRecDepth 20000 in
theorem gX1_upAnHour_X1_beatsAnHour : GoodIn wsX1_upAnHour (wsV RX1 85 RX1 yX1_beatsAnHour wsX1_beatsAnHour) := goodIn_app (goodIn_of _ (by decide +kernel)) ggX1_upAnHour_X1_beatsAnHour
set_option maxRecDepth 20000 in
theorem ggX1_upAnHour_X1_upOfBeat : GoodIn wsX1_upAnHour wsX1_upOfBeat := goodIn_r _ [31, 11, 17, 19, 18, 32, 33, 34, 12, 13, 14, 4, 15, 16, 20, 21, 22, 23, 35, 36, 37, 38, 39, 40, 41, 42, 43, 44, 45, 46, 47, 48] (by decide +kernel) (by decide +kernel)
set_option maxRecDepth 20000 in
theorem gX1_upAnHour_X1_upOfBeat : GoodIn wsX1_upAnHour (wsV RX1 88 RX1 yX1_upOfBeat wsX1_upOfBeat) := goodIn_app (goodIn_of _ (by decide +kernel)) ggX1_upAnHour_X1_upOfBeat
theorem dX1_upAnHour_0 : decode cX1_upAnHour 0 = .ok (.aload_n 0, 1) := by decide +kernel
theorem dX1_upAnHour_1 : decode cX1_upAnHour 1 = .ok (.invokevirtual 85, 3) := by decide +kernel
theorem dX1_upAnHour_4 : decode cX1_upAnHour 4 = .ok (.aload_n 0, 1) := by decide +kernel
theorem dX1_upAnHour_5 : decode cX1_upAnHour 5 = .ok (.invokevirtual 88, 3) := by decide +kernel
theorem dX1_upAnHour_8 : decode cX1_upAnHour 8 = .ok (.imul, 1) := by decide +kernel
theorem dX1_upAnHour_9 : decode cX1_upAnHour 9 = .ok (.ireturn, 1) := by decide +kernel
set_option maxRecDepth 20000 in
theorem ggX1_drawsAnHour_X1_wasteAnHour : GoodIn wsX1_drawsAnHour wsX1_wasteAnHour := goodIn_r _ [5, 6, 7, 8, 9, 10, 4, 11, 12, 13, 14, 15, 16, 17, 18, 19, 20, 21, 22, 23, 24, 25, 26, 27, 28, 29, 30, 31, 51, 52, 53, 54, 55, 56] (by decide +kernel) (by decide +kernel)
set_option maxRecDepth 20000 in
theorem gX1_drawsAnHour_X1_wasteAnHour : GoodIn wsX1_drawsAnHour (wsV RX1 91 RX1 yX1_wasteAnHour wsX1_wasteAnHour) := goodIn_app (goodIn_of _ (by decide +kernel)) ggX1_drawsAnHour_X1_wasteAnHour
set_option maxRecDepth 20000 in
theorem ggX1_drawsAnHour_X1_upAnHour : GoodIn wsX1_drawsAnHour wsX1_upAnHour := goodIn_r _ [35, 23, 24, 25, 4, 26, 27, 8, 9, 10, 11, 12, 13, 14, 15, 16, 17, 18, 7, 6, 19, 20, 21, 22, 28, 29, 30, 31, 36, 37, 38, 39, 40, 41, 42, 43, 44, 45, 46, 47, 48, 49, 50, 51, 52, 53, 54, 55, 56] (by decide +kernel) (by decide +kernel)
set_option maxRecDepth 20000 in
theorem gX1_drawsAnHour_X1_upAnHour : GoodIn wsX1_drawsAnHour (wsV RX1 94 RX1 yX1_upAnHour wsX1_upAnHour) := goodIn_app (goodIn_of _ (by decide +kernel)) ggX1_drawsAnHour_X1_upAnHour
theorem dX1_drawsAnHour_0 : decode cX1_drawsAnHour 0 = .ok (.aload_n 0, 1) := by decide +kernel
theorem dX1_drawsAnHour_1 : decode cX1_drawsAnHour 1 = .ok (.invokevirtual 91, 3) := by decide +kernel
theorem dX1_drawsAnHour_4 : decode cX1_drawsAnHour 4 = .ok (.aload_n 0, 1) := by decide +kernel
theorem dX1_drawsAnHour_5 : decode cX1_drawsAnHour 5 = .ok (.invokevirtual 94, 3) := by decide +kernel
theorem dX1_drawsAnHour_8 : decode cX1_drawsAnHour 8 = .ok (.iadd, 1) := by decide +kernel
theorem dX1_drawsAnHour_9 : decode cX1_drawsAnHour 9 = .ok (.ireturn, 1) := by decide +kernel
set_option maxRecDepth 20000 in
theorem ggX1_loseAir_X1_stalls : GoodIn wsX1_loseAir wsX1_stalls := goodIn_r _ [13, 14, 15, 16, 17, 12, 18, 19, 20, 21, 1, 22, 23, 24, 25, 33, 34, 35, 36, 37, 38] (by decide +kernel) (by decide +kernel)
set_option maxRecDepth 20000 in
theorem gX1_loseAir_X1_stalls : GoodIn wsX1_loseAir (wsV RX1 75 RX1 yX1_stalls wsX1_stalls) := goodIn_app (goodIn_of _ (by decide +kernel)) ggX1_loseAir_X1_stalls
set_option maxRecDepth 20000 in
theorem ggX1_loseAir_X1_put : GoodIn wsX1_loseAir wsX1_put := goodIn_r _ [29, 1, 19, 30, 31, 32, 33, 34, 35, 36, 37, 38] (by decide +kernel) (by decide +kernel)
set_option maxRecDepth 20000 in
theorem gX1_loseAir_X1_put : GoodIn wsX1_loseAir (wsV RX1 45 RX1 yX1_put wsX1_put) := goodIn_app (goodIn_of _ (by decide +kernel)) ggX1_loseAir_X1_put
theorem dX1_loseAir_0 : decode cX1_loseAir 0 = .ok (.aload_n 0, 1) := by decide +kernel
theorem dX1_loseAir_1 : decode cX1_loseAir 1 = .ok (.invokevirtual 75, 3) := by decide +kernel
theorem dX1_loseAir_4 : decode cX1_loseAir 4 = .ok (.ifCond .eq 4, 3) := by decide +kernel
theorem dX1_loseAir_7 : decode cX1_loseAir 7 = .ok (.return_, 1) := by decide +kernel
theorem dX1_loseAir_8 : decode cX1_loseAir 8 = .ok (.aload_n 0, 1) := by decide +kernel
theorem dX1_loseAir_9 : decode cX1_loseAir 9 = .ok (.getfield 9, 3) := by decide +kernel
theorem dX1_loseAir_12 : decode cX1_loseAir 12 = .ok (.bipush 6, 2) := by decide +kernel
theorem dX1_loseAir_14 : decode cX1_loseAir 14 = .ok (.iaload, 1) := by decide +kernel
theorem dX1_loseAir_15 : decode cX1_loseAir 15 = .ok (.iconst 1, 1) := by decide +kernel
theorem dX1_loseAir_16 : decode cX1_loseAir 16 = .ok (.isub, 1) := by decide +kernel
theorem dX1_loseAir_17 : decode cX1_loseAir 17 = .ok (.aload_n 0, 1) := by decide +kernel
theorem dX1_loseAir_18 : decode cX1_loseAir 18 = .ok (.getfield 9, 3) := by decide +kernel
theorem dX1_loseAir_21 : decode cX1_loseAir 21 = .ok (.bipush 9, 2) := by decide +kernel
theorem dX1_loseAir_23 : decode cX1_loseAir 23 = .ok (.iaload, 1) := by decide +kernel
theorem dX1_loseAir_24 : decode cX1_loseAir 24 = .ok (.isub, 1) := by decide +kernel
theorem dX1_loseAir_25 : decode cX1_loseAir 25 = .ok (.iconst 0, 1) := by decide +kernel
theorem dX1_loseAir_26 : decode cX1_loseAir 26 = .ok (.invokestatic 97, 3) := by decide +kernel
theorem dX1_loseAir_29 : decode cX1_loseAir 29 = .ok (.istore_n 1, 1) := by decide +kernel
theorem dX1_loseAir_30 : decode cX1_loseAir 30 = .ok (.aload_n 0, 1) := by decide +kernel
theorem dX1_loseAir_31 : decode cX1_loseAir 31 = .ok (.bipush 6, 2) := by decide +kernel
theorem dX1_loseAir_33 : decode cX1_loseAir 33 = .ok (.iload_n 1, 1) := by decide +kernel
theorem dX1_loseAir_34 : decode cX1_loseAir 34 = .ok (.aload_n 0, 1) := by decide +kernel
theorem dX1_loseAir_35 : decode cX1_loseAir 35 = .ok (.getfield 9, 3) := by decide +kernel
theorem dX1_loseAir_38 : decode cX1_loseAir 38 = .ok (.bipush 11, 2) := by decide +kernel
theorem dX1_loseAir_40 : decode cX1_loseAir 40 = .ok (.iaload, 1) := by decide +kernel
theorem dX1_loseAir_41 : decode cX1_loseAir 41 = .ok (.iadd, 1) := by decide +kernel
theorem dX1_loseAir_42 : decode cX1_loseAir 42 = .ok (.getstatic 100, 3) := by decide +kernel
theorem dX1_loseAir_45 : decode cX1_loseAir 45 = .ok (.bipush 6, 2) := by decide +kernel
theorem dX1_loseAir_47 : decode cX1_loseAir 47 = .ok (.iaload, 1) := by decide +kernel
theorem dX1_loseAir_48 : decode cX1_loseAir 48 = .ok (.invokestatic 52, 3) := by decide +kernel
theorem dX1_loseAir_51 : decode cX1_loseAir 51 = .ok (.invokevirtual 45, 3) := by decide +kernel
theorem dX1_loseAir_54 : decode cX1_loseAir 54 = .ok (.return_, 1) := by decide +kernel
theorem dX1_share_0 : decode cX1_share 0 = .ok (.lload_n 2, 1) := by decide +kernel
theorem dX1_share_1 : decode cX1_share 1 = .ok (.lconst 0, 1) := by decide +kernel
theorem dX1_share_2 : decode cX1_share 2 = .ok (.lcmp, 1) := by decide +kernel
theorem dX1_share_3 : decode cX1_share 3 = .ok (.ifCond .le 9, 3) := by decide +kernel
theorem dX1_share_6 : decode cX1_share 6 = .ok (.lload_n 0, 1) := by decide +kernel
theorem dX1_share_7 : decode cX1_share 7 = .ok (.lload_n 2, 1) := by decide +kernel
theorem dX1_share_8 : decode cX1_share 8 = .ok (.ldiv, 1) := by decide +kernel
theorem dX1_share_9 : decode cX1_share 9 = .ok (.goto 4, 3) := by decide +kernel
theorem dX1_share_12 : decode cX1_share 12 = .ok (.lconst 0, 1) := by decide +kernel
theorem dX1_share_13 : decode cX1_share 13 = .ok (.lreturn, 1) := by decide +kernel
set_option maxRecDepth 20000 in
theorem ggX1_reckon_X1_share : GoodIn wsX1_reckon wsX1_share := goodIn_r _ [10] (by decide +kernel) (by decide +kernel)
set_option maxRecDepth 20000 in
theorem gX1_reckon_X1_share : GoodIn wsX1_reckon (va_wsS RX1 67 yX1_share wsX1_share) := goodIn_app (goodIn_of _ (by decide +kernel)) ggX1_reckon_X1_share
theorem dX1_reckon_0 : decode cX1_reckon 0 = .ok (.aload_n 0, 1) := by decide +kernel
theorem dX1_reckon_1 : decode cX1_reckon 1 = .ok (.getfield 15, 3) := by decide +kernel
theorem dX1_reckon_4 : decode cX1_reckon 4 = .ok (.ifCond .eq 4, 3) := by decide +kernel
theorem dX1_reckon_7 : decode cX1_reckon 7 = .ok (.return_, 1) := by decide +kernel
theorem dX1_reckon_8 : decode cX1_reckon 8 = .ok (.aload_n 0, 1) := by decide +kernel
theorem dX1_reckon_9 : decode cX1_reckon 9 = .ok (.iconst 1, 1) := by decide +kernel
theorem dX1_reckon_10 : decode cX1_reckon 10 = .ok (.putfield 15, 3) := by decide +kernel
theorem dX1_reckon_13 : decode cX1_reckon 13 = .ok (.aload_n 0, 1) := by decide +kernel
theorem dX1_reckon_14 : decode cX1_reckon 14 = .ok (.iconst 1, 1) := by decide +kernel
theorem dX1_reckon_15 : decode cX1_reckon 15 = .ok (.putfield 19, 3) := by decide +kernel
theorem dX1_reckon_18 : decode cX1_reckon 18 = .ok (.aload_n 0, 1) := by decide +kernel
theorem dX1_reckon_19 : decode cX1_reckon 19 = .ok (.iconst 0, 1) := by decide +kernel
theorem dX1_reckon_20 : decode cX1_reckon 20 = .ok (.putfield 26, 3) := by decide +kernel
theorem dX1_reckon_23 : decode cX1_reckon 23 = .ok (.aload_n 0, 1) := by decide +kernel
theorem dX1_reckon_24 : decode cX1_reckon 24 = .ok (.iconst 0, 1) := by decide +kernel
theorem dX1_reckon_25 : decode cX1_reckon 25 = .ok (.putfield 29, 3) := by decide +kernel
theorem dX1_reckon_28 : decode cX1_reckon 28 = .ok (.sipush 200, 3) := by decide +kernel
theorem dX1_reckon_31 : decode cX1_reckon 31 = .ok (.aload_n 0, 1) := by decide +kernel
theorem dX1_reckon_32 : decode cX1_reckon 32 = .ok (.getfield 9, 3) := by decide +kernel
theorem dX1_reckon_35 : decode cX1_reckon 35 = .ok (.iconst 0, 1) := by decide +kernel
theorem dX1_reckon_36 : decode cX1_reckon 36 = .ok (.iaload, 1) := by decide +kernel
theorem dX1_reckon_37 : decode cX1_reckon 37 = .ok (.imul, 1) := by decide +kernel
theorem dX1_reckon_38 : decode cX1_reckon 38 = .ok (.i2l, 1) := by decide +kernel
theorem dX1_reckon_39 : decode cX1_reckon 39 = .ok (.aload_n 0, 1) := by decide +kernel
theorem dX1_reckon_40 : decode cX1_reckon 40 = .ok (.getfield 9, 3) := by decide +kernel
theorem dX1_reckon_43 : decode cX1_reckon 43 = .ok (.iconst 2, 1) := by decide +kernel
theorem dX1_reckon_44 : decode cX1_reckon 44 = .ok (.iaload, 1) := by decide +kernel
theorem dX1_reckon_45 : decode cX1_reckon 45 = .ok (.i2l, 1) := by decide +kernel
theorem dX1_reckon_46 : decode cX1_reckon 46 = .ok (.invokestatic 67, 3) := by decide +kernel
theorem dX1_reckon_49 : decode cX1_reckon 49 = .ok (.l2i, 1) := by decide +kernel
theorem dX1_reckon_50 : decode cX1_reckon 50 = .ok (.istore_n 1, 1) := by decide +kernel
theorem dX1_reckon_51 : decode cX1_reckon 51 = .ok (.iconst 3, 1) := by decide +kernel
theorem dX1_reckon_52 : decode cX1_reckon 52 = .ok (.aload_n 0, 1) := by decide +kernel
theorem dX1_reckon_53 : decode cX1_reckon 53 = .ok (.getfield 9, 3) := by decide +kernel
theorem dX1_reckon_56 : decode cX1_reckon 56 = .ok (.bipush 8, 2) := by decide +kernel
theorem dX1_reckon_58 : decode cX1_reckon 58 = .ok (.iaload, 1) := by decide +kernel
theorem dX1_reckon_59 : decode cX1_reckon 59 = .ok (.iadd, 1) := by decide +kernel
theorem dX1_reckon_60 : decode cX1_reckon 60 = .ok (.istore_n 2, 1) := by decide +kernel
theorem dX1_reckon_61 : decode cX1_reckon 61 = .ok (.aload_n 0, 1) := by decide +kernel
theorem dX1_reckon_62 : decode cX1_reckon 62 = .ok (.getfield 9, 3) := by decide +kernel
theorem dX1_reckon_65 : decode cX1_reckon 65 = .ok (.iconst 5, 1) := by decide +kernel
theorem dX1_reckon_66 : decode cX1_reckon 66 = .ok (.iaload, 1) := by decide +kernel
theorem dX1_reckon_67 : decode cX1_reckon 67 = .ok (.aload_n 0, 1) := by decide +kernel
theorem dX1_reckon_68 : decode cX1_reckon 68 = .ok (.getfield 9, 3) := by decide +kernel
theorem dX1_reckon_71 : decode cX1_reckon 71 = .ok (.bipush 7, 2) := by decide +kernel
theorem dX1_reckon_73 : decode cX1_reckon 73 = .ok (.iaload, 1) := by decide +kernel
theorem dX1_reckon_74 : decode cX1_reckon 74 = .ok (.iadd, 1) := by decide +kernel
theorem dX1_reckon_75 : decode cX1_reckon 75 = .ok (.istore_n 3, 1) := by decide +kernel
theorem dX1_reckon_76 : decode cX1_reckon 76 = .ok (.aload_n 0, 1) := by decide +kernel
theorem dX1_reckon_77 : decode cX1_reckon 77 = .ok (.getfield 9, 3) := by decide +kernel
theorem dX1_reckon_80 : decode cX1_reckon 80 = .ok (.iconst 3, 1) := by decide +kernel
theorem dX1_reckon_81 : decode cX1_reckon 81 = .ok (.iaload, 1) := by decide +kernel
theorem dX1_reckon_82 : decode cX1_reckon 82 = .ok (.iload_n 3, 1) := by decide +kernel
theorem dX1_reckon_83 : decode cX1_reckon 83 = .ok (.imul, 1) := by decide +kernel
theorem dX1_reckon_84 : decode cX1_reckon 84 = .ok (.istore 4, 2) := by decide +kernel
theorem dX1_reckon_86 : decode cX1_reckon 86 = .ok (.aload_n 0, 1) := by decide +kernel
theorem dX1_reckon_87 : decode cX1_reckon 87 = .ok (.getfield 9, 3) := by decide +kernel
theorem dX1_reckon_90 : decode cX1_reckon 90 = .ok (.iconst 4, 1) := by decide +kernel
theorem dX1_reckon_91 : decode cX1_reckon 91 = .ok (.iaload, 1) := by decide +kernel
theorem dX1_reckon_92 : decode cX1_reckon 92 = .ok (.iload_n 3, 1) := by decide +kernel
theorem dX1_reckon_93 : decode cX1_reckon 93 = .ok (.imul, 1) := by decide +kernel
theorem dX1_reckon_94 : decode cX1_reckon 94 = .ok (.istore 5, 2) := by decide +kernel
theorem dX1_reckon_96 : decode cX1_reckon 96 = .ok (.aload_n 0, 1) := by decide +kernel
theorem dX1_reckon_97 : decode cX1_reckon 97 = .ok (.iconst 1, 1) := by decide +kernel
theorem dX1_reckon_98 : decode cX1_reckon 98 = .ok (.putfield 22, 3) := by decide +kernel
theorem dX1_reckon_101 : decode cX1_reckon 101 = .ok (.aload_n 0, 1) := by decide +kernel
theorem dX1_reckon_102 : decode cX1_reckon 102 = .ok (.getfield 22, 3) := by decide +kernel
theorem dX1_reckon_105 : decode cX1_reckon 105 = .ok (.sipush 400, 3) := by decide +kernel
theorem dX1_reckon_108 : decode cX1_reckon 108 = .ok (.if_icmp .gt 90, 3) := by decide +kernel
theorem dX1_reckon_111 : decode cX1_reckon 111 = .ok (.aload_n 0, 1) := by decide +kernel
theorem dX1_reckon_112 : decode cX1_reckon 112 = .ok (.getfield 26, 3) := by decide +kernel
theorem dX1_reckon_115 : decode cX1_reckon 115 = .ok (.istore 6, 2) := by decide +kernel
theorem dX1_reckon_117 : decode cX1_reckon 117 = .ok (.aload_n 0, 1) := by decide +kernel
theorem dX1_reckon_118 : decode cX1_reckon 118 = .ok (.iload 6, 2) := by decide +kernel
theorem dX1_reckon_120 : decode cX1_reckon 120 = .ok (.iload_n 1, 1) := by decide +kernel
theorem dX1_reckon_121 : decode cX1_reckon 121 = .ok (.iadd, 1) := by decide +kernel
theorem dX1_reckon_122 : decode cX1_reckon 122 = .ok (.iload 6, 2) := by decide +kernel
theorem dX1_reckon_124 : decode cX1_reckon 124 = .ok (.iload_n 2, 1) := by decide +kernel
theorem dX1_reckon_125 : decode cX1_reckon 125 = .ok (.imul, 1) := by decide +kernel
theorem dX1_reckon_126 : decode cX1_reckon 126 = .ok (.bipush 100, 2) := by decide +kernel
theorem dX1_reckon_128 : decode cX1_reckon 128 = .ok (.idiv, 1) := by decide +kernel
theorem dX1_reckon_129 : decode cX1_reckon 129 = .ok (.isub, 1) := by decide +kernel
theorem dX1_reckon_130 : decode cX1_reckon 130 = .ok (.putfield 26, 3) := by decide +kernel
theorem dX1_reckon_133 : decode cX1_reckon 133 = .ok (.aload_n 0, 1) := by decide +kernel
theorem dX1_reckon_134 : decode cX1_reckon 134 = .ok (.dup, 1) := by decide +kernel
theorem dX1_reckon_135 : decode cX1_reckon 135 = .ok (.getfield 29, 3) := by decide +kernel
theorem dX1_reckon_138 : decode cX1_reckon 138 = .ok (.aload_n 0, 1) := by decide +kernel
theorem dX1_reckon_139 : decode cX1_reckon 139 = .ok (.getfield 26, 3) := by decide +kernel
theorem dX1_reckon_142 : decode cX1_reckon 142 = .ok (.iload 4, 2) := by decide +kernel
theorem dX1_reckon_144 : decode cX1_reckon 144 = .ok (.imul, 1) := by decide +kernel
theorem dX1_reckon_145 : decode cX1_reckon 145 = .ok (.bipush 100, 2) := by decide +kernel
theorem dX1_reckon_147 : decode cX1_reckon 147 = .ok (.idiv, 1) := by decide +kernel
theorem dX1_reckon_148 : decode cX1_reckon 148 = .ok (.iadd, 1) := by decide +kernel
theorem dX1_reckon_149 : decode cX1_reckon 149 = .ok (.putfield 29, 3) := by decide +kernel
theorem dX1_reckon_152 : decode cX1_reckon 152 = .ok (.aload_n 0, 1) := by decide +kernel
theorem dX1_reckon_153 : decode cX1_reckon 153 = .ok (.getfield 26, 3) := by decide +kernel
theorem dX1_reckon_156 : decode cX1_reckon 156 = .ok (.aload_n 0, 1) := by decide +kernel
theorem dX1_reckon_157 : decode cX1_reckon 157 = .ok (.getfield 26, 3) := by decide +kernel
theorem dX1_reckon_160 : decode cX1_reckon 160 = .ok (.imul, 1) := by decide +kernel
theorem dX1_reckon_161 : decode cX1_reckon 161 = .ok (.bipush 50, 2) := by decide +kernel
theorem dX1_reckon_163 : decode cX1_reckon 163 = .ok (.idiv, 1) := by decide +kernel
theorem dX1_reckon_164 : decode cX1_reckon 164 = .ok (.iload 5, 2) := by decide +kernel
theorem dX1_reckon_166 : decode cX1_reckon 166 = .ok (.if_icmp .lt 9, 3) := by decide +kernel
theorem dX1_reckon_169 : decode cX1_reckon 169 = .ok (.aload_n 0, 1) := by decide +kernel
theorem dX1_reckon_170 : decode cX1_reckon 170 = .ok (.iconst 0, 1) := by decide +kernel
theorem dX1_reckon_171 : decode cX1_reckon 171 = .ok (.putfield 19, 3) := by decide +kernel
theorem dX1_reckon_174 : decode cX1_reckon 174 = .ok (.return_, 1) := by decide +kernel
theorem dX1_reckon_175 : decode cX1_reckon 175 = .ok (.aload_n 0, 1) := by decide +kernel
theorem dX1_reckon_176 : decode cX1_reckon 176 = .ok (.getfield 26, 3) := by decide +kernel
theorem dX1_reckon_179 : decode cX1_reckon 179 = .ok (.iload 6, 2) := by decide +kernel
theorem dX1_reckon_181 : decode cX1_reckon 181 = .ok (.if_icmp .gt 4, 3) := by decide +kernel
theorem dX1_reckon_184 : decode cX1_reckon 184 = .ok (.return_, 1) := by decide +kernel
theorem dX1_reckon_185 : decode cX1_reckon 185 = .ok (.aload_n 0, 1) := by decide +kernel
theorem dX1_reckon_186 : decode cX1_reckon 186 = .ok (.dup, 1) := by decide +kernel
theorem dX1_reckon_187 : decode cX1_reckon 187 = .ok (.getfield 22, 3) := by decide +kernel
theorem dX1_reckon_190 : decode cX1_reckon 190 = .ok (.iconst 1, 1) := by decide +kernel
theorem dX1_reckon_191 : decode cX1_reckon 191 = .ok (.iadd, 1) := by decide +kernel
theorem dX1_reckon_192 : decode cX1_reckon 192 = .ok (.putfield 22, 3) := by decide +kernel
theorem dX1_reckon_195 : decode cX1_reckon 195 = .ok (.goto (-94), 3) := by decide +kernel
theorem dX1_reckon_198 : decode cX1_reckon 198 = .ok (.return_, 1) := by decide +kernel
theorem dX2_init_0 : decode cX2_init 0 = .ok (.aload_n 0, 1) := by decide +kernel
theorem dX2_init_1 : decode cX2_init 1 = .ok (.invokespecial 3, 3) := by decide +kernel
theorem dX2_init_4 : decode cX2_init 4 = .ok (.aload_n 0, 1) := by decide +kernel
theorem dX2_init_5 : decode cX2_init 5 = .ok (.bipush 12, 2) := by decide +kernel
theorem dX2_init_7 : decode cX2_init 7 = .ok (.newarray .int, 2) := by decide +kernel
theorem dX2_init_9 : decode cX2_init 9 = .ok (.putfield 11, 3) := by decide +kernel
theorem dX2_init_12 : decode cX2_init 12 = .ok (.aload_n 0, 1) := by decide +kernel
theorem dX2_init_13 : decode cX2_init 13 = .ok (.bipush 12, 2) := by decide +kernel
theorem dX2_init_15 : decode cX2_init 15 = .ok (.newarray .int, 2) := by decide +kernel
theorem dX2_init_17 : decode cX2_init 17 = .ok (.putfield 15, 3) := by decide +kernel
theorem dX2_init_20 : decode cX2_init 20 = .ok (.aload_n 0, 1) := by decide +kernel
theorem dX2_init_21 : decode cX2_init 21 = .ok (.bipush 12, 2) := by decide +kernel
theorem dX2_init_23 : decode cX2_init 23 = .ok (.newarray .int, 2) := by decide +kernel
theorem dX2_init_25 : decode cX2_init 25 = .ok (.putfield 18, 3) := by decide +kernel
theorem dX2_init_28 : decode cX2_init 28 = .ok (.aload_n 0, 1) := by decide +kernel
theorem dX2_init_29 : decode cX2_init 29 = .ok (.iconst 0, 1) := by decide +kernel
theorem dX2_init_30 : decode cX2_init 30 = .ok (.putfield 21, 3) := by decide +kernel
theorem dX2_init_33 : decode cX2_init 33 = .ok (.aload_n 0, 1) := by decide +kernel
theorem dX2_init_34 : decode cX2_init 34 = .ok (.bipush 20, 2) := by decide +kernel
theorem dX2_init_36 : decode cX2_init 36 = .ok (.putfield 25, 3) := by decide +kernel
theorem dX2_init_39 : decode cX2_init 39 = .ok (.aload_n 0, 1) := by decide +kernel
theorem dX2_init_40 : decode cX2_init 40 = .ok (.iconst 5, 1) := by decide +kernel
theorem dX2_init_41 : decode cX2_init 41 = .ok (.putfield 28, 3) := by decide +kernel
theorem dX2_init_44 : decode cX2_init 44 = .ok (.return_, 1) := by decide +kernel
theorem dX2_keep_0 : decode cX2_keep 0 = .ok (.aload_n 0, 1) := by decide +kernel
theorem dX2_keep_1 : decode cX2_keep 1 = .ok (.getfield 21, 3) := by decide +kernel
theorem dX2_keep_4 : decode cX2_keep 4 = .ok (.bipush 12, 2) := by decide +kernel
theorem dX2_keep_6 : decode cX2_keep 6 = .ok (.if_icmp .lt 6, 3) := by decide +kernel
theorem dX2_keep_9 : decode cX2_keep 9 = .ok (.bipush (-3), 2) := by decide +kernel
theorem dX2_keep_11 : decode cX2_keep 11 = .ok (.ireturn, 1) := by decide +kernel
theorem dX2_keep_12 : decode cX2_keep 12 = .ok (.aload_n 0, 1) := by decide +kernel
theorem dX2_keep_13 : decode cX2_keep 13 = .ok (.getfield 11, 3) := by decide +kernel
theorem dX2_keep_16 : decode cX2_keep 16 = .ok (.aload_n 0, 1) := by decide +kernel
theorem dX2_keep_17 : decode cX2_keep 17 = .ok (.getfield 21, 3) := by decide +kernel
theorem dX2_keep_20 : decode cX2_keep 20 = .ok (.iload_n 1, 1) := by decide +kernel
theorem dX2_keep_21 : decode cX2_keep 21 = .ok (.iastore, 1) := by decide +kernel
theorem dX2_keep_22 : decode cX2_keep 22 = .ok (.aload_n 0, 1) := by decide +kernel
theorem dX2_keep_23 : decode cX2_keep 23 = .ok (.getfield 15, 3) := by decide +kernel
theorem dX2_keep_26 : decode cX2_keep 26 = .ok (.aload_n 0, 1) := by decide +kernel
theorem dX2_keep_27 : decode cX2_keep 27 = .ok (.getfield 21, 3) := by decide +kernel
theorem dX2_keep_30 : decode cX2_keep 30 = .ok (.iload_n 2, 1) := by decide +kernel
theorem dX2_keep_31 : decode cX2_keep 31 = .ok (.iastore, 1) := by decide +kernel
theorem dX2_keep_32 : decode cX2_keep 32 = .ok (.aload_n 0, 1) := by decide +kernel
theorem dX2_keep_33 : decode cX2_keep 33 = .ok (.getfield 18, 3) := by decide +kernel
theorem dX2_keep_36 : decode cX2_keep 36 = .ok (.aload_n 0, 1) := by decide +kernel
theorem dX2_keep_37 : decode cX2_keep 37 = .ok (.getfield 21, 3) := by decide +kernel
theorem dX2_keep_40 : decode cX2_keep 40 = .ok (.iload_n 3, 1) := by decide +kernel
theorem dX2_keep_41 : decode cX2_keep 41 = .ok (.iastore, 1) := by decide +kernel
theorem dX2_keep_42 : decode cX2_keep 42 = .ok (.aload_n 0, 1) := by decide +kernel
theorem dX2_keep_43 : decode cX2_keep 43 = .ok (.dup, 1) := by decide +kernel
theorem dX2_keep_44 : decode cX2_keep 44 = .ok (.getfield 21, 3) := by decide +kernel
theorem dX2_keep_47 : decode cX2_keep 47 = .ok (.iconst 1, 1) := by decide +kernel
theorem dX2_keep_48 : decode cX2_keep 48 = .ok (.iadd, 1) := by decide +kernel
theorem dX2_keep_49 : decode cX2_keep 49 = .ok (.putfield 21, 3) := by decide +kernel
theorem dX2_keep_52 : decode cX2_keep 52 = .ok (.aload_n 0, 1) := by decide +kernel
theorem dX2_keep_53 : decode cX2_keep 53 = .ok (.getfield 21, 3) := by decide +kernel
theorem dX2_keep_56 : decode cX2_keep 56 = .ok (.ireturn, 1) := by decide +kernel
set_option maxRecDepth 20000 in
theorem ggX2_agreeWith_X1_beatsAnHour : GoodIn wsX2_agreeWith wsX1_beatsAnHour := goodIn_r _ [7, 8, 9, 10, 11, 6, 12, 13, 14, 15, 16, 17, 18, 19, 20, 21, 22, 23, 24, 25, 26, 27, 28, 29, 72, 73, 74, 75, 76, 77] (by decide +kernel) (by decide +kernel)
set_option maxRecDepth 20000 in
theorem gX2_agreeWith_X1_beatsAnHour : GoodIn wsX2_agreeWith (wsV RX2 31 RX1 yX1_beatsAnHour wsX1_beatsAnHour) := goodIn_app (goodIn_of _ (by decide +kernel)) ggX2_agreeWith_X1_beatsAnHour
set_option maxRecDepth 20000 in
theorem ggX2_agreeWith_X1_upAnHour : GoodIn wsX2_agreeWith wsX1_upAnHour := goodIn_r _ [33, 34, 4, 5, 6, 7, 8, 9, 10, 11, 12, 13, 14, 15, 16, 17, 18, 19, 20, 21, 22, 23, 24, 25, 26, 27, 28, 29, 35, 36, 37, 38, 39, 40, 41, 42, 43, 44, 45, 46, 47, 48, 49, 72, 73, 74, 75, 76, 77] (by decide +kernel) (by decide +kernel)
set_option maxRecDepth 20000 in
theorem gX2_agreeWith_X1_upAnHour : GoodIn wsX2_agreeWith (wsV RX2 37 RX1 yX1_upAnHour wsX1_upAnHour) := goodIn_app (goodIn_of _ (by decide +kernel)) ggX2_agreeWith_X1_upAnHour
set_option maxRecDepth 20000 in
theorem ggX2_agreeWith_X2_isNearBeats : GoodIn wsX2_agreeWith wsX2_isNearBeats := goodIn_r _ [54, 55, 56, 57, 48, 58, 59, 66, 67, 68, 69, 70, 71] (by decide +kernel) (by decide +kernel)
set_option maxRecDepth 20000 in
theorem gX2_agreeWith_X2_isNearBeats : GoodIn wsX2_agreeWith (wsV RX2 40 RX2 yX2_isNearBeats wsX2_isNearBeats) := goodIn_app (goodIn_of _ (by decide +kernel)) ggX2_agreeWith_X2_isNearBeats
set_option maxRecDepth 20000 in
theorem ggX2_agreeWith_X2_isNearUp : GoodIn wsX2_agreeWith wsX2_isNearUp := goodIn_r _ [63, 64, 56, 57, 48, 58, 65, 66, 67, 68, 69, 70, 71] (by decide +kernel) (by decide +kernel)
set_option maxRecDepth 20000 in
theorem gX2_agreeWith_X2_isNearUp : GoodIn wsX2_agreeWith (wsV RX2 44 RX2 yX2_isNearUp wsX2_isNearUp) := goodIn_app (goodIn_of _ (by decide +kernel)) ggX2_agreeWith_X2_isNearUp
theorem dX2_agreeWith_0 : decode cX2_agreeWith 0 = .ok (.aload_n 2, 1) := by decide +kernel
theorem dX2_agreeWith_1 : decode cX2_agreeWith 1 = .ok (.invokevirtual 31, 3) := by decide +kernel
theorem dX2_agreeWith_4 : decode cX2_agreeWith 4 = .ok (.istore_n 3, 1) := by decide +kernel
theorem dX2_agreeWith_5 : decode cX2_agreeWith 5 = .ok (.aload_n 2, 1) := by decide +kernel
theorem dX2_agreeWith_6 : decode cX2_agreeWith 6 = .ok (.invokevirtual 37, 3) := by decide +kernel
theorem dX2_agreeWith_9 : decode cX2_agreeWith 9 = .ok (.istore 4, 2) := by decide +kernel
theorem dX2_agreeWith_11 : decode cX2_agreeWith 11 = .ok (.iconst 0, 1) := by decide +kernel
theorem dX2_agreeWith_12 : decode cX2_agreeWith 12 = .ok (.istore 5, 2) := by decide +kernel
theorem dX2_agreeWith_14 : decode cX2_agreeWith 14 = .ok (.iload 5, 2) := by decide +kernel
theorem dX2_agreeWith_16 : decode cX2_agreeWith 16 = .ok (.aload_n 0, 1) := by decide +kernel
theorem dX2_agreeWith_17 : decode cX2_agreeWith 17 = .ok (.getfield 21, 3) := by decide +kernel
theorem dX2_agreeWith_20 : decode cX2_agreeWith 20 = .ok (.if_icmp .ge 43, 3) := by decide +kernel
theorem dX2_agreeWith_23 : decode cX2_agreeWith 23 = .ok (.aload_n 0, 1) := by decide +kernel
theorem dX2_agreeWith_24 : decode cX2_agreeWith 24 = .ok (.getfield 11, 3) := by decide +kernel
theorem dX2_agreeWith_27 : decode cX2_agreeWith 27 = .ok (.iload 5, 2) := by decide +kernel
theorem dX2_agreeWith_29 : decode cX2_agreeWith 29 = .ok (.iaload, 1) := by decide +kernel
theorem dX2_agreeWith_30 : decode cX2_agreeWith 30 = .ok (.iload_n 1, 1) := by decide +kernel
theorem dX2_agreeWith_31 : decode cX2_agreeWith 31 = .ok (.if_icmp .ne 26, 3) := by decide +kernel
theorem dX2_agreeWith_34 : decode cX2_agreeWith 34 = .ok (.aload_n 0, 1) := by decide +kernel
theorem dX2_agreeWith_35 : decode cX2_agreeWith 35 = .ok (.iload 5, 2) := by decide +kernel
theorem dX2_agreeWith_37 : decode cX2_agreeWith 37 = .ok (.iload_n 3, 1) := by decide +kernel
theorem dX2_agreeWith_38 : decode cX2_agreeWith 38 = .ok (.invokevirtual 40, 3) := by decide +kernel
theorem dX2_agreeWith_41 : decode cX2_agreeWith 41 = .ok (.ifCond .eq 14, 3) := by decide +kernel
theorem dX2_agreeWith_44 : decode cX2_agreeWith 44 = .ok (.aload_n 0, 1) := by decide +kernel
theorem dX2_agreeWith_45 : decode cX2_agreeWith 45 = .ok (.iload 5, 2) := by decide +kernel
theorem dX2_agreeWith_47 : decode cX2_agreeWith 47 = .ok (.iload 4, 2) := by decide +kernel
theorem dX2_agreeWith_49 : decode cX2_agreeWith 49 = .ok (.invokevirtual 44, 3) := by decide +kernel
theorem dX2_agreeWith_52 : decode cX2_agreeWith 52 = .ok (.ifCond .ne 5, 3) := by decide +kernel
theorem dX2_agreeWith_55 : decode cX2_agreeWith 55 = .ok (.iconst 0, 1) := by decide +kernel
theorem dX2_agreeWith_56 : decode cX2_agreeWith 56 = .ok (.ireturn, 1) := by decide +kernel
theorem dX2_agreeWith_57 : decode cX2_agreeWith 57 = .ok (.iinc 5 1, 3) := by decide +kernel
theorem dX2_agreeWith_60 : decode cX2_agreeWith 60 = .ok (.goto (-46), 3) := by decide +kernel
theorem dX2_agreeWith_63 : decode cX2_agreeWith 63 = .ok (.iconst 1, 1) := by decide +kernel
theorem dX2_agreeWith_64 : decode cX2_agreeWith 64 = .ok (.ireturn, 1) := by decide +kernel
theorem dX2_isNearBeats_0 : decode cX2_isNearBeats 0 = .ok (.aload_n 0, 1) := by decide +kernel
theorem dX2_isNearBeats_1 : decode cX2_isNearBeats 1 = .ok (.getfield 15, 3) := by decide +kernel
theorem dX2_isNearBeats_4 : decode cX2_isNearBeats 4 = .ok (.iload_n 1, 1) := by decide +kernel
theorem dX2_isNearBeats_5 : decode cX2_isNearBeats 5 = .ok (.iaload, 1) := by decide +kernel
theorem dX2_isNearBeats_6 : decode cX2_isNearBeats 6 = .ok (.bipush (-9), 2) := by decide +kernel
theorem dX2_isNearBeats_8 : decode cX2_isNearBeats 8 = .ok (.if_icmp .eq 21, 3) := by decide +kernel
theorem dX2_isNearBeats_11 : decode cX2_isNearBeats 11 = .ok (.iload_n 2, 1) := by decide +kernel
theorem dX2_isNearBeats_12 : decode cX2_isNearBeats 12 = .ok (.aload_n 0, 1) := by decide +kernel
theorem dX2_isNearBeats_13 : decode cX2_isNearBeats 13 = .ok (.getfield 15, 3) := by decide +kernel
theorem dX2_isNearBeats_16 : decode cX2_isNearBeats 16 = .ok (.iload_n 1, 1) := by decide +kernel
theorem dX2_isNearBeats_17 : decode cX2_isNearBeats 17 = .ok (.iaload, 1) := by decide +kernel
theorem dX2_isNearBeats_18 : decode cX2_isNearBeats 18 = .ok (.isub, 1) := by decide +kernel
theorem dX2_isNearBeats_19 : decode cX2_isNearBeats 19 = .ok (.invokestatic 47, 3) := by decide +kernel
theorem dX2_isNearBeats_22 : decode cX2_isNearBeats 22 = .ok (.aload_n 0, 1) := by decide +kernel
theorem dX2_isNearBeats_23 : decode cX2_isNearBeats 23 = .ok (.getfield 25, 3) := by decide +kernel
theorem dX2_isNearBeats_26 : decode cX2_isNearBeats 26 = .ok (.if_icmp .gt 7, 3) := by decide +kernel
theorem dX2_isNearBeats_29 : decode cX2_isNearBeats 29 = .ok (.iconst 1, 1) := by decide +kernel
theorem dX2_isNearBeats_30 : decode cX2_isNearBeats 30 = .ok (.goto 4, 3) := by decide +kernel
theorem dX2_isNearBeats_33 : decode cX2_isNearBeats 33 = .ok (.iconst 0, 1) := by decide +kernel
theorem dX2_isNearBeats_34 : decode cX2_isNearBeats 34 = .ok (.ireturn, 1) := by decide +kernel
theorem dX2_isNearUp_0 : decode cX2_isNearUp 0 = .ok (.aload_n 0, 1) := by decide +kernel
theorem dX2_isNearUp_1 : decode cX2_isNearUp 1 = .ok (.getfield 18, 3) := by decide +kernel
theorem dX2_isNearUp_4 : decode cX2_isNearUp 4 = .ok (.iload_n 1, 1) := by decide +kernel
theorem dX2_isNearUp_5 : decode cX2_isNearUp 5 = .ok (.iaload, 1) := by decide +kernel
theorem dX2_isNearUp_6 : decode cX2_isNearUp 6 = .ok (.bipush (-9), 2) := by decide +kernel
theorem dX2_isNearUp_8 : decode cX2_isNearUp 8 = .ok (.if_icmp .eq 31, 3) := by decide +kernel
theorem dX2_isNearUp_11 : decode cX2_isNearUp 11 = .ok (.iload_n 2, 1) := by decide +kernel
theorem dX2_isNearUp_12 : decode cX2_isNearUp 12 = .ok (.aload_n 0, 1) := by decide +kernel
theorem dX2_isNearUp_13 : decode cX2_isNearUp 13 = .ok (.getfield 18, 3) := by decide +kernel
theorem dX2_isNearUp_16 : decode cX2_isNearUp 16 = .ok (.iload_n 1, 1) := by decide +kernel
theorem dX2_isNearUp_17 : decode cX2_isNearUp 17 = .ok (.iaload, 1) := by decide +kernel
theorem dX2_isNearUp_18 : decode cX2_isNearUp 18 = .ok (.isub, 1) := by decide +kernel
theorem dX2_isNearUp_19 : decode cX2_isNearUp 19 = .ok (.invokestatic 47, 3) := by decide +kernel
theorem dX2_isNearUp_22 : decode cX2_isNearUp 22 = .ok (.aload_n 0, 1) := by decide +kernel
theorem dX2_isNearUp_23 : decode cX2_isNearUp 23 = .ok (.getfield 18, 3) := by decide +kernel
theorem dX2_isNearUp_26 : decode cX2_isNearUp 26 = .ok (.iload_n 1, 1) := by decide +kernel
theorem dX2_isNearUp_27 : decode cX2_isNearUp 27 = .ok (.iaload, 1) := by decide +kernel
theorem dX2_isNearUp_28 : decode cX2_isNearUp 28 = .ok (.aload_n 0, 1) := by decide +kernel
theorem dX2_isNearUp_29 : decode cX2_isNearUp 29 = .ok (.getfield 28, 3) := by decide +kernel
theorem dX2_isNearUp_32 : decode cX2_isNearUp 32 = .ok (.imul, 1) := by decide +kernel
theorem dX2_isNearUp_33 : decode cX2_isNearUp 33 = .ok (.bipush 100, 2) := by decide +kernel
theorem dX2_isNearUp_35 : decode cX2_isNearUp 35 = .ok (.idiv, 1) := by decide +kernel
theorem dX2_isNearUp_36 : decode cX2_isNearUp 36 = .ok (.if_icmp .gt 7, 3) := by decide +kernel
theorem dX2_isNearUp_39 : decode cX2_isNearUp 39 = .ok (.iconst 1, 1) := by decide +kernel
theorem dX2_isNearUp_40 : decode cX2_isNearUp 40 = .ok (.goto 4, 3) := by decide +kernel
theorem dX2_isNearUp_43 : decode cX2_isNearUp 43 = .ok (.iconst 0, 1) := by decide +kernel
theorem dX2_isNearUp_44 : decode cX2_isNearUp 44 = .ok (.ireturn, 1) := by decide +kernel
theorem dX3_init_0 : decode cX3_init 0 = .ok (.aload_n 0, 1) := by decide +kernel
theorem dX3_init_1 : decode cX3_init 1 = .ok (.invokespecial 3, 3) := by decide +kernel
theorem dX3_init_4 : decode cX3_init 4 = .ok (.aload_n 0, 1) := by decide +kernel
theorem dX3_init_5 : decode cX3_init 5 = .ok (.sipush 150, 3) := by decide +kernel
theorem dX3_init_8 : decode cX3_init 8 = .ok (.newarray .byte, 2) := by decide +kernel
theorem dX3_init_10 : decode cX3_init 10 = .ok (.putfield 11, 3) := by decide +kernel
theorem dX3_init_13 : decode cX3_init 13 = .ok (.aload_n 0, 1) := by decide +kernel
theorem dX3_init_14 : decode cX3_init 14 = .ok (.iconst 0, 1) := by decide +kernel
theorem dX3_init_15 : decode cX3_init 15 = .ok (.putfield 15, 3) := by decide +kernel
theorem dX3_init_18 : decode cX3_init 18 = .ok (.aload_n 0, 1) := by decide +kernel
theorem dX3_init_19 : decode cX3_init 19 = .ok (.iconst 0, 1) := by decide +kernel
theorem dX3_init_20 : decode cX3_init 20 = .ok (.putfield 19, 3) := by decide +kernel
theorem dX3_init_23 : decode cX3_init 23 = .ok (.aload_n 0, 1) := by decide +kernel
theorem dX3_init_24 : decode cX3_init 24 = .ok (.bipush 120, 2) := by decide +kernel
theorem dX3_init_26 : decode cX3_init 26 = .ok (.newarray .int, 2) := by decide +kernel
theorem dX3_init_28 : decode cX3_init 28 = .ok (.putfield 22, 3) := by decide +kernel
theorem dX3_init_31 : decode cX3_init 31 = .ok (.aload_n 0, 1) := by decide +kernel
theorem dX3_init_32 : decode cX3_init 32 = .ok (.bipush 120, 2) := by decide +kernel
theorem dX3_init_34 : decode cX3_init 34 = .ok (.newarray .int, 2) := by decide +kernel
theorem dX3_init_36 : decode cX3_init 36 = .ok (.putfield 26, 3) := by decide +kernel
theorem dX3_init_39 : decode cX3_init 39 = .ok (.aload_n 0, 1) := by decide +kernel
theorem dX3_init_40 : decode cX3_init 40 = .ok (.iconst 0, 1) := by decide +kernel
theorem dX3_init_41 : decode cX3_init 41 = .ok (.putfield 29, 3) := by decide +kernel
theorem dX3_init_44 : decode cX3_init 44 = .ok (.aload_n 0, 1) := by decide +kernel
theorem dX3_init_45 : decode cX3_init 45 = .ok (.iconst 0, 1) := by decide +kernel
theorem dX3_init_46 : decode cX3_init 46 = .ok (.putfield 32, 3) := by decide +kernel
theorem dX3_init_49 : decode cX3_init 49 = .ok (.return_, 1) := by decide +kernel
theorem dX3_write_0 : decode cX3_write 0 = .ok (.aload_n 0, 1) := by decide +kernel
theorem dX3_write_1 : decode cX3_write 1 = .ok (.getfield 15, 3) := by decide +kernel
theorem dX3_write_4 : decode cX3_write 4 = .ok (.iload_n 3, 1) := by decide +kernel
theorem dX3_write_5 : decode cX3_write 5 = .ok (.iadd, 1) := by decide +kernel
theorem dX3_write_6 : decode cX3_write 6 = .ok (.sipush 150, 3) := by decide +kernel
theorem dX3_write_9 : decode cX3_write 9 = .ok (.if_icmp .le 6, 3) := by decide +kernel
theorem dX3_write_12 : decode cX3_write 12 = .ok (.bipush (-3), 2) := by decide +kernel
theorem dX3_write_14 : decode cX3_write 14 = .ok (.ireturn, 1) := by decide +kernel
theorem dX3_write_15 : decode cX3_write 15 = .ok (.iload_n 3, 1) := by decide +kernel
theorem dX3_write_16 : decode cX3_write 16 = .ok (.iconst 1, 1) := by decide +kernel
theorem dX3_write_17 : decode cX3_write 17 = .ok (.isub, 1) := by decide +kernel
theorem dX3_write_18 : decode cX3_write 18 = .ok (.istore 4, 2) := by decide +kernel
theorem dX3_write_20 : decode cX3_write 20 = .ok (.iload 4, 2) := by decide +kernel
theorem dX3_write_22 : decode cX3_write 22 = .ok (.ifCond .lt 37, 3) := by decide +kernel
theorem dX3_write_25 : decode cX3_write 25 = .ok (.aload_n 0, 1) := by decide +kernel
theorem dX3_write_26 : decode cX3_write 26 = .ok (.getfield 11, 3) := by decide +kernel
theorem dX3_write_29 : decode cX3_write 29 = .ok (.aload_n 0, 1) := by decide +kernel
theorem dX3_write_30 : decode cX3_write 30 = .ok (.getfield 15, 3) := by decide +kernel
theorem dX3_write_33 : decode cX3_write 33 = .ok (.lload_n 1, 1) := by decide +kernel
theorem dX3_write_34 : decode cX3_write 34 = .ok (.bipush 8, 2) := by decide +kernel
theorem dX3_write_36 : decode cX3_write 36 = .ok (.iload 4, 2) := by decide +kernel
theorem dX3_write_38 : decode cX3_write 38 = .ok (.imul, 1) := by decide +kernel
theorem dX3_write_39 : decode cX3_write 39 = .ok (.lshr, 1) := by decide +kernel
theorem dX3_write_40 : decode cX3_write 40 = .ok (.l2i, 1) := by decide +kernel
theorem dX3_write_41 : decode cX3_write 41 = .ok (.i2b, 1) := by decide +kernel
theorem dX3_write_42 : decode cX3_write 42 = .ok (.bastore, 1) := by decide +kernel
theorem dX3_write_43 : decode cX3_write 43 = .ok (.aload_n 0, 1) := by decide +kernel
theorem dX3_write_44 : decode cX3_write 44 = .ok (.dup, 1) := by decide +kernel
theorem dX3_write_45 : decode cX3_write 45 = .ok (.getfield 15, 3) := by decide +kernel
theorem dX3_write_48 : decode cX3_write 48 = .ok (.iconst 1, 1) := by decide +kernel
theorem dX3_write_49 : decode cX3_write 49 = .ok (.iadd, 1) := by decide +kernel
theorem dX3_write_50 : decode cX3_write 50 = .ok (.putfield 15, 3) := by decide +kernel
theorem dX3_write_53 : decode cX3_write 53 = .ok (.iinc 4 (-1), 3) := by decide +kernel
theorem dX3_write_56 : decode cX3_write 56 = .ok (.goto (-36), 3) := by decide +kernel
theorem dX3_write_59 : decode cX3_write 59 = .ok (.aload_n 0, 1) := by decide +kernel
theorem dX3_write_60 : decode cX3_write 60 = .ok (.getfield 15, 3) := by decide +kernel
theorem dX3_write_63 : decode cX3_write 63 = .ok (.ireturn, 1) := by decide +kernel
theorem dX3_litresOf_0 : decode cX3_litresOf 0 = .ok (.aload_n 0, 1) := by decide +kernel
theorem dX3_litresOf_1 : decode cX3_litresOf 1 = .ok (.getfield 22, 3) := by decide +kernel
theorem dX3_litresOf_4 : decode cX3_litresOf 4 = .ok (.iload_n 1, 1) := by decide +kernel
theorem dX3_litresOf_5 : decode cX3_litresOf 5 = .ok (.bipush 24, 2) := by decide +kernel
theorem dX3_litresOf_7 : decode cX3_litresOf 7 = .ok (.imul, 1) := by decide +kernel
theorem dX3_litresOf_8 : decode cX3_litresOf 8 = .ok (.iload_n 2, 1) := by decide +kernel
theorem dX3_litresOf_9 : decode cX3_litresOf 9 = .ok (.iadd, 1) := by decide +kernel
theorem dX3_litresOf_10 : decode cX3_litresOf 10 = .ok (.iaload, 1) := by decide +kernel
theorem dX3_litresOf_11 : decode cX3_litresOf 11 = .ok (.ireturn, 1) := by decide +kernel
set_option maxRecDepth 20000 in
theorem ggX3_tellAnew_J7_fill_53178 : GoodIn wsX3_tellAnew wsJ7_fill_53178 := goodIn_r _ [14] (by decide +kernel) (by decide +kernel)
set_option maxRecDepth 20000 in
theorem gX3_tellAnew_J7_fill_53178 : GoodIn wsX3_tellAnew (va_wsS RX3 36 yJ7_fill_53178 wsJ7_fill_53178) := goodIn_app (goodIn_of _ (by decide +kernel)) ggX3_tellAnew_J7_fill_53178
set_option maxRecDepth 20000 in
theorem ggX3_tellAnew_X3_readItem : GoodIn wsX3_tellAnew wsX3_readItem := goodIn_r _ [19, 3, 2, 1, 20, 21, 22, 18, 23, 4, 24, 25, 26, 27, 28, 29, 30, 31, 32, 33, 34, 35, 36, 37, 38, 39] (by decide +kernel) (by decide +kernel)
set_option maxRecDepth 20000 in
theorem gX3_tellAnew_X3_readItem : GoodIn wsX3_tellAnew (wsV RX3 42 RX3 yX3_readItem wsX3_readItem) := goodIn_app (goodIn_of _ (by decide +kernel)) ggX3_tellAnew_X3_readItem
theorem dX3_tellAnew_0 : decode cX3_tellAnew 0 = .ok (.aload_n 0, 1) := by decide +kernel
theorem dX3_tellAnew_1 : decode cX3_tellAnew 1 = .ok (.getfield 26, 3) := by decide +kernel
theorem dX3_tellAnew_4 : decode cX3_tellAnew 4 = .ok (.iconst 0, 1) := by decide +kernel
theorem dX3_tellAnew_5 : decode cX3_tellAnew 5 = .ok (.invokestatic 36, 3) := by decide +kernel
theorem dX3_tellAnew_8 : decode cX3_tellAnew 8 = .ok (.aload_n 0, 1) := by decide +kernel
theorem dX3_tellAnew_9 : decode cX3_tellAnew 9 = .ok (.iconst 0, 1) := by decide +kernel
theorem dX3_tellAnew_10 : decode cX3_tellAnew 10 = .ok (.putfield 29, 3) := by decide +kernel
theorem dX3_tellAnew_13 : decode cX3_tellAnew 13 = .ok (.aload_n 0, 1) := by decide +kernel
theorem dX3_tellAnew_14 : decode cX3_tellAnew 14 = .ok (.iconst 0, 1) := by decide +kernel
theorem dX3_tellAnew_15 : decode cX3_tellAnew 15 = .ok (.putfield 32, 3) := by decide +kernel
theorem dX3_tellAnew_18 : decode cX3_tellAnew 18 = .ok (.iconst 0, 1) := by decide +kernel
theorem dX3_tellAnew_19 : decode cX3_tellAnew 19 = .ok (.istore_n 1, 1) := by decide +kernel
theorem dX3_tellAnew_20 : decode cX3_tellAnew 20 = .ok (.iload_n 1, 1) := by decide +kernel
theorem dX3_tellAnew_21 : decode cX3_tellAnew 21 = .ok (.bipush 12, 2) := by decide +kernel
theorem dX3_tellAnew_23 : decode cX3_tellAnew 23 = .ok (.if_icmp .ge 31, 3) := by decide +kernel
theorem dX3_tellAnew_26 : decode cX3_tellAnew 26 = .ok (.aload_n 0, 1) := by decide +kernel
theorem dX3_tellAnew_27 : decode cX3_tellAnew 27 = .ok (.getfield 29, 3) := by decide +kernel
theorem dX3_tellAnew_30 : decode cX3_tellAnew 30 = .ok (.aload_n 0, 1) := by decide +kernel
theorem dX3_tellAnew_31 : decode cX3_tellAnew 31 = .ok (.getfield 15, 3) := by decide +kernel
theorem dX3_tellAnew_34 : decode cX3_tellAnew 34 = .ok (.if_icmp .ge 20, 3) := by decide +kernel
theorem dX3_tellAnew_37 : decode cX3_tellAnew 37 = .ok (.aload_n 0, 1) := by decide +kernel
theorem dX3_tellAnew_38 : decode cX3_tellAnew 38 = .ok (.getfield 32, 3) := by decide +kernel
theorem dX3_tellAnew_41 : decode cX3_tellAnew 41 = .ok (.ifCond .ne 13, 3) := by decide +kernel
theorem dX3_tellAnew_44 : decode cX3_tellAnew 44 = .ok (.aload_n 0, 1) := by decide +kernel
theorem dX3_tellAnew_45 : decode cX3_tellAnew 45 = .ok (.invokevirtual 42, 3) := by decide +kernel
theorem dX3_tellAnew_48 : decode cX3_tellAnew 48 = .ok (.iinc 1 1, 3) := by decide +kernel
theorem dX3_tellAnew_51 : decode cX3_tellAnew 51 = .ok (.goto (-31), 3) := by decide +kernel
theorem dX3_tellAnew_54 : decode cX3_tellAnew 54 = .ok (.aload_n 0, 1) := by decide +kernel
theorem dX3_tellAnew_55 : decode cX3_tellAnew 55 = .ok (.getfield 32, 3) := by decide +kernel
theorem dX3_tellAnew_58 : decode cX3_tellAnew 58 = .ok (.ifCond .ne 14, 3) := by decide +kernel
theorem dX3_tellAnew_61 : decode cX3_tellAnew 61 = .ok (.aload_n 0, 1) := by decide +kernel
theorem dX3_tellAnew_62 : decode cX3_tellAnew 62 = .ok (.getfield 29, 3) := by decide +kernel
theorem dX3_tellAnew_65 : decode cX3_tellAnew 65 = .ok (.aload_n 0, 1) := by decide +kernel
theorem dX3_tellAnew_66 : decode cX3_tellAnew 66 = .ok (.getfield 15, 3) := by decide +kernel
theorem dX3_tellAnew_69 : decode cX3_tellAnew 69 = .ok (.if_icmp .ge 11, 3) := by decide +kernel
theorem dX3_tellAnew_72 : decode cX3_tellAnew 72 = .ok (.bipush (-10), 2) := by decide +kernel
theorem dX3_tellAnew_74 : decode cX3_tellAnew 74 = .ok (.aload_n 0, 1) := by decide +kernel
theorem dX3_tellAnew_75 : decode cX3_tellAnew 75 = .ok (.getfield 29, 3) := by decide +kernel
theorem dX3_tellAnew_78 : decode cX3_tellAnew 78 = .ok (.isub, 1) := by decide +kernel
theorem dX3_tellAnew_79 : decode cX3_tellAnew 79 = .ok (.ireturn, 1) := by decide +kernel
theorem dX3_tellAnew_80 : decode cX3_tellAnew 80 = .ok (.aload_n 0, 1) := by decide +kernel
theorem dX3_tellAnew_81 : decode cX3_tellAnew 81 = .ok (.getfield 26, 3) := by decide +kernel
theorem dX3_tellAnew_84 : decode cX3_tellAnew 84 = .ok (.iconst 0, 1) := by decide +kernel
theorem dX3_tellAnew_85 : decode cX3_tellAnew 85 = .ok (.aload_n 0, 1) := by decide +kernel
theorem dX3_tellAnew_86 : decode cX3_tellAnew 86 = .ok (.getfield 22, 3) := by decide +kernel
theorem dX3_tellAnew_89 : decode cX3_tellAnew 89 = .ok (.iconst 0, 1) := by decide +kernel
theorem dX3_tellAnew_90 : decode cX3_tellAnew 90 = .ok (.aload_n 0, 1) := by decide +kernel
theorem dX3_tellAnew_91 : decode cX3_tellAnew 91 = .ok (.getfield 22, 3) := by decide +kernel
theorem dX3_tellAnew_94 : decode cX3_tellAnew 94 = .ok (.arraylength, 1) := by decide +kernel
theorem dX3_tellAnew_95 : decode cX3_tellAnew 95 = .ok (.invokestatic 45, 3) := by decide +kernel
theorem dX3_tellAnew_98 : decode cX3_tellAnew 98 = .ok (.aload_n 0, 1) := by decide +kernel
theorem dX3_tellAnew_99 : decode cX3_tellAnew 99 = .ok (.iload_n 1, 1) := by decide +kernel
theorem dX3_tellAnew_100 : decode cX3_tellAnew 100 = .ok (.putfield 19, 3) := by decide +kernel
theorem dX3_tellAnew_103 : decode cX3_tellAnew 103 = .ok (.aload_n 0, 1) := by decide +kernel
theorem dX3_tellAnew_104 : decode cX3_tellAnew 104 = .ok (.iconst 0, 1) := by decide +kernel
theorem dX3_tellAnew_105 : decode cX3_tellAnew 105 = .ok (.putfield 15, 3) := by decide +kernel
theorem dX3_tellAnew_108 : decode cX3_tellAnew 108 = .ok (.iload_n 1, 1) := by decide +kernel
theorem dX3_tellAnew_109 : decode cX3_tellAnew 109 = .ok (.ireturn, 1) := by decide +kernel
set_option maxRecDepth 20000 in
theorem ggX3_readItem_X3_readSign : GoodIn wsX3_readItem wsX3_readSign := goodIn_r _ [8, 1, 2, 9, 10, 19, 20, 21, 22, 23, 24, 25] (by decide +kernel) (by decide +kernel)
set_option maxRecDepth 20000 in
theorem gX3_readItem_X3_readSign : GoodIn wsX3_readItem (wsV RX3 51 RX3 yX3_readSign wsX3_readSign) := goodIn_app (goodIn_of _ (by decide +kernel)) ggX3_readItem_X3_readSign
set_option maxRecDepth 20000 in
theorem ggX3_readItem_X3_readNumber : GoodIn wsX3_readItem wsX3_readNumber := goodIn_r _ [14, 1, 2, 9, 15, 16, 17, 7, 18, 10, 19, 20, 21, 22, 23, 24, 25] (by decide +kernel) (by decide +kernel)
set_option maxRecDepth 20000 in
theorem gX3_readItem_X3_readNumber : GoodIn wsX3_readItem (wsV RX3 55 RX3 yX3_readNumber wsX3_readNumber) := goodIn_app (goodIn_of _ (by decide +kernel)) ggX3_readItem_X3_readNumber
theorem dX3_readItem_0 : decode cX3_readItem 0 = .ok (.aload_n 0, 1) := by decide +kernel
theorem dX3_readItem_1 : decode cX3_readItem 1 = .ok (.bipush 102, 2) := by decide +kernel
theorem dX3_readItem_3 : decode cX3_readItem 3 = .ok (.invokevirtual 51, 3) := by decide +kernel
theorem dX3_readItem_6 : decode cX3_readItem 6 = .ok (.aload_n 0, 1) := by decide +kernel
theorem dX3_readItem_7 : decode cX3_readItem 7 = .ok (.iconst 0, 1) := by decide +kernel
theorem dX3_readItem_8 : decode cX3_readItem 8 = .ok (.iconst 4, 1) := by decide +kernel
theorem dX3_readItem_9 : decode cX3_readItem 9 = .ok (.invokevirtual 55, 3) := by decide +kernel
theorem dX3_readItem_12 : decode cX3_readItem 12 = .ok (.istore_n 1, 1) := by decide +kernel
theorem dX3_readItem_13 : decode cX3_readItem 13 = .ok (.aload_n 0, 1) := by decide +kernel
theorem dX3_readItem_14 : decode cX3_readItem 14 = .ok (.bipush 32, 2) := by decide +kernel
theorem dX3_readItem_16 : decode cX3_readItem 16 = .ok (.invokevirtual 51, 3) := by decide +kernel
theorem dX3_readItem_19 : decode cX3_readItem 19 = .ok (.aload_n 0, 1) := by decide +kernel
theorem dX3_readItem_20 : decode cX3_readItem 20 = .ok (.iconst 0, 1) := by decide +kernel
theorem dX3_readItem_21 : decode cX3_readItem 21 = .ok (.bipush 23, 2) := by decide +kernel
theorem dX3_readItem_23 : decode cX3_readItem 23 = .ok (.invokevirtual 55, 3) := by decide +kernel
theorem dX3_readItem_26 : decode cX3_readItem 26 = .ok (.istore_n 2, 1) := by decide +kernel
theorem dX3_readItem_27 : decode cX3_readItem 27 = .ok (.aload_n 0, 1) := by decide +kernel
theorem dX3_readItem_28 : decode cX3_readItem 28 = .ok (.bipush 45, 2) := by decide +kernel
theorem dX3_readItem_30 : decode cX3_readItem 30 = .ok (.invokevirtual 51, 3) := by decide +kernel
theorem dX3_readItem_33 : decode cX3_readItem 33 = .ok (.aload_n 0, 1) := by decide +kernel
theorem dX3_readItem_34 : decode cX3_readItem 34 = .ok (.iconst 1, 1) := by decide +kernel
theorem dX3_readItem_35 : decode cX3_readItem 35 = .ok (.bipush 24, 2) := by decide +kernel
theorem dX3_readItem_37 : decode cX3_readItem 37 = .ok (.invokevirtual 55, 3) := by decide +kernel
theorem dX3_readItem_40 : decode cX3_readItem 40 = .ok (.istore_n 3, 1) := by decide +kernel
theorem dX3_readItem_41 : decode cX3_readItem 41 = .ok (.aload_n 0, 1) := by decide +kernel
theorem dX3_readItem_42 : decode cX3_readItem 42 = .ok (.getfield 32, 3) := by decide +kernel
theorem dX3_readItem_45 : decode cX3_readItem 45 = .ok (.ifCond .ne 23, 3) := by decide +kernel
theorem dX3_readItem_48 : decode cX3_readItem 48 = .ok (.iload_n 3, 1) := by decide +kernel
theorem dX3_readItem_49 : decode cX3_readItem 49 = .ok (.iload_n 2, 1) := by decide +kernel
theorem dX3_readItem_50 : decode cX3_readItem 50 = .ok (.if_icmp .gt 18, 3) := by decide +kernel
theorem dX3_readItem_53 : decode cX3_readItem 53 = .ok (.aload_n 0, 1) := by decide +kernel
theorem dX3_readItem_54 : decode cX3_readItem 54 = .ok (.iconst 1, 1) := by decide +kernel
theorem dX3_readItem_55 : decode cX3_readItem 55 = .ok (.putfield 32, 3) := by decide +kernel
theorem dX3_readItem_58 : decode cX3_readItem 58 = .ok (.aload_n 0, 1) := by decide +kernel
theorem dX3_readItem_59 : decode cX3_readItem 59 = .ok (.dup, 1) := by decide +kernel
theorem dX3_readItem_60 : decode cX3_readItem 60 = .ok (.getfield 29, 3) := by decide +kernel
theorem dX3_readItem_63 : decode cX3_readItem 63 = .ok (.iconst 1, 1) := by decide +kernel
theorem dX3_readItem_64 : decode cX3_readItem 64 = .ok (.isub, 1) := by decide +kernel
theorem dX3_readItem_65 : decode cX3_readItem 65 = .ok (.putfield 29, 3) := by decide +kernel
theorem dX3_readItem_68 : decode cX3_readItem 68 = .ok (.aload_n 0, 1) := by decide +kernel
theorem dX3_readItem_69 : decode cX3_readItem 69 = .ok (.bipush 58, 2) := by decide +kernel
theorem dX3_readItem_71 : decode cX3_readItem 71 = .ok (.invokevirtual 51, 3) := by decide +kernel
theorem dX3_readItem_74 : decode cX3_readItem 74 = .ok (.aload_n 0, 1) := by decide +kernel
theorem dX3_readItem_75 : decode cX3_readItem 75 = .ok (.iconst 1, 1) := by decide +kernel
theorem dX3_readItem_76 : decode cX3_readItem 76 = .ok (.sipush 9999, 3) := by decide +kernel
theorem dX3_readItem_79 : decode cX3_readItem 79 = .ok (.invokevirtual 55, 3) := by decide +kernel
theorem dX3_readItem_82 : decode cX3_readItem 82 = .ok (.istore 4, 2) := by decide +kernel
theorem dX3_readItem_84 : decode cX3_readItem 84 = .ok (.aload_n 0, 1) := by decide +kernel
theorem dX3_readItem_85 : decode cX3_readItem 85 = .ok (.bipush 59, 2) := by decide +kernel
theorem dX3_readItem_87 : decode cX3_readItem 87 = .ok (.invokevirtual 51, 3) := by decide +kernel
theorem dX3_readItem_90 : decode cX3_readItem 90 = .ok (.iload_n 2, 1) := by decide +kernel
theorem dX3_readItem_91 : decode cX3_readItem 91 = .ok (.istore 5, 2) := by decide +kernel
theorem dX3_readItem_93 : decode cX3_readItem 93 = .ok (.iload 5, 2) := by decide +kernel
theorem dX3_readItem_95 : decode cX3_readItem 95 = .ok (.iload_n 3, 1) := by decide +kernel
theorem dX3_readItem_96 : decode cX3_readItem 96 = .ok (.if_icmp .ge 33, 3) := by decide +kernel
theorem dX3_readItem_99 : decode cX3_readItem 99 = .ok (.aload_n 0, 1) := by decide +kernel
theorem dX3_readItem_100 : decode cX3_readItem 100 = .ok (.getfield 32, 3) := by decide +kernel
theorem dX3_readItem_103 : decode cX3_readItem 103 = .ok (.ifCond .ne 26, 3) := by decide +kernel
theorem dX3_readItem_106 : decode cX3_readItem 106 = .ok (.aload_n 0, 1) := by decide +kernel
theorem dX3_readItem_107 : decode cX3_readItem 107 = .ok (.getfield 26, 3) := by decide +kernel
theorem dX3_readItem_110 : decode cX3_readItem 110 = .ok (.iload_n 1, 1) := by decide +kernel
theorem dX3_readItem_111 : decode cX3_readItem 111 = .ok (.bipush 24, 2) := by decide +kernel
theorem dX3_readItem_113 : decode cX3_readItem 113 = .ok (.imul, 1) := by decide +kernel
theorem dX3_readItem_114 : decode cX3_readItem 114 = .ok (.iload 5, 2) := by decide +kernel
theorem dX3_readItem_116 : decode cX3_readItem 116 = .ok (.iadd, 1) := by decide +kernel
theorem dX3_readItem_117 : decode cX3_readItem 117 = .ok (.dup2, 1) := by decide +kernel
theorem dX3_readItem_118 : decode cX3_readItem 118 = .ok (.iaload, 1) := by decide +kernel
theorem dX3_readItem_119 : decode cX3_readItem 119 = .ok (.iload 4, 2) := by decide +kernel
theorem dX3_readItem_121 : decode cX3_readItem 121 = .ok (.iadd, 1) := by decide +kernel
theorem dX3_readItem_122 : decode cX3_readItem 122 = .ok (.iastore, 1) := by decide +kernel
theorem dX3_readItem_123 : decode cX3_readItem 123 = .ok (.iinc 5 1, 3) := by decide +kernel
theorem dX3_readItem_126 : decode cX3_readItem 126 = .ok (.goto (-33), 3) := by decide +kernel
theorem dX3_readItem_129 : decode cX3_readItem 129 = .ok (.return_, 1) := by decide +kernel
theorem dX3_readSign_0 : decode cX3_readSign 0 = .ok (.aload_n 0, 1) := by decide +kernel
theorem dX3_readSign_1 : decode cX3_readSign 1 = .ok (.getfield 32, 3) := by decide +kernel
theorem dX3_readSign_4 : decode cX3_readSign 4 = .ok (.ifCond .eq 4, 3) := by decide +kernel
theorem dX3_readSign_7 : decode cX3_readSign 7 = .ok (.return_, 1) := by decide +kernel
theorem dX3_readSign_8 : decode cX3_readSign 8 = .ok (.aload_n 0, 1) := by decide +kernel
theorem dX3_readSign_9 : decode cX3_readSign 9 = .ok (.getfield 29, 3) := by decide +kernel
theorem dX3_readSign_12 : decode cX3_readSign 12 = .ok (.aload_n 0, 1) := by decide +kernel
theorem dX3_readSign_13 : decode cX3_readSign 13 = .ok (.getfield 15, 3) := by decide +kernel
theorem dX3_readSign_16 : decode cX3_readSign 16 = .ok (.if_icmp .ge 29, 3) := by decide +kernel
theorem dX3_readSign_19 : decode cX3_readSign 19 = .ok (.aload_n 0, 1) := by decide +kernel
theorem dX3_readSign_20 : decode cX3_readSign 20 = .ok (.getfield 11, 3) := by decide +kernel
theorem dX3_readSign_23 : decode cX3_readSign 23 = .ok (.aload_n 0, 1) := by decide +kernel
theorem dX3_readSign_24 : decode cX3_readSign 24 = .ok (.getfield 29, 3) := by decide +kernel
theorem dX3_readSign_27 : decode cX3_readSign 27 = .ok (.baload, 1) := by decide +kernel
theorem dX3_readSign_28 : decode cX3_readSign 28 = .ok (.iload_n 1, 1) := by decide +kernel
theorem dX3_readSign_29 : decode cX3_readSign 29 = .ok (.if_icmp .ne 16, 3) := by decide +kernel
theorem dX3_readSign_32 : decode cX3_readSign 32 = .ok (.aload_n 0, 1) := by decide +kernel
theorem dX3_readSign_33 : decode cX3_readSign 33 = .ok (.dup, 1) := by decide +kernel
theorem dX3_readSign_34 : decode cX3_readSign 34 = .ok (.getfield 29, 3) := by decide +kernel
theorem dX3_readSign_37 : decode cX3_readSign 37 = .ok (.iconst 1, 1) := by decide +kernel
theorem dX3_readSign_38 : decode cX3_readSign 38 = .ok (.iadd, 1) := by decide +kernel
theorem dX3_readSign_39 : decode cX3_readSign 39 = .ok (.putfield 29, 3) := by decide +kernel
theorem dX3_readSign_42 : decode cX3_readSign 42 = .ok (.goto 8, 3) := by decide +kernel
theorem dX3_readSign_45 : decode cX3_readSign 45 = .ok (.aload_n 0, 1) := by decide +kernel
theorem dX3_readSign_46 : decode cX3_readSign 46 = .ok (.iconst 1, 1) := by decide +kernel
theorem dX3_readSign_47 : decode cX3_readSign 47 = .ok (.putfield 32, 3) := by decide +kernel
theorem dX3_readSign_50 : decode cX3_readSign 50 = .ok (.return_, 1) := by decide +kernel
set_option maxRecDepth 20000 in
theorem ggX3_readNumber_X3_digitHere : GoodIn wsX3_readNumber wsX3_digitHere := goodIn_r _ [8, 2, 3, 9, 10, 11, 12, 13, 14, 15, 16] (by decide +kernel) (by decide +kernel)
set_option maxRecDepth 20000 in
theorem gX3_readNumber_X3_digitHere : GoodIn wsX3_readNumber (wsV RX3 59 RX3 yX3_digitHere wsX3_digitHere) := goodIn_app (goodIn_of _ (by decide +kernel)) ggX3_readNumber_X3_digitHere
theorem dX3_readNumber_0 : decode cX3_readNumber 0 = .ok (.aload_n 0, 1) := by decide +kernel
theorem dX3_readNumber_1 : decode cX3_readNumber 1 = .ok (.getfield 32, 3) := by decide +kernel
theorem dX3_readNumber_4 : decode cX3_readNumber 4 = .ok (.ifCond .eq 5, 3) := by decide +kernel
theorem dX3_readNumber_7 : decode cX3_readNumber 7 = .ok (.iconst 0, 1) := by decide +kernel
theorem dX3_readNumber_8 : decode cX3_readNumber 8 = .ok (.ireturn, 1) := by decide +kernel
theorem dX3_readNumber_9 : decode cX3_readNumber 9 = .ok (.aload_n 0, 1) := by decide +kernel
theorem dX3_readNumber_10 : decode cX3_readNumber 10 = .ok (.invokevirtual 59, 3) := by decide +kernel
theorem dX3_readNumber_13 : decode cX3_readNumber 13 = .ok (.istore_n 3, 1) := by decide +kernel
theorem dX3_readNumber_14 : decode cX3_readNumber 14 = .ok (.iload_n 3, 1) := by decide +kernel
theorem dX3_readNumber_15 : decode cX3_readNumber 15 = .ok (.ifCond .lt 16, 3) := by decide +kernel
theorem dX3_readNumber_18 : decode cX3_readNumber 18 = .ok (.iload_n 3, 1) := by decide +kernel
theorem dX3_readNumber_19 : decode cX3_readNumber 19 = .ok (.iload_n 2, 1) := by decide +kernel
theorem dX3_readNumber_20 : decode cX3_readNumber 20 = .ok (.if_icmp .gt 11, 3) := by decide +kernel
theorem dX3_readNumber_23 : decode cX3_readNumber 23 = .ok (.iload_n 3, 1) := by decide +kernel
theorem dX3_readNumber_24 : decode cX3_readNumber 24 = .ok (.ifCond .ne 14, 3) := by decide +kernel
theorem dX3_readNumber_27 : decode cX3_readNumber 27 = .ok (.iload_n 1, 1) := by decide +kernel
theorem dX3_readNumber_28 : decode cX3_readNumber 28 = .ok (.ifCond .le 10, 3) := by decide +kernel
theorem dX3_readNumber_31 : decode cX3_readNumber 31 = .ok (.aload_n 0, 1) := by decide +kernel
theorem dX3_readNumber_32 : decode cX3_readNumber 32 = .ok (.iconst 1, 1) := by decide +kernel
theorem dX3_readNumber_33 : decode cX3_readNumber 33 = .ok (.putfield 32, 3) := by decide +kernel
theorem dX3_readNumber_36 : decode cX3_readNumber 36 = .ok (.iconst 0, 1) := by decide +kernel
theorem dX3_readNumber_37 : decode cX3_readNumber 37 = .ok (.ireturn, 1) := by decide +kernel
theorem dX3_readNumber_38 : decode cX3_readNumber 38 = .ok (.aload_n 0, 1) := by decide +kernel
theorem dX3_readNumber_39 : decode cX3_readNumber 39 = .ok (.dup, 1) := by decide +kernel
theorem dX3_readNumber_40 : decode cX3_readNumber 40 = .ok (.getfield 29, 3) := by decide +kernel
theorem dX3_readNumber_43 : decode cX3_readNumber 43 = .ok (.iconst 1, 1) := by decide +kernel
theorem dX3_readNumber_44 : decode cX3_readNumber 44 = .ok (.iadd, 1) := by decide +kernel
theorem dX3_readNumber_45 : decode cX3_readNumber 45 = .ok (.putfield 29, 3) := by decide +kernel
theorem dX3_readNumber_48 : decode cX3_readNumber 48 = .ok (.aload_n 0, 1) := by decide +kernel
theorem dX3_readNumber_49 : decode cX3_readNumber 49 = .ok (.getfield 29, 3) := by decide +kernel
theorem dX3_readNumber_52 : decode cX3_readNumber 52 = .ok (.aload_n 0, 1) := by decide +kernel
theorem dX3_readNumber_53 : decode cX3_readNumber 53 = .ok (.getfield 15, 3) := by decide +kernel
theorem dX3_readNumber_56 : decode cX3_readNumber 56 = .ok (.if_icmp .ge 53, 3) := by decide +kernel
theorem dX3_readNumber_59 : decode cX3_readNumber 59 = .ok (.iload_n 3, 1) := by decide +kernel
theorem dX3_readNumber_60 : decode cX3_readNumber 60 = .ok (.ifCond .le 49, 3) := by decide +kernel
theorem dX3_readNumber_63 : decode cX3_readNumber 63 = .ok (.aload_n 0, 1) := by decide +kernel
theorem dX3_readNumber_64 : decode cX3_readNumber 64 = .ok (.invokevirtual 59, 3) := by decide +kernel
theorem dX3_readNumber_67 : decode cX3_readNumber 67 = .ok (.istore 4, 2) := by decide +kernel
theorem dX3_readNumber_69 : decode cX3_readNumber 69 = .ok (.iload 4, 2) := by decide +kernel
theorem dX3_readNumber_71 : decode cX3_readNumber 71 = .ok (.ifCond .ge 5, 3) := by decide +kernel
theorem dX3_readNumber_74 : decode cX3_readNumber 74 = .ok (.iload_n 3, 1) := by decide +kernel
theorem dX3_readNumber_75 : decode cX3_readNumber 75 = .ok (.ireturn, 1) := by decide +kernel
theorem dX3_readNumber_76 : decode cX3_readNumber 76 = .ok (.bipush 10, 2) := by decide +kernel
theorem dX3_readNumber_78 : decode cX3_readNumber 78 = .ok (.iload_n 3, 1) := by decide +kernel
theorem dX3_readNumber_79 : decode cX3_readNumber 79 = .ok (.imul, 1) := by decide +kernel
theorem dX3_readNumber_80 : decode cX3_readNumber 80 = .ok (.iload 4, 2) := by decide +kernel
theorem dX3_readNumber_82 : decode cX3_readNumber 82 = .ok (.iadd, 1) := by decide +kernel
theorem dX3_readNumber_83 : decode cX3_readNumber 83 = .ok (.istore_n 3, 1) := by decide +kernel
theorem dX3_readNumber_84 : decode cX3_readNumber 84 = .ok (.iload_n 3, 1) := by decide +kernel
theorem dX3_readNumber_85 : decode cX3_readNumber 85 = .ok (.iload_n 2, 1) := by decide +kernel
theorem dX3_readNumber_86 : decode cX3_readNumber 86 = .ok (.if_icmp .le 10, 3) := by decide +kernel
theorem dX3_readNumber_89 : decode cX3_readNumber 89 = .ok (.aload_n 0, 1) := by decide +kernel
theorem dX3_readNumber_90 : decode cX3_readNumber 90 = .ok (.iconst 1, 1) := by decide +kernel
theorem dX3_readNumber_91 : decode cX3_readNumber 91 = .ok (.putfield 32, 3) := by decide +kernel
theorem dX3_readNumber_94 : decode cX3_readNumber 94 = .ok (.iconst 0, 1) := by decide +kernel
theorem dX3_readNumber_95 : decode cX3_readNumber 95 = .ok (.ireturn, 1) := by decide +kernel
theorem dX3_readNumber_96 : decode cX3_readNumber 96 = .ok (.aload_n 0, 1) := by decide +kernel
theorem dX3_readNumber_97 : decode cX3_readNumber 97 = .ok (.dup, 1) := by decide +kernel
theorem dX3_readNumber_98 : decode cX3_readNumber 98 = .ok (.getfield 29, 3) := by decide +kernel
theorem dX3_readNumber_101 : decode cX3_readNumber 101 = .ok (.iconst 1, 1) := by decide +kernel
theorem dX3_readNumber_102 : decode cX3_readNumber 102 = .ok (.iadd, 1) := by decide +kernel
theorem dX3_readNumber_103 : decode cX3_readNumber 103 = .ok (.putfield 29, 3) := by decide +kernel
theorem dX3_readNumber_106 : decode cX3_readNumber 106 = .ok (.goto (-58), 3) := by decide +kernel
theorem dX3_readNumber_109 : decode cX3_readNumber 109 = .ok (.iload_n 3, 1) := by decide +kernel
theorem dX3_readNumber_110 : decode cX3_readNumber 110 = .ok (.ireturn, 1) := by decide +kernel
theorem dX3_digitHere_0 : decode cX3_digitHere 0 = .ok (.aload_n 0, 1) := by decide +kernel
theorem dX3_digitHere_1 : decode cX3_digitHere 1 = .ok (.getfield 29, 3) := by decide +kernel
theorem dX3_digitHere_4 : decode cX3_digitHere 4 = .ok (.aload_n 0, 1) := by decide +kernel
theorem dX3_digitHere_5 : decode cX3_digitHere 5 = .ok (.getfield 15, 3) := by decide +kernel
theorem dX3_digitHere_8 : decode cX3_digitHere 8 = .ok (.if_icmp .ge 31, 3) := by decide +kernel
theorem dX3_digitHere_11 : decode cX3_digitHere 11 = .ok (.aload_n 0, 1) := by decide +kernel
theorem dX3_digitHere_12 : decode cX3_digitHere 12 = .ok (.getfield 11, 3) := by decide +kernel
theorem dX3_digitHere_15 : decode cX3_digitHere 15 = .ok (.aload_n 0, 1) := by decide +kernel
theorem dX3_digitHere_16 : decode cX3_digitHere 16 = .ok (.getfield 29, 3) := by decide +kernel
theorem dX3_digitHere_19 : decode cX3_digitHere 19 = .ok (.baload, 1) := by decide +kernel
theorem dX3_digitHere_20 : decode cX3_digitHere 20 = .ok (.bipush 48, 2) := by decide +kernel
theorem dX3_digitHere_22 : decode cX3_digitHere 22 = .ok (.if_icmp .lt 17, 3) := by decide +kernel
theorem dX3_digitHere_25 : decode cX3_digitHere 25 = .ok (.aload_n 0, 1) := by decide +kernel
theorem dX3_digitHere_26 : decode cX3_digitHere 26 = .ok (.getfield 11, 3) := by decide +kernel
theorem dX3_digitHere_29 : decode cX3_digitHere 29 = .ok (.aload_n 0, 1) := by decide +kernel
theorem dX3_digitHere_30 : decode cX3_digitHere 30 = .ok (.getfield 29, 3) := by decide +kernel
theorem dX3_digitHere_33 : decode cX3_digitHere 33 = .ok (.baload, 1) := by decide +kernel
theorem dX3_digitHere_34 : decode cX3_digitHere 34 = .ok (.bipush 57, 2) := by decide +kernel
theorem dX3_digitHere_36 : decode cX3_digitHere 36 = .ok (.if_icmp .le 6, 3) := by decide +kernel
theorem dX3_digitHere_39 : decode cX3_digitHere 39 = .ok (.bipush (-9), 2) := by decide +kernel
theorem dX3_digitHere_41 : decode cX3_digitHere 41 = .ok (.ireturn, 1) := by decide +kernel
theorem dX3_digitHere_42 : decode cX3_digitHere 42 = .ok (.aload_n 0, 1) := by decide +kernel
theorem dX3_digitHere_43 : decode cX3_digitHere 43 = .ok (.getfield 11, 3) := by decide +kernel
theorem dX3_digitHere_46 : decode cX3_digitHere 46 = .ok (.aload_n 0, 1) := by decide +kernel
theorem dX3_digitHere_47 : decode cX3_digitHere 47 = .ok (.getfield 29, 3) := by decide +kernel
theorem dX3_digitHere_50 : decode cX3_digitHere 50 = .ok (.baload, 1) := by decide +kernel
theorem dX3_digitHere_51 : decode cX3_digitHere 51 = .ok (.bipush 48, 2) := by decide +kernel
theorem dX3_digitHere_53 : decode cX3_digitHere 53 = .ok (.isub, 1) := by decide +kernel
theorem dX3_digitHere_54 : decode cX3_digitHere 54 = .ok (.ireturn, 1) := by decide +kernel
set_option maxRecDepth 20000 in
theorem ggX4_init_J7_fill_53178 : GoodIn wsX4_init wsJ7_fill_53178 := goodIn_r _ [12] (by decide +kernel) (by decide +kernel)
set_option maxRecDepth 20000 in
theorem gX4_init_J7_fill_53178 : GoodIn wsX4_init (va_wsS RX4 25 yJ7_fill_53178 wsJ7_fill_53178) := goodIn_app (goodIn_of _ (by decide +kernel)) ggX4_init_J7_fill_53178
theorem dX4_init_0 : decode cX4_init 0 = .ok (.aload_n 0, 1) := by decide +kernel
theorem dX4_init_1 : decode cX4_init 1 = .ok (.invokespecial 3, 3) := by decide +kernel
theorem dX4_init_4 : decode cX4_init 4 = .ok (.aload_n 0, 1) := by decide +kernel
theorem dX4_init_5 : decode cX4_init 5 = .ok (.bipush 12, 2) := by decide +kernel
theorem dX4_init_7 : decode cX4_init 7 = .ok (.newarray .int, 2) := by decide +kernel
theorem dX4_init_9 : decode cX4_init 9 = .ok (.putfield 9, 3) := by decide +kernel
theorem dX4_init_12 : decode cX4_init 12 = .ok (.aload_n 0, 1) := by decide +kernel
theorem dX4_init_13 : decode cX4_init 13 = .ok (.bipush 12, 2) := by decide +kernel
theorem dX4_init_15 : decode cX4_init 15 = .ok (.newarray .int, 2) := by decide +kernel
theorem dX4_init_17 : decode cX4_init 17 = .ok (.putfield 15, 3) := by decide +kernel
theorem dX4_init_20 : decode cX4_init 20 = .ok (.aload_n 0, 1) := by decide +kernel
theorem dX4_init_21 : decode cX4_init 21 = .ok (.iconst 0, 1) := by decide +kernel
theorem dX4_init_22 : decode cX4_init 22 = .ok (.putfield 18, 3) := by decide +kernel
theorem dX4_init_25 : decode cX4_init 25 = .ok (.aload_n 0, 1) := by decide +kernel
theorem dX4_init_26 : decode cX4_init 26 = .ok (.iconst 0, 1) := by decide +kernel
theorem dX4_init_27 : decode cX4_init 27 = .ok (.putfield 22, 3) := by decide +kernel
theorem dX4_init_30 : decode cX4_init 30 = .ok (.aload_n 0, 1) := by decide +kernel
theorem dX4_init_31 : decode cX4_init 31 = .ok (.getfield 9, 3) := by decide +kernel
theorem dX4_init_34 : decode cX4_init 34 = .ok (.sipush 20000, 3) := by decide +kernel
theorem dX4_init_37 : decode cX4_init 37 = .ok (.invokestatic 25, 3) := by decide +kernel
theorem dX4_init_40 : decode cX4_init 40 = .ok (.return_, 1) := by decide +kernel
set_option maxRecDepth 20000 in
theorem ggX4_stop_X1_trait : GoodIn wsX4_stop wsX1_trait := goodIn_r _ [8, 9, 10, 11, 12, 17, 18, 19, 20, 21, 22] (by decide +kernel) (by decide +kernel)
set_option maxRecDepth 20000 in
theorem gX4_stop_X1_trait : GoodIn wsX4_stop (wsV RX4 31 RX1 yX1_trait wsX1_trait) := goodIn_app (goodIn_of _ (by decide +kernel)) ggX4_stop_X1_trait
theorem dX4_stop_0 : decode cX4_stop 0 = .ok (.iload_n 3, 1) := by decide +kernel
theorem dX4_stop_1 : decode cX4_stop 1 = .ok (.aload_n 0, 1) := by decide +kernel
theorem dX4_stop_2 : decode cX4_stop 2 = .ok (.getfield 18, 3) := by decide +kernel
theorem dX4_stop_5 : decode cX4_stop 5 = .ok (.if_icmp .lt 15, 3) := by decide +kernel
theorem dX4_stop_8 : decode cX4_stop 8 = .ok (.iload_n 3, 1) := by decide +kernel
theorem dX4_stop_9 : decode cX4_stop 9 = .ok (.aload_n 0, 1) := by decide +kernel
theorem dX4_stop_10 : decode cX4_stop 10 = .ok (.getfield 22, 3) := by decide +kernel
theorem dX4_stop_13 : decode cX4_stop 13 = .ok (.if_icmp .ge 7, 3) := by decide +kernel
theorem dX4_stop_16 : decode cX4_stop 16 = .ok (.iconst 1, 1) := by decide +kernel
theorem dX4_stop_17 : decode cX4_stop 17 = .ok (.goto 4, 3) := by decide +kernel
theorem dX4_stop_20 : decode cX4_stop 20 = .ok (.iconst 0, 1) := by decide +kernel
theorem dX4_stop_21 : decode cX4_stop 21 = .ok (.istore 4, 2) := by decide +kernel
theorem dX4_stop_23 : decode cX4_stop 23 = .ok (.iload 4, 2) := by decide +kernel
theorem dX4_stop_25 : decode cX4_stop 25 = .ok (.ifCond .ne 22, 3) := by decide +kernel
theorem dX4_stop_28 : decode cX4_stop 28 = .ok (.iload_n 3, 1) := by decide +kernel
theorem dX4_stop_29 : decode cX4_stop 29 = .ok (.aload_n 0, 1) := by decide +kernel
theorem dX4_stop_30 : decode cX4_stop 30 = .ok (.getfield 15, 3) := by decide +kernel
theorem dX4_stop_33 : decode cX4_stop 33 = .ok (.iload_n 2, 1) := by decide +kernel
theorem dX4_stop_34 : decode cX4_stop 34 = .ok (.iaload, 1) := by decide +kernel
theorem dX4_stop_35 : decode cX4_stop 35 = .ok (.if_icmp .ge 16, 3) := by decide +kernel
theorem dX4_stop_38 : decode cX4_stop 38 = .ok (.aload_n 1, 1) := by decide +kernel
theorem dX4_stop_39 : decode cX4_stop 39 = .ok (.iconst 5, 1) := by decide +kernel
theorem dX4_stop_40 : decode cX4_stop 40 = .ok (.invokevirtual 31, 3) := by decide +kernel
theorem dX4_stop_43 : decode cX4_stop 43 = .ok (.iconst 3, 1) := by decide +kernel
theorem dX4_stop_44 : decode cX4_stop 44 = .ok (.if_icmp .ge 7, 3) := by decide +kernel
theorem dX4_stop_47 : decode cX4_stop 47 = .ok (.iconst 1, 1) := by decide +kernel
theorem dX4_stop_48 : decode cX4_stop 48 = .ok (.goto 4, 3) := by decide +kernel
theorem dX4_stop_51 : decode cX4_stop 51 = .ok (.iconst 0, 1) := by decide +kernel
theorem dX4_stop_52 : decode cX4_stop 52 = .ok (.ireturn, 1) := by decide +kernel
theorem dX5_init_0 : decode cX5_init 0 = .ok (.aload_n 0, 1) := by decide +kernel
theorem dX5_init_1 : decode cX5_init 1 = .ok (.invokespecial 3, 3) := by decide +kernel
theorem dX5_init_4 : decode cX5_init 4 = .ok (.aload_n 0, 1) := by decide +kernel
theorem dX5_init_5 : decode cX5_init 5 = .ok (.ldc 9, 2) := by decide +kernel
theorem dX5_init_7 : decode cX5_init 7 = .ok (.putfield 10, 3) := by decide +kernel
theorem dX5_init_10 : decode cX5_init 10 = .ok (.aload_n 0, 1) := by decide +kernel
theorem dX5_init_11 : decode cX5_init 11 = .ok (.iconst 0, 1) := by decide +kernel
theorem dX5_init_12 : decode cX5_init 12 = .ok (.putfield 16, 3) := by decide +kernel
theorem dX5_init_15 : decode cX5_init 15 = .ok (.aload_n 0, 1) := by decide +kernel
theorem dX5_init_16 : decode cX5_init 16 = .ok (.lconst 0, 1) := by decide +kernel
theorem dX5_init_17 : decode cX5_init 17 = .ok (.putfield 19, 3) := by decide +kernel
theorem dX5_init_20 : decode cX5_init 20 = .ok (.aload_n 0, 1) := by decide +kernel
theorem dX5_init_21 : decode cX5_init 21 = .ok (.lconst 0, 1) := by decide +kernel
theorem dX5_init_22 : decode cX5_init 22 = .ok (.putfield 23, 3) := by decide +kernel
theorem dX5_init_25 : decode cX5_init 25 = .ok (.aload_n 0, 1) := by decide +kernel
theorem dX5_init_26 : decode cX5_init 26 = .ok (.lconst 0, 1) := by decide +kernel
theorem dX5_init_27 : decode cX5_init 27 = .ok (.putfield 26, 3) := by decide +kernel
theorem dX5_init_30 : decode cX5_init 30 = .ok (.aload_n 0, 1) := by decide +kernel
theorem dX5_init_31 : decode cX5_init 31 = .ok (.lconst 0, 1) := by decide +kernel
theorem dX5_init_32 : decode cX5_init 32 = .ok (.putfield 29, 3) := by decide +kernel
theorem dX5_init_35 : decode cX5_init 35 = .ok (.aload_n 0, 1) := by decide +kernel
theorem dX5_init_36 : decode cX5_init 36 = .ok (.lconst 0, 1) := by decide +kernel
theorem dX5_init_37 : decode cX5_init 37 = .ok (.putfield 32, 3) := by decide +kernel
theorem dX5_init_40 : decode cX5_init 40 = .ok (.aload_n 0, 1) := by decide +kernel
theorem dX5_init_41 : decode cX5_init 41 = .ok (.iconst 5, 1) := by decide +kernel
theorem dX5_init_42 : decode cX5_init 42 = .ok (.newarray .long, 2) := by decide +kernel
theorem dX5_init_44 : decode cX5_init 44 = .ok (.putfield 35, 3) := by decide +kernel
theorem dX5_init_47 : decode cX5_init 47 = .ok (.return_, 1) := by decide +kernel
set_option maxRecDepth 20000 in
theorem ggX5_changeRoom_X7_within : GoodIn wsX5_changeRoom wsX7_within := goodIn_r _ [6] (by decide +kernel) (by decide +kernel)
set_option maxRecDepth 20000 in
theorem gX5_changeRoom_X7_within_n40 : GoodIn wsX5_changeRoom (wsX7_within) := ggX5_changeRoom_X7_within
theorem dX5_changeRoom_0 : decode cX5_changeRoom 0 = .ok (.iload_n 1, 1) := by decide +kernel
theorem dX5_changeRoom_1 : decode cX5_changeRoom 1 = .ok (.bipush 100, 2) := by decide +kernel
theorem dX5_changeRoom_3 : decode cX5_changeRoom 3 = .ok (.ldc 39, 2) := by decide +kernel
theorem dX5_changeRoom_5 : decode cX5_changeRoom 5 = .ok (.invokestatic 40, 3) := by decide +kernel
theorem dX5_changeRoom_8 : decode cX5_changeRoom 8 = .ok (.ifCond .eq 11, 3) := by decide +kernel
theorem dX5_changeRoom_11 : decode cX5_changeRoom 11 = .ok (.iload_n 1, 1) := by decide +kernel
theorem dX5_changeRoom_12 : decode cX5_changeRoom 12 = .ok (.aload_n 0, 1) := by decide +kernel
theorem dX5_changeRoom_13 : decode cX5_changeRoom 13 = .ok (.getfield 16, 3) := by decide +kernel
theorem dX5_changeRoom_16 : decode cX5_changeRoom 16 = .ok (.if_icmp .ge 5, 3) := by decide +kernel
theorem dX5_changeRoom_19 : decode cX5_changeRoom 19 = .ok (.iconst (-1), 1) := by decide +kernel
theorem dX5_changeRoom_20 : decode cX5_changeRoom 20 = .ok (.ireturn, 1) := by decide +kernel
theorem dX5_changeRoom_21 : decode cX5_changeRoom 21 = .ok (.aload_n 0, 1) := by decide +kernel
theorem dX5_changeRoom_22 : decode cX5_changeRoom 22 = .ok (.getfield 10, 3) := by decide +kernel
theorem dX5_changeRoom_25 : decode cX5_changeRoom 25 = .ok (.istore_n 2, 1) := by decide +kernel
theorem dX5_changeRoom_26 : decode cX5_changeRoom 26 = .ok (.aload_n 0, 1) := by decide +kernel
theorem dX5_changeRoom_27 : decode cX5_changeRoom 27 = .ok (.iload_n 1, 1) := by decide +kernel
theorem dX5_changeRoom_28 : decode cX5_changeRoom 28 = .ok (.putfield 10, 3) := by decide +kernel
theorem dX5_changeRoom_31 : decode cX5_changeRoom 31 = .ok (.iload_n 2, 1) := by decide +kernel
theorem dX5_changeRoom_32 : decode cX5_changeRoom 32 = .ok (.ireturn, 1) := by decide +kernel
set_option maxRecDepth 20000 in
theorem ggX5_changeHeld_X7_within : GoodIn wsX5_changeHeld wsX7_within := goodIn_r _ [5] (by decide +kernel) (by decide +kernel)
set_option maxRecDepth 20000 in
theorem gX5_changeHeld_X7_within_n40 : GoodIn wsX5_changeHeld (wsX7_within) := ggX5_changeHeld_X7_within
theorem dX5_changeHeld_0 : decode cX5_changeHeld 0 = .ok (.iload_n 1, 1) := by decide +kernel
theorem dX5_changeHeld_1 : decode cX5_changeHeld 1 = .ok (.iconst 0, 1) := by decide +kernel
theorem dX5_changeHeld_2 : decode cX5_changeHeld 2 = .ok (.aload_n 0, 1) := by decide +kernel
theorem dX5_changeHeld_3 : decode cX5_changeHeld 3 = .ok (.getfield 10, 3) := by decide +kernel
theorem dX5_changeHeld_6 : decode cX5_changeHeld 6 = .ok (.invokestatic 40, 3) := by decide +kernel
theorem dX5_changeHeld_9 : decode cX5_changeHeld 9 = .ok (.ifCond .ne 5, 3) := by decide +kernel
theorem dX5_changeHeld_12 : decode cX5_changeHeld 12 = .ok (.iconst (-1), 1) := by decide +kernel
theorem dX5_changeHeld_13 : decode cX5_changeHeld 13 = .ok (.ireturn, 1) := by decide +kernel
theorem dX5_changeHeld_14 : decode cX5_changeHeld 14 = .ok (.aload_n 0, 1) := by decide +kernel
theorem dX5_changeHeld_15 : decode cX5_changeHeld 15 = .ok (.getfield 16, 3) := by decide +kernel
theorem dX5_changeHeld_18 : decode cX5_changeHeld 18 = .ok (.istore_n 2, 1) := by decide +kernel
theorem dX5_changeHeld_19 : decode cX5_changeHeld 19 = .ok (.aload_n 0, 1) := by decide +kernel
theorem dX5_changeHeld_20 : decode cX5_changeHeld 20 = .ok (.iload_n 1, 1) := by decide +kernel
theorem dX5_changeHeld_21 : decode cX5_changeHeld 21 = .ok (.putfield 16, 3) := by decide +kernel
theorem dX5_changeHeld_24 : decode cX5_changeHeld 24 = .ok (.iload_n 2, 1) := by decide +kernel
theorem dX5_changeHeld_25 : decode cX5_changeHeld 25 = .ok (.ireturn, 1) := by decide +kernel
theorem dX5_receive_0 : decode cX5_receive 0 = .ok (.aload_n 0, 1) := by decide +kernel
theorem dX5_receive_1 : decode cX5_receive 1 = .ok (.dup, 1) := by decide +kernel
theorem dX5_receive_2 : decode cX5_receive 2 = .ok (.getfield 16, 3) := by decide +kernel
theorem dX5_receive_5 : decode cX5_receive 5 = .ok (.iload_n 1, 1) := by decide +kernel
theorem dX5_receive_6 : decode cX5_receive 6 = .ok (.iadd, 1) := by decide +kernel
theorem dX5_receive_7 : decode cX5_receive 7 = .ok (.putfield 16, 3) := by decide +kernel
theorem dX5_receive_10 : decode cX5_receive 10 = .ok (.aload_n 0, 1) := by decide +kernel
theorem dX5_receive_11 : decode cX5_receive 11 = .ok (.dup, 1) := by decide +kernel
theorem dX5_receive_12 : decode cX5_receive 12 = .ok (.getfield 19, 3) := by decide +kernel
theorem dX5_receive_15 : decode cX5_receive 15 = .ok (.iload_n 1, 1) := by decide +kernel
theorem dX5_receive_16 : decode cX5_receive 16 = .ok (.i2l, 1) := by decide +kernel
theorem dX5_receive_17 : decode cX5_receive 17 = .ok (.ladd, 1) := by decide +kernel
theorem dX5_receive_18 : decode cX5_receive 18 = .ok (.putfield 19, 3) := by decide +kernel
theorem dX5_receive_21 : decode cX5_receive 21 = .ok (.aload_n 0, 1) := by decide +kernel
theorem dX5_receive_22 : decode cX5_receive 22 = .ok (.dup, 1) := by decide +kernel
theorem dX5_receive_23 : decode cX5_receive 23 = .ok (.getfield 23, 3) := by decide +kernel
theorem dX5_receive_26 : decode cX5_receive 26 = .ok (.iload_n 2, 1) := by decide +kernel
theorem dX5_receive_27 : decode cX5_receive 27 = .ok (.i2l, 1) := by decide +kernel
theorem dX5_receive_28 : decode cX5_receive 28 = .ok (.ladd, 1) := by decide +kernel
theorem dX5_receive_29 : decode cX5_receive 29 = .ok (.putfield 23, 3) := by decide +kernel
theorem dX5_receive_32 : decode cX5_receive 32 = .ok (.return_, 1) := by decide +kernel
theorem dX5_spillOver_0 : decode cX5_spillOver 0 = .ok (.aload_n 0, 1) := by decide +kernel
theorem dX5_spillOver_1 : decode cX5_spillOver 1 = .ok (.getfield 16, 3) := by decide +kernel
theorem dX5_spillOver_4 : decode cX5_spillOver 4 = .ok (.aload_n 0, 1) := by decide +kernel
theorem dX5_spillOver_5 : decode cX5_spillOver 5 = .ok (.getfield 10, 3) := by decide +kernel
theorem dX5_spillOver_8 : decode cX5_spillOver 8 = .ok (.isub, 1) := by decide +kernel
theorem dX5_spillOver_9 : decode cX5_spillOver 9 = .ok (.iconst 0, 1) := by decide +kernel
theorem dX5_spillOver_10 : decode cX5_spillOver 10 = .ok (.invokestatic 44, 3) := by decide +kernel
theorem dX5_spillOver_13 : decode cX5_spillOver 13 = .ok (.istore_n 1, 1) := by decide +kernel
theorem dX5_spillOver_14 : decode cX5_spillOver 14 = .ok (.aload_n 0, 1) := by decide +kernel
theorem dX5_spillOver_15 : decode cX5_spillOver 15 = .ok (.dup, 1) := by decide +kernel
theorem dX5_spillOver_16 : decode cX5_spillOver 16 = .ok (.getfield 16, 3) := by decide +kernel
theorem dX5_spillOver_19 : decode cX5_spillOver 19 = .ok (.iload_n 1, 1) := by decide +kernel
theorem dX5_spillOver_20 : decode cX5_spillOver 20 = .ok (.isub, 1) := by decide +kernel
theorem dX5_spillOver_21 : decode cX5_spillOver 21 = .ok (.putfield 16, 3) := by decide +kernel
theorem dX5_spillOver_24 : decode cX5_spillOver 24 = .ok (.aload_n 0, 1) := by decide +kernel
theorem dX5_spillOver_25 : decode cX5_spillOver 25 = .ok (.dup, 1) := by decide +kernel
theorem dX5_spillOver_26 : decode cX5_spillOver 26 = .ok (.getfield 26, 3) := by decide +kernel
theorem dX5_spillOver_29 : decode cX5_spillOver 29 = .ok (.iload_n 1, 1) := by decide +kernel
theorem dX5_spillOver_30 : decode cX5_spillOver 30 = .ok (.i2l, 1) := by decide +kernel
theorem dX5_spillOver_31 : decode cX5_spillOver 31 = .ok (.ladd, 1) := by decide +kernel
theorem dX5_spillOver_32 : decode cX5_spillOver 32 = .ok (.putfield 26, 3) := by decide +kernel
theorem dX5_spillOver_35 : decode cX5_spillOver 35 = .ok (.return_, 1) := by decide +kernel
theorem dX5_serve_0 : decode cX5_serve 0 = .ok (.iload_n 2, 1) := by decide +kernel
theorem dX5_serve_1 : decode cX5_serve 1 = .ok (.aload_n 0, 1) := by decide +kernel
theorem dX5_serve_2 : decode cX5_serve 2 = .ok (.getfield 16, 3) := by decide +kernel
theorem dX5_serve_5 : decode cX5_serve 5 = .ok (.invokestatic 50, 3) := by decide +kernel
theorem dX5_serve_8 : decode cX5_serve 8 = .ok (.istore_n 3, 1) := by decide +kernel
theorem dX5_serve_9 : decode cX5_serve 9 = .ok (.aload_n 0, 1) := by decide +kernel
theorem dX5_serve_10 : decode cX5_serve 10 = .ok (.dup, 1) := by decide +kernel
theorem dX5_serve_11 : decode cX5_serve 11 = .ok (.getfield 16, 3) := by decide +kernel
theorem dX5_serve_14 : decode cX5_serve 14 = .ok (.iload_n 3, 1) := by decide +kernel
theorem dX5_serve_15 : decode cX5_serve 15 = .ok (.isub, 1) := by decide +kernel
theorem dX5_serve_16 : decode cX5_serve 16 = .ok (.putfield 16, 3) := by decide +kernel
theorem dX5_serve_19 : decode cX5_serve 19 = .ok (.aload_n 0, 1) := by decide +kernel
theorem dX5_serve_20 : decode cX5_serve 20 = .ok (.dup, 1) := by decide +kernel
theorem dX5_serve_21 : decode cX5_serve 21 = .ok (.getfield 29, 3) := by decide +kernel
theorem dX5_serve_24 : decode cX5_serve 24 = .ok (.iload_n 3, 1) := by decide +kernel
theorem dX5_serve_25 : decode cX5_serve 25 = .ok (.i2l, 1) := by decide +kernel
theorem dX5_serve_26 : decode cX5_serve 26 = .ok (.ladd, 1) := by decide +kernel
theorem dX5_serve_27 : decode cX5_serve 27 = .ok (.putfield 29, 3) := by decide +kernel
theorem dX5_serve_30 : decode cX5_serve 30 = .ok (.aload_n 0, 1) := by decide +kernel
theorem dX5_serve_31 : decode cX5_serve 31 = .ok (.dup, 1) := by decide +kernel
theorem dX5_serve_32 : decode cX5_serve 32 = .ok (.getfield 32, 3) := by decide +kernel
theorem dX5_serve_35 : decode cX5_serve 35 = .ok (.iload_n 2, 1) := by decide +kernel
theorem dX5_serve_36 : decode cX5_serve 36 = .ok (.iload_n 3, 1) := by decide +kernel
theorem dX5_serve_37 : decode cX5_serve 37 = .ok (.isub, 1) := by decide +kernel
theorem dX5_serve_38 : decode cX5_serve 38 = .ok (.i2l, 1) := by decide +kernel
theorem dX5_serve_39 : decode cX5_serve 39 = .ok (.ladd, 1) := by decide +kernel
theorem dX5_serve_40 : decode cX5_serve 40 = .ok (.putfield 32, 3) := by decide +kernel
theorem dX5_serve_43 : decode cX5_serve 43 = .ok (.aload_n 0, 1) := by decide +kernel
theorem dX5_serve_44 : decode cX5_serve 44 = .ok (.getfield 35, 3) := by decide +kernel
theorem dX5_serve_47 : decode cX5_serve 47 = .ok (.iload_n 1, 1) := by decide +kernel
theorem dX5_serve_48 : decode cX5_serve 48 = .ok (.dup2, 1) := by decide +kernel
theorem dX5_serve_49 : decode cX5_serve 49 = .ok (.laload, 1) := by decide +kernel
theorem dX5_serve_50 : decode cX5_serve 50 = .ok (.iload_n 2, 1) := by decide +kernel
theorem dX5_serve_51 : decode cX5_serve 51 = .ok (.iload_n 3, 1) := by decide +kernel
theorem dX5_serve_52 : decode cX5_serve 52 = .ok (.isub, 1) := by decide +kernel
theorem dX5_serve_53 : decode cX5_serve 53 = .ok (.i2l, 1) := by decide +kernel
theorem dX5_serve_54 : decode cX5_serve 54 = .ok (.ladd, 1) := by decide +kernel
theorem dX5_serve_55 : decode cX5_serve 55 = .ok (.lastore, 1) := by decide +kernel
theorem dX5_serve_56 : decode cX5_serve 56 = .ok (.return_, 1) := by decide +kernel
theorem dX6_init_0 : decode cX6_init 0 = .ok (.aload_n 0, 1) := by decide +kernel
theorem dX6_init_1 : decode cX6_init 1 = .ok (.invokespecial 5, 3) := by decide +kernel
theorem dX6_init_4 : decode cX6_init 4 = .ok (.aload_n 0, 1) := by decide +kernel
theorem dX6_init_5 : decode cX6_init 5 = .ok (.bipush 6, 2) := by decide +kernel
theorem dX6_init_7 : decode cX6_init 7 = .ok (.newarray .int, 2) := by decide +kernel
theorem dX6_init_9 : decode cX6_init 9 = .ok (.putfield 11, 3) := by decide +kernel
theorem dX6_init_12 : decode cX6_init 12 = .ok (.aload_n 0, 1) := by decide +kernel
theorem dX6_init_13 : decode cX6_init 13 = .ok (.bipush 6, 2) := by decide +kernel
theorem dX6_init_15 : decode cX6_init 15 = .ok (.newarray .int, 2) := by decide +kernel
theorem dX6_init_17 : decode cX6_init 17 = .ok (.putfield 15, 3) := by decide +kernel
theorem dX6_init_20 : decode cX6_init 20 = .ok (.aload_n 0, 1) := by decide +kernel
theorem dX6_init_21 : decode cX6_init 21 = .ok (.iconst 0, 1) := by decide +kernel
theorem dX6_init_22 : decode cX6_init 22 = .ok (.putfield 18, 3) := by decide +kernel
theorem dX6_init_25 : decode cX6_init 25 = .ok (.aload_n 0, 1) := by decide +kernel
theorem dX6_init_26 : decode cX6_init 26 = .ok (.bipush 28, 2) := by decide +kernel
theorem dX6_init_28 : decode cX6_init 28 = .ok (.newarray .int, 2) := by decide +kernel
theorem dX6_init_30 : decode cX6_init 30 = .ok (.putfield 22, 3) := by decide +kernel
theorem dX6_init_33 : decode cX6_init 33 = .ok (.aload_n 0, 1) := by decide +kernel
theorem dX6_init_34 : decode cX6_init 34 = .ok (.bipush 28, 2) := by decide +kernel
theorem dX6_init_36 : decode cX6_init 36 = .ok (.newarray .int, 2) := by decide +kernel
theorem dX6_init_38 : decode cX6_init 38 = .ok (.putfield 25, 3) := by decide +kernel
theorem dX6_init_41 : decode cX6_init 41 = .ok (.aload_n 0, 1) := by decide +kernel
theorem dX6_init_42 : decode cX6_init 42 = .ok (.iconst 0, 1) := by decide +kernel
theorem dX6_init_43 : decode cX6_init 43 = .ok (.putfield 28, 3) := by decide +kernel
theorem dX6_init_46 : decode cX6_init 46 = .ok (.aload_n 0, 1) := by decide +kernel
theorem dX6_init_47 : decode cX6_init 47 = .ok (.iconst 0, 1) := by decide +kernel
theorem dX6_init_48 : decode cX6_init 48 = .ok (.putfield 31, 3) := by decide +kernel
theorem dX6_init_51 : decode cX6_init 51 = .ok (.return_, 1) := by decide +kernel
theorem dX6_keep_0 : decode cX6_keep 0 = .ok (.aload_n 0, 1) := by decide +kernel
theorem dX6_keep_1 : decode cX6_keep 1 = .ok (.getfield 18, 3) := by decide +kernel
theorem dX6_keep_4 : decode cX6_keep 4 = .ok (.bipush 6, 2) := by decide +kernel
theorem dX6_keep_6 : decode cX6_keep 6 = .ok (.if_icmp .lt 6, 3) := by decide +kernel
theorem dX6_keep_9 : decode cX6_keep 9 = .ok (.bipush (-3), 2) := by decide +kernel
theorem dX6_keep_11 : decode cX6_keep 11 = .ok (.ireturn, 1) := by decide +kernel
theorem dX6_keep_12 : decode cX6_keep 12 = .ok (.aload_n 0, 1) := by decide +kernel
theorem dX6_keep_13 : decode cX6_keep 13 = .ok (.getfield 11, 3) := by decide +kernel
theorem dX6_keep_16 : decode cX6_keep 16 = .ok (.aload_n 0, 1) := by decide +kernel
theorem dX6_keep_17 : decode cX6_keep 17 = .ok (.getfield 18, 3) := by decide +kernel
theorem dX6_keep_20 : decode cX6_keep 20 = .ok (.iload_n 1, 1) := by decide +kernel
theorem dX6_keep_21 : decode cX6_keep 21 = .ok (.iastore, 1) := by decide +kernel
theorem dX6_keep_22 : decode cX6_keep 22 = .ok (.aload_n 0, 1) := by decide +kernel
theorem dX6_keep_23 : decode cX6_keep 23 = .ok (.getfield 15, 3) := by decide +kernel
theorem dX6_keep_26 : decode cX6_keep 26 = .ok (.aload_n 0, 1) := by decide +kernel
theorem dX6_keep_27 : decode cX6_keep 27 = .ok (.getfield 18, 3) := by decide +kernel
theorem dX6_keep_30 : decode cX6_keep 30 = .ok (.iload_n 2, 1) := by decide +kernel
theorem dX6_keep_31 : decode cX6_keep 31 = .ok (.iastore, 1) := by decide +kernel
theorem dX6_keep_32 : decode cX6_keep 32 = .ok (.aload_n 0, 1) := by decide +kernel
theorem dX6_keep_33 : decode cX6_keep 33 = .ok (.dup, 1) := by decide +kernel
theorem dX6_keep_34 : decode cX6_keep 34 = .ok (.getfield 18, 3) := by decide +kernel
theorem dX6_keep_37 : decode cX6_keep 37 = .ok (.iconst 1, 1) := by decide +kernel
theorem dX6_keep_38 : decode cX6_keep 38 = .ok (.iadd, 1) := by decide +kernel
theorem dX6_keep_39 : decode cX6_keep 39 = .ok (.putfield 18, 3) := by decide +kernel
theorem dX6_keep_42 : decode cX6_keep 42 = .ok (.aload_n 0, 1) := by decide +kernel
theorem dX6_keep_43 : decode cX6_keep 43 = .ok (.getfield 18, 3) := by decide +kernel
theorem dX6_keep_46 : decode cX6_keep 46 = .ok (.iconst 1, 1) := by decide +kernel
theorem dX6_keep_47 : decode cX6_keep 47 = .ok (.isub, 1) := by decide +kernel
theorem dX6_keep_48 : decode cX6_keep 48 = .ok (.ireturn, 1) := by decide +kernel
set_option maxRecDepth 20000 in
theorem ggX6_tryOn_X1_put : GoodIn wsX6_tryOn wsX1_put := goodIn_r _ [10, 11, 12, 13, 14, 15, 76, 77, 78, 79, 80, 81] (by decide +kernel) (by decide +kernel)
set_option maxRecDepth 20000 in
theorem gX6_tryOn_X1_put : GoodIn wsX6_tryOn (wsV RX6 34 RX1 yX1_put wsX1_put) := goodIn_app (goodIn_of _ (by decide +kernel)) ggX6_tryOn_X1_put
set_option maxRecDepth 20000 in
theorem ggX6_tryOn_X1_stalls : GoodIn wsX6_tryOn wsX1_stalls := goodIn_r _ [19, 20, 21, 22, 23, 9, 24, 12, 25, 26, 11, 27, 28, 29, 30, 76, 77, 78, 79, 80, 81] (by decide +kernel) (by decide +kernel)
set_option maxRecDepth 20000 in
theorem gX6_tryOn_X1_stalls : GoodIn wsX6_tryOn (wsV RX6 40 RX1 yX1_stalls wsX1_stalls) := goodIn_app (goodIn_of _ (by decide +kernel)) ggX6_tryOn_X1_stalls
set_option maxRecDepth 20000 in
theorem ggX6_tryOn_X1_drawsAnHour : GoodIn wsX6_tryOn wsX1_drawsAnHour := goodIn_r _ [34, 35, 36, 37, 9, 38, 11, 26, 39, 17, 18, 19, 20, 21, 22, 23, 24, 12, 25, 27, 28, 29, 30, 40, 41, 42, 43, 44, 45, 46, 47, 48, 49, 50, 51, 52, 53, 54, 55, 56, 57, 58, 59, 60, 61, 62, 63, 64, 65, 66, 67, 76, 77, 78, 79, 80, 81] (by decide +kernel) (by decide +kernel)
set_option maxRecDepth 20000 in
theorem gX6_tryOn_X1_drawsAnHour : GoodIn wsX6_tryOn (wsV RX6 44 RX1 yX1_drawsAnHour wsX1_drawsAnHour) := goodIn_app (goodIn_of _ (by decide +kernel)) ggX6_tryOn_X1_drawsAnHour
set_option maxRecDepth 20000 in
theorem ggX6_tryOn_X1_upAnHour : GoodIn wsX6_tryOn wsX1_upAnHour := goodIn_r _ [52, 40, 41, 42, 9, 43, 44, 39, 17, 18, 19, 20, 21, 22, 23, 24, 12, 25, 26, 11, 27, 28, 29, 30, 45, 46, 47, 48, 53, 54, 55, 56, 57, 58, 59, 60, 61, 62, 63, 64, 65, 66, 67, 76, 77, 78, 79, 80, 81] (by decide +kernel) (by decide +kernel)
set_option maxRecDepth 20000 in
theorem gX6_tryOn_X1_upAnHour : GoodIn wsX6_tryOn (wsV RX6 48 RX1 yX1_upAnHour wsX1_upAnHour) := goodIn_app (goodIn_of _ (by decide +kernel)) ggX6_tryOn_X1_upAnHour
theorem dX6_tryOn_0 : decode cX6_tryOn 0 = .ok (.iload_n 1, 1) := by decide +kernel
theorem dX6_tryOn_1 : decode cX6_tryOn 1 = .ok (.bipush 7, 2) := by decide +kernel
theorem dX6_tryOn_3 : decode cX6_tryOn 3 = .ok (.imul, 1) := by decide +kernel
theorem dX6_tryOn_4 : decode cX6_tryOn 4 = .ok (.istore_n 3, 1) := by decide +kernel
theorem dX6_tryOn_5 : decode cX6_tryOn 5 = .ok (.iconst 0, 1) := by decide +kernel
theorem dX6_tryOn_6 : decode cX6_tryOn 6 = .ok (.istore 4, 2) := by decide +kernel
theorem dX6_tryOn_8 : decode cX6_tryOn 8 = .ok (.iload 4, 2) := by decide +kernel
theorem dX6_tryOn_10 : decode cX6_tryOn 10 = .ok (.aload_n 0, 1) := by decide +kernel
theorem dX6_tryOn_11 : decode cX6_tryOn 11 = .ok (.getfield 18, 3) := by decide +kernel
theorem dX6_tryOn_14 : decode cX6_tryOn 14 = .ok (.if_icmp .ge 75, 3) := by decide +kernel
theorem dX6_tryOn_17 : decode cX6_tryOn 17 = .ok (.aload_n 2, 1) := by decide +kernel
theorem dX6_tryOn_18 : decode cX6_tryOn 18 = .ok (.iconst 4, 1) := by decide +kernel
theorem dX6_tryOn_19 : decode cX6_tryOn 19 = .ok (.aload_n 0, 1) := by decide +kernel
theorem dX6_tryOn_20 : decode cX6_tryOn 20 = .ok (.getfield 11, 3) := by decide +kernel
theorem dX6_tryOn_23 : decode cX6_tryOn 23 = .ok (.iload 4, 2) := by decide +kernel
theorem dX6_tryOn_25 : decode cX6_tryOn 25 = .ok (.iaload, 1) := by decide +kernel
theorem dX6_tryOn_26 : decode cX6_tryOn 26 = .ok (.invokevirtual 34, 3) := by decide +kernel
theorem dX6_tryOn_29 : decode cX6_tryOn 29 = .ok (.aload_n 2, 1) := by decide +kernel
theorem dX6_tryOn_30 : decode cX6_tryOn 30 = .ok (.iconst 5, 1) := by decide +kernel
theorem dX6_tryOn_31 : decode cX6_tryOn 31 = .ok (.aload_n 0, 1) := by decide +kernel
theorem dX6_tryOn_32 : decode cX6_tryOn 32 = .ok (.getfield 15, 3) := by decide +kernel
theorem dX6_tryOn_35 : decode cX6_tryOn 35 = .ok (.iload 4, 2) := by decide +kernel
theorem dX6_tryOn_37 : decode cX6_tryOn 37 = .ok (.iaload, 1) := by decide +kernel
theorem dX6_tryOn_38 : decode cX6_tryOn 38 = .ok (.invokevirtual 34, 3) := by decide +kernel
theorem dX6_tryOn_41 : decode cX6_tryOn 41 = .ok (.aload_n 0, 1) := by decide +kernel
theorem dX6_tryOn_42 : decode cX6_tryOn 42 = .ok (.getfield 22, 3) := by decide +kernel
theorem dX6_tryOn_45 : decode cX6_tryOn 45 = .ok (.iload_n 3, 1) := by decide +kernel
theorem dX6_tryOn_46 : decode cX6_tryOn 46 = .ok (.iload 4, 2) := by decide +kernel
theorem dX6_tryOn_48 : decode cX6_tryOn 48 = .ok (.iadd, 1) := by decide +kernel
theorem dX6_tryOn_49 : decode cX6_tryOn 49 = .ok (.iconst 1, 1) := by decide +kernel
theorem dX6_tryOn_50 : decode cX6_tryOn 50 = .ok (.iadd, 1) := by decide +kernel
theorem dX6_tryOn_51 : decode cX6_tryOn 51 = .ok (.aload_n 2, 1) := by decide +kernel
theorem dX6_tryOn_52 : decode cX6_tryOn 52 = .ok (.invokevirtual 40, 3) := by decide +kernel
theorem dX6_tryOn_55 : decode cX6_tryOn 55 = .ok (.ifCond .eq 8, 3) := by decide +kernel
theorem dX6_tryOn_58 : decode cX6_tryOn 58 = .ok (.bipush (-9), 2) := by decide +kernel
theorem dX6_tryOn_60 : decode cX6_tryOn 60 = .ok (.goto 7, 3) := by decide +kernel
theorem dX6_tryOn_63 : decode cX6_tryOn 63 = .ok (.aload_n 2, 1) := by decide +kernel
theorem dX6_tryOn_64 : decode cX6_tryOn 64 = .ok (.invokevirtual 44, 3) := by decide +kernel
theorem dX6_tryOn_67 : decode cX6_tryOn 67 = .ok (.iastore, 1) := by decide +kernel
theorem dX6_tryOn_68 : decode cX6_tryOn 68 = .ok (.aload_n 0, 1) := by decide +kernel
theorem dX6_tryOn_69 : decode cX6_tryOn 69 = .ok (.getfield 25, 3) := by decide +kernel
theorem dX6_tryOn_72 : decode cX6_tryOn 72 = .ok (.iload_n 3, 1) := by decide +kernel
theorem dX6_tryOn_73 : decode cX6_tryOn 73 = .ok (.iload 4, 2) := by decide +kernel
theorem dX6_tryOn_75 : decode cX6_tryOn 75 = .ok (.iadd, 1) := by decide +kernel
theorem dX6_tryOn_76 : decode cX6_tryOn 76 = .ok (.iconst 1, 1) := by decide +kernel
theorem dX6_tryOn_77 : decode cX6_tryOn 77 = .ok (.iadd, 1) := by decide +kernel
theorem dX6_tryOn_78 : decode cX6_tryOn 78 = .ok (.aload_n 2, 1) := by decide +kernel
theorem dX6_tryOn_79 : decode cX6_tryOn 79 = .ok (.invokevirtual 48, 3) := by decide +kernel
theorem dX6_tryOn_82 : decode cX6_tryOn 82 = .ok (.iastore, 1) := by decide +kernel
theorem dX6_tryOn_83 : decode cX6_tryOn 83 = .ok (.iinc 4 1, 3) := by decide +kernel
theorem dX6_tryOn_86 : decode cX6_tryOn 86 = .ok (.goto (-78), 3) := by decide +kernel
theorem dX6_tryOn_89 : decode cX6_tryOn 89 = .ok (.return_, 1) := by decide +kernel
set_option maxRecDepth 20000 in
theorem ggX6_pick_X6_numbers : GoodIn wsX6_pick wsX6_numbers := goodIn_r _ [6] (by decide +kernel) (by decide +kernel)
set_option maxRecDepth 20000 in
theorem gX6_pick_X6_numbers : GoodIn wsX6_pick (va_wsS RX6 51 yX6_numbers wsX6_numbers) := goodIn_app (goodIn_of _ (by decide +kernel)) ggX6_pick_X6_numbers
set_option maxRecDepth 20000 in
theorem ggX6_pick_X6_upOf : GoodIn wsX6_pick wsX6_upOf := goodIn_r _ [10, 11, 12, 13, 14, 15, 16, 17, 18, 19, 20] (by decide +kernel) (by decide +kernel)
set_option maxRecDepth 20000 in
theorem gX6_pick_X6_upOf : GoodIn wsX6_pick (wsV RX6 55 RX6 yX6_upOf wsX6_upOf) := goodIn_app (goodIn_of _ (by decide +kernel)) ggX6_pick_X6_upOf
theorem dX6_pick_0 : decode cX6_pick 0 = .ok (.aload_n 0, 1) := by decide +kernel
theorem dX6_pick_1 : decode cX6_pick 1 = .ok (.iconst 0, 1) := by decide +kernel
theorem dX6_pick_2 : decode cX6_pick 2 = .ok (.putfield 28, 3) := by decide +kernel
theorem dX6_pick_5 : decode cX6_pick 5 = .ok (.aload_n 0, 1) := by decide +kernel
theorem dX6_pick_6 : decode cX6_pick 6 = .ok (.iconst 0, 1) := by decide +kernel
theorem dX6_pick_7 : decode cX6_pick 7 = .ok (.putfield 31, 3) := by decide +kernel
theorem dX6_pick_10 : decode cX6_pick 10 = .ok (.iload_n 1, 1) := by decide +kernel
theorem dX6_pick_11 : decode cX6_pick 11 = .ok (.invokestatic 51, 3) := by decide +kernel
theorem dX6_pick_14 : decode cX6_pick 14 = .ok (.istore_n 3, 1) := by decide +kernel
theorem dX6_pick_15 : decode cX6_pick 15 = .ok (.iconst 1, 1) := by decide +kernel
theorem dX6_pick_16 : decode cX6_pick 16 = .ok (.istore 4, 2) := by decide +kernel
theorem dX6_pick_18 : decode cX6_pick 18 = .ok (.iload 4, 2) := by decide +kernel
theorem dX6_pick_20 : decode cX6_pick 20 = .ok (.iload_n 3, 1) := by decide +kernel
theorem dX6_pick_21 : decode cX6_pick 21 = .ok (.if_icmp .ge 40, 3) := by decide +kernel
theorem dX6_pick_24 : decode cX6_pick 24 = .ok (.aload_n 0, 1) := by decide +kernel
theorem dX6_pick_25 : decode cX6_pick 25 = .ok (.iload 4, 2) := by decide +kernel
theorem dX6_pick_27 : decode cX6_pick 27 = .ok (.iload_n 1, 1) := by decide +kernel
theorem dX6_pick_28 : decode cX6_pick 28 = .ok (.iload_n 2, 1) := by decide +kernel
theorem dX6_pick_29 : decode cX6_pick 29 = .ok (.invokevirtual 55, 3) := by decide +kernel
theorem dX6_pick_32 : decode cX6_pick 32 = .ok (.istore 5, 2) := by decide +kernel
theorem dX6_pick_34 : decode cX6_pick 34 = .ok (.iload 5, 2) := by decide +kernel
theorem dX6_pick_36 : decode cX6_pick 36 = .ok (.aload_n 0, 1) := by decide +kernel
theorem dX6_pick_37 : decode cX6_pick 37 = .ok (.getfield 31, 3) := by decide +kernel
theorem dX6_pick_40 : decode cX6_pick 40 = .ok (.if_icmp .le 15, 3) := by decide +kernel
theorem dX6_pick_43 : decode cX6_pick 43 = .ok (.aload_n 0, 1) := by decide +kernel
theorem dX6_pick_44 : decode cX6_pick 44 = .ok (.iload 4, 2) := by decide +kernel
theorem dX6_pick_46 : decode cX6_pick 46 = .ok (.putfield 28, 3) := by decide +kernel
theorem dX6_pick_49 : decode cX6_pick 49 = .ok (.aload_n 0, 1) := by decide +kernel
theorem dX6_pick_50 : decode cX6_pick 50 = .ok (.iload 5, 2) := by decide +kernel
theorem dX6_pick_52 : decode cX6_pick 52 = .ok (.putfield 31, 3) := by decide +kernel
theorem dX6_pick_55 : decode cX6_pick 55 = .ok (.iinc 4 1, 3) := by decide +kernel
theorem dX6_pick_58 : decode cX6_pick 58 = .ok (.goto (-40), 3) := by decide +kernel
theorem dX6_pick_61 : decode cX6_pick 61 = .ok (.return_, 1) := by decide +kernel
set_option maxRecDepth 20000 in
theorem ggX6_tellsAll_X6_numbers : GoodIn wsX6_tellsAll wsX6_numbers := goodIn_r _ [5] (by decide +kernel) (by decide +kernel)
set_option maxRecDepth 20000 in
theorem gX6_tellsAll_X6_numbers : GoodIn wsX6_tellsAll (va_wsS RX6 51 yX6_numbers wsX6_numbers) := goodIn_app (goodIn_of _ (by decide +kernel)) ggX6_tellsAll_X6_numbers
set_option maxRecDepth 20000 in
theorem ggX6_tellsAll_X7_within : GoodIn wsX6_tellsAll wsX7_within := goodIn_r _ [8] (by decide +kernel) (by decide +kernel)
set_option maxRecDepth 20000 in
theorem gX6_tellsAll_X7_within_n59 : GoodIn wsX6_tellsAll (wsX7_within) := ggX6_tellsAll_X7_within
theorem dX6_tellsAll_0 : decode cX6_tellsAll 0 = .ok (.iload_n 1, 1) := by decide +kernel
theorem dX6_tellsAll_1 : decode cX6_tellsAll 1 = .ok (.iconst 0, 1) := by decide +kernel
theorem dX6_tellsAll_2 : decode cX6_tellsAll 2 = .ok (.iload_n 2, 1) := by decide +kernel
theorem dX6_tellsAll_3 : decode cX6_tellsAll 3 = .ok (.invokestatic 51, 3) := by decide +kernel
theorem dX6_tellsAll_6 : decode cX6_tellsAll 6 = .ok (.iconst 1, 1) := by decide +kernel
theorem dX6_tellsAll_7 : decode cX6_tellsAll 7 = .ok (.isub, 1) := by decide +kernel
theorem dX6_tellsAll_8 : decode cX6_tellsAll 8 = .ok (.invokestatic 59, 3) := by decide +kernel
theorem dX6_tellsAll_11 : decode cX6_tellsAll 11 = .ok (.ifCond .ne 5, 3) := by decide +kernel
theorem dX6_tellsAll_14 : decode cX6_tellsAll 14 = .ok (.iconst 0, 1) := by decide +kernel
theorem dX6_tellsAll_15 : decode cX6_tellsAll 15 = .ok (.ireturn, 1) := by decide +kernel
theorem dX6_tellsAll_16 : decode cX6_tellsAll 16 = .ok (.iload_n 1, 1) := by decide +kernel
theorem dX6_tellsAll_17 : decode cX6_tellsAll 17 = .ok (.istore_n 3, 1) := by decide +kernel
theorem dX6_tellsAll_18 : decode cX6_tellsAll 18 = .ok (.iconst 0, 1) := by decide +kernel
theorem dX6_tellsAll_19 : decode cX6_tellsAll 19 = .ok (.istore 4, 2) := by decide +kernel
theorem dX6_tellsAll_21 : decode cX6_tellsAll 21 = .ok (.iload 4, 2) := by decide +kernel
theorem dX6_tellsAll_23 : decode cX6_tellsAll 23 = .ok (.iload_n 2, 1) := by decide +kernel
theorem dX6_tellsAll_24 : decode cX6_tellsAll 24 = .ok (.if_icmp .ge 27, 3) := by decide +kernel
theorem dX6_tellsAll_27 : decode cX6_tellsAll 27 = .ok (.iload_n 3, 1) := by decide +kernel
theorem dX6_tellsAll_28 : decode cX6_tellsAll 28 = .ok (.bipush 7, 2) := by decide +kernel
theorem dX6_tellsAll_30 : decode cX6_tellsAll 30 = .ok (.irem, 1) := by decide +kernel
theorem dX6_tellsAll_31 : decode cX6_tellsAll 31 = .ok (.aload_n 0, 1) := by decide +kernel
theorem dX6_tellsAll_32 : decode cX6_tellsAll 32 = .ok (.getfield 18, 3) := by decide +kernel
theorem dX6_tellsAll_35 : decode cX6_tellsAll 35 = .ok (.if_icmp .le 5, 3) := by decide +kernel
theorem dX6_tellsAll_38 : decode cX6_tellsAll 38 = .ok (.iconst 0, 1) := by decide +kernel
theorem dX6_tellsAll_39 : decode cX6_tellsAll 39 = .ok (.ireturn, 1) := by decide +kernel
theorem dX6_tellsAll_40 : decode cX6_tellsAll 40 = .ok (.iload_n 3, 1) := by decide +kernel
theorem dX6_tellsAll_41 : decode cX6_tellsAll 41 = .ok (.bipush 7, 2) := by decide +kernel
theorem dX6_tellsAll_43 : decode cX6_tellsAll 43 = .ok (.idiv, 1) := by decide +kernel
theorem dX6_tellsAll_44 : decode cX6_tellsAll 44 = .ok (.istore_n 3, 1) := by decide +kernel
theorem dX6_tellsAll_45 : decode cX6_tellsAll 45 = .ok (.iinc 4 1, 3) := by decide +kernel
theorem dX6_tellsAll_48 : decode cX6_tellsAll 48 = .ok (.goto (-27), 3) := by decide +kernel
theorem dX6_tellsAll_51 : decode cX6_tellsAll 51 = .ok (.iconst 1, 1) := by decide +kernel
theorem dX6_tellsAll_52 : decode cX6_tellsAll 52 = .ok (.ireturn, 1) := by decide +kernel
set_option maxRecDepth 20000 in
theorem ggX6_giveTo_X7_within : GoodIn wsX6_giveTo wsX7_within := goodIn_r _ [6] (by decide +kernel) (by decide +kernel)
set_option maxRecDepth 20000 in
theorem gX6_giveTo_X7_within_n59 : GoodIn wsX6_giveTo (wsX7_within) := ggX6_giveTo_X7_within
set_option maxRecDepth 20000 in
theorem ggX6_giveTo_X1_put : GoodIn wsX6_giveTo wsX1_put := goodIn_r _ [11, 12, 13, 4, 5, 6, 21, 22, 23, 24, 25, 26] (by decide +kernel) (by decide +kernel)
set_option maxRecDepth 20000 in
theorem gX6_giveTo_X1_put : GoodIn wsX6_giveTo (wsV RX6 34 RX1 yX1_put wsX1_put) := goodIn_app (goodIn_of _ (by decide +kernel)) ggX6_giveTo_X1_put
theorem dX6_giveTo_0 : decode cX6_giveTo 0 = .ok (.iload_n 2, 1) := by decide +kernel
theorem dX6_giveTo_1 : decode cX6_giveTo 1 = .ok (.iconst 1, 1) := by decide +kernel
theorem dX6_giveTo_2 : decode cX6_giveTo 2 = .ok (.aload_n 0, 1) := by decide +kernel
theorem dX6_giveTo_3 : decode cX6_giveTo 3 = .ok (.getfield 18, 3) := by decide +kernel
theorem dX6_giveTo_6 : decode cX6_giveTo 6 = .ok (.invokestatic 59, 3) := by decide +kernel
theorem dX6_giveTo_9 : decode cX6_giveTo 9 = .ok (.ifCond .ne 11, 3) := by decide +kernel
theorem dX6_giveTo_12 : decode cX6_giveTo 12 = .ok (.aload_n 1, 1) := by decide +kernel
theorem dX6_giveTo_13 : decode cX6_giveTo 13 = .ok (.bipush 12, 2) := by decide +kernel
theorem dX6_giveTo_15 : decode cX6_giveTo 15 = .ok (.iconst 0, 1) := by decide +kernel
theorem dX6_giveTo_16 : decode cX6_giveTo 16 = .ok (.invokevirtual 34, 3) := by decide +kernel
theorem dX6_giveTo_19 : decode cX6_giveTo 19 = .ok (.return_, 1) := by decide +kernel
theorem dX6_giveTo_20 : decode cX6_giveTo 20 = .ok (.aload_n 1, 1) := by decide +kernel
theorem dX6_giveTo_21 : decode cX6_giveTo 21 = .ok (.iconst 4, 1) := by decide +kernel
theorem dX6_giveTo_22 : decode cX6_giveTo 22 = .ok (.aload_n 0, 1) := by decide +kernel
theorem dX6_giveTo_23 : decode cX6_giveTo 23 = .ok (.getfield 11, 3) := by decide +kernel
theorem dX6_giveTo_26 : decode cX6_giveTo 26 = .ok (.iload_n 2, 1) := by decide +kernel
theorem dX6_giveTo_27 : decode cX6_giveTo 27 = .ok (.iconst 1, 1) := by decide +kernel
theorem dX6_giveTo_28 : decode cX6_giveTo 28 = .ok (.isub, 1) := by decide +kernel
theorem dX6_giveTo_29 : decode cX6_giveTo 29 = .ok (.iaload, 1) := by decide +kernel
theorem dX6_giveTo_30 : decode cX6_giveTo 30 = .ok (.invokevirtual 34, 3) := by decide +kernel
theorem dX6_giveTo_33 : decode cX6_giveTo 33 = .ok (.aload_n 1, 1) := by decide +kernel
theorem dX6_giveTo_34 : decode cX6_giveTo 34 = .ok (.iconst 5, 1) := by decide +kernel
theorem dX6_giveTo_35 : decode cX6_giveTo 35 = .ok (.aload_n 0, 1) := by decide +kernel
theorem dX6_giveTo_36 : decode cX6_giveTo 36 = .ok (.getfield 15, 3) := by decide +kernel
theorem dX6_giveTo_39 : decode cX6_giveTo 39 = .ok (.iload_n 2, 1) := by decide +kernel
theorem dX6_giveTo_40 : decode cX6_giveTo 40 = .ok (.iconst 1, 1) := by decide +kernel
theorem dX6_giveTo_41 : decode cX6_giveTo 41 = .ok (.isub, 1) := by decide +kernel
theorem dX6_giveTo_42 : decode cX6_giveTo 42 = .ok (.iaload, 1) := by decide +kernel
theorem dX6_giveTo_43 : decode cX6_giveTo 43 = .ok (.invokevirtual 34, 3) := by decide +kernel
theorem dX6_giveTo_46 : decode cX6_giveTo 46 = .ok (.aload_n 1, 1) := by decide +kernel
theorem dX6_giveTo_47 : decode cX6_giveTo 47 = .ok (.bipush 12, 2) := by decide +kernel
theorem dX6_giveTo_49 : decode cX6_giveTo 49 = .ok (.iconst 1, 1) := by decide +kernel
theorem dX6_giveTo_50 : decode cX6_giveTo 50 = .ok (.invokevirtual 34, 3) := by decide +kernel
theorem dX6_giveTo_53 : decode cX6_giveTo 53 = .ok (.return_, 1) := by decide +kernel
theorem dX6_numbers_0 : decode cX6_numbers 0 = .ok (.iconst 1, 1) := by decide +kernel
theorem dX6_numbers_1 : decode cX6_numbers 1 = .ok (.istore_n 1, 1) := by decide +kernel
theorem dX6_numbers_2 : decode cX6_numbers 2 = .ok (.iconst 0, 1) := by decide +kernel
theorem dX6_numbers_3 : decode cX6_numbers 3 = .ok (.istore_n 2, 1) := by decide +kernel
theorem dX6_numbers_4 : decode cX6_numbers 4 = .ok (.iload_n 2, 1) := by decide +kernel
theorem dX6_numbers_5 : decode cX6_numbers 5 = .ok (.iload_n 0, 1) := by decide +kernel
theorem dX6_numbers_6 : decode cX6_numbers 6 = .ok (.if_icmp .ge 14, 3) := by decide +kernel
theorem dX6_numbers_9 : decode cX6_numbers 9 = .ok (.iload_n 1, 1) := by decide +kernel
theorem dX6_numbers_10 : decode cX6_numbers 10 = .ok (.bipush 7, 2) := by decide +kernel
theorem dX6_numbers_12 : decode cX6_numbers 12 = .ok (.imul, 1) := by decide +kernel
theorem dX6_numbers_13 : decode cX6_numbers 13 = .ok (.istore_n 1, 1) := by decide +kernel
theorem dX6_numbers_14 : decode cX6_numbers 14 = .ok (.iinc 2 1, 3) := by decide +kernel
theorem dX6_numbers_17 : decode cX6_numbers 17 = .ok (.goto (-13), 3) := by decide +kernel
theorem dX6_numbers_20 : decode cX6_numbers 20 = .ok (.iload_n 1, 1) := by decide +kernel
theorem dX6_numbers_21 : decode cX6_numbers 21 = .ok (.ireturn, 1) := by decide +kernel
theorem dX6_upOf_0 : decode cX6_upOf 0 = .ok (.iload_n 3, 1) := by decide +kernel
theorem dX6_upOf_1 : decode cX6_upOf 1 = .ok (.istore 4, 2) := by decide +kernel
theorem dX6_upOf_3 : decode cX6_upOf 3 = .ok (.iconst 0, 1) := by decide +kernel
theorem dX6_upOf_4 : decode cX6_upOf 4 = .ok (.istore 5, 2) := by decide +kernel
theorem dX6_upOf_6 : decode cX6_upOf 6 = .ok (.iload_n 1, 1) := by decide +kernel
theorem dX6_upOf_7 : decode cX6_upOf 7 = .ok (.istore 6, 2) := by decide +kernel
theorem dX6_upOf_9 : decode cX6_upOf 9 = .ok (.iconst 0, 1) := by decide +kernel
theorem dX6_upOf_10 : decode cX6_upOf 10 = .ok (.istore 7, 2) := by decide +kernel
theorem dX6_upOf_12 : decode cX6_upOf 12 = .ok (.iload 7, 2) := by decide +kernel
theorem dX6_upOf_14 : decode cX6_upOf 14 = .ok (.iload_n 2, 1) := by decide +kernel
theorem dX6_upOf_15 : decode cX6_upOf 15 = .ok (.if_icmp .ge 93, 3) := by decide +kernel
theorem dX6_upOf_18 : decode cX6_upOf 18 = .ok (.iload 6, 2) := by decide +kernel
theorem dX6_upOf_20 : decode cX6_upOf 20 = .ok (.bipush 7, 2) := by decide +kernel
theorem dX6_upOf_22 : decode cX6_upOf 22 = .ok (.irem, 1) := by decide +kernel
theorem dX6_upOf_23 : decode cX6_upOf 23 = .ok (.istore 8, 2) := by decide +kernel
theorem dX6_upOf_25 : decode cX6_upOf 25 = .ok (.iload 6, 2) := by decide +kernel
theorem dX6_upOf_27 : decode cX6_upOf 27 = .ok (.bipush 7, 2) := by decide +kernel
theorem dX6_upOf_29 : decode cX6_upOf 29 = .ok (.idiv, 1) := by decide +kernel
theorem dX6_upOf_30 : decode cX6_upOf 30 = .ok (.istore 6, 2) := by decide +kernel
theorem dX6_upOf_32 : decode cX6_upOf 32 = .ok (.iload 7, 2) := by decide +kernel
theorem dX6_upOf_34 : decode cX6_upOf 34 = .ok (.bipush 7, 2) := by decide +kernel
theorem dX6_upOf_36 : decode cX6_upOf 36 = .ok (.imul, 1) := by decide +kernel
theorem dX6_upOf_37 : decode cX6_upOf 37 = .ok (.iload 8, 2) := by decide +kernel
theorem dX6_upOf_39 : decode cX6_upOf 39 = .ok (.iadd, 1) := by decide +kernel
theorem dX6_upOf_40 : decode cX6_upOf 40 = .ok (.istore 9, 2) := by decide +kernel
theorem dX6_upOf_42 : decode cX6_upOf 42 = .ok (.iload 8, 2) := by decide +kernel
theorem dX6_upOf_44 : decode cX6_upOf 44 = .ok (.aload_n 0, 1) := by decide +kernel
theorem dX6_upOf_45 : decode cX6_upOf 45 = .ok (.getfield 18, 3) := by decide +kernel
theorem dX6_upOf_48 : decode cX6_upOf 48 = .ok (.if_icmp .gt 27, 3) := by decide +kernel
theorem dX6_upOf_51 : decode cX6_upOf 51 = .ok (.aload_n 0, 1) := by decide +kernel
theorem dX6_upOf_52 : decode cX6_upOf 52 = .ok (.getfield 22, 3) := by decide +kernel
theorem dX6_upOf_55 : decode cX6_upOf 55 = .ok (.iload 9, 2) := by decide +kernel
theorem dX6_upOf_57 : decode cX6_upOf 57 = .ok (.iaload, 1) := by decide +kernel
theorem dX6_upOf_58 : decode cX6_upOf 58 = .ok (.bipush (-9), 2) := by decide +kernel
theorem dX6_upOf_60 : decode cX6_upOf 60 = .ok (.if_icmp .eq 15, 3) := by decide +kernel
theorem dX6_upOf_63 : decode cX6_upOf 63 = .ok (.aload_n 0, 1) := by decide +kernel
theorem dX6_upOf_64 : decode cX6_upOf 64 = .ok (.getfield 22, 3) := by decide +kernel
theorem dX6_upOf_67 : decode cX6_upOf 67 = .ok (.iload 9, 2) := by decide +kernel
theorem dX6_upOf_69 : decode cX6_upOf 69 = .ok (.iaload, 1) := by decide +kernel
theorem dX6_upOf_70 : decode cX6_upOf 70 = .ok (.iload 4, 2) := by decide +kernel
theorem dX6_upOf_72 : decode cX6_upOf 72 = .ok (.if_icmp .le 6, 3) := by decide +kernel
theorem dX6_upOf_75 : decode cX6_upOf 75 = .ok (.bipush (-9), 2) := by decide +kernel
theorem dX6_upOf_77 : decode cX6_upOf 77 = .ok (.ireturn, 1) := by decide +kernel
theorem dX6_upOf_78 : decode cX6_upOf 78 = .ok (.iload 4, 2) := by decide +kernel
theorem dX6_upOf_80 : decode cX6_upOf 80 = .ok (.aload_n 0, 1) := by decide +kernel
theorem dX6_upOf_81 : decode cX6_upOf 81 = .ok (.getfield 22, 3) := by decide +kernel
theorem dX6_upOf_84 : decode cX6_upOf 84 = .ok (.iload 9, 2) := by decide +kernel
theorem dX6_upOf_86 : decode cX6_upOf 86 = .ok (.iaload, 1) := by decide +kernel
theorem dX6_upOf_87 : decode cX6_upOf 87 = .ok (.isub, 1) := by decide +kernel
theorem dX6_upOf_88 : decode cX6_upOf 88 = .ok (.istore 4, 2) := by decide +kernel
theorem dX6_upOf_90 : decode cX6_upOf 90 = .ok (.iload 5, 2) := by decide +kernel
theorem dX6_upOf_92 : decode cX6_upOf 92 = .ok (.aload_n 0, 1) := by decide +kernel
theorem dX6_upOf_93 : decode cX6_upOf 93 = .ok (.getfield 25, 3) := by decide +kernel
theorem dX6_upOf_96 : decode cX6_upOf 96 = .ok (.iload 9, 2) := by decide +kernel
theorem dX6_upOf_98 : decode cX6_upOf 98 = .ok (.iaload, 1) := by decide +kernel
theorem dX6_upOf_99 : decode cX6_upOf 99 = .ok (.iadd, 1) := by decide +kernel
theorem dX6_upOf_100 : decode cX6_upOf 100 = .ok (.istore 5, 2) := by decide +kernel
theorem dX6_upOf_102 : decode cX6_upOf 102 = .ok (.iinc 7 1, 3) := by decide +kernel
theorem dX6_upOf_105 : decode cX6_upOf 105 = .ok (.goto (-93), 3) := by decide +kernel
theorem dX6_upOf_108 : decode cX6_upOf 108 = .ok (.iload 5, 2) := by decide +kernel
theorem dX6_upOf_110 : decode cX6_upOf 110 = .ok (.ireturn, 1) := by decide +kernel
end
section
set_option maxRecDepth 20000 in
theorem ggX7_init_X1_init : GoodIn wsX7_init wsX1_init := goodIn_r _ [40, 41, 2, 3, 42, 43, 44, 45, 46, 47, 48, 49, 50, 51, 52, 127, 128, 129, 130, 131, 132] (by decide +kernel) (by decide +kernel)
set_option maxRecDepth 20000 in
theorem gX7_init_X1_init : GoodIn wsX7_init (wsX1_init) := ggX7_init_X1_init
set_option maxRecDepth 20000 in
theorem ggX7_init_X4_init : GoodIn wsX7_init wsX4_init := goodIn_r _ [55, 56, 2, 3, 42, 57, 58, 59, 60, 61, 62, 63, 64, 133, 134, 135, 136] (by decide +kernel) (by decide +kernel)
set_option maxRecDepth 20000 in
theorem gX7_init_X4_init : GoodIn wsX7_init (wsX4_init) := ggX7_init_X4_init
set_option maxRecDepth 20000 in
theorem ggX7_init_X6_init : GoodIn wsX7_init wsX6_init := goodIn_r _ [66, 67, 2, 3, 42, 68, 69, 70, 71, 72, 73, 74, 137, 138, 139, 140, 141, 142, 143] (by decide +kernel) (by decide +kernel)
set_option maxRecDepth 20000 in
theorem gX7_init_X6_init_n33 : GoodIn wsX7_init (wsX6_init) := ggX7_init_X6_init
set_option maxRecDepth 20000 in
theorem ggX7_init_X3_init : GoodIn wsX7_init wsX3_init := goodIn_r _ [76, 77, 2, 3, 78, 79, 80, 81, 42, 82, 83, 84, 85, 144, 145, 146, 147, 148, 149, 150] (by decide +kernel) (by decide +kernel)
set_option maxRecDepth 20000 in
theorem gX7_init_X3_init_n40 : GoodIn wsX7_init (wsX3_init) := ggX7_init_X3_init
set_option maxRecDepth 20000 in
theorem ggX7_init_X5_init : GoodIn wsX7_init wsX5_init := goodIn_r _ [87, 88, 2, 3, 89, 90, 91, 92, 93, 94, 95, 96, 97, 98, 151, 152, 153, 154, 155, 156, 157, 158] (by decide +kernel) (by decide +kernel)
set_option maxRecDepth 20000 in
theorem gX7_init_X5_init_n47 : GoodIn wsX7_init (wsX5_init) := ggX7_init_X5_init
set_option maxRecDepth 20000 in
theorem ggX7_init_X2_init : GoodIn wsX7_init wsX2_init := goodIn_r _ [100, 101, 2, 3, 42, 102, 103, 104, 105, 106, 107, 159, 160, 161, 162, 163, 164] (by decide +kernel) (by decide +kernel)
set_option maxRecDepth 20000 in
theorem gX7_init_X2_init_n54 : GoodIn wsX7_init (wsX2_init) := ggX7_init_X2_init
set_option maxRecDepth 20000 in
theorem ggX7_init_X0_init : GoodIn wsX7_init wsX0_init := goodIn_r _ [109, 110, 2, 3, 42, 111, 112, 113, 165, 166, 167] (by decide +kernel) (by decide +kernel)
set_option maxRecDepth 20000 in
theorem gX7_init_X0_init_n61 : GoodIn wsX7_init (wsX0_init) := ggX7_init_X0_init
theorem dX7_init_0 : decode cX7_init 0 = .ok (.aload_n 0, 1) := by decide +kernel
theorem dX7_init_1 : decode cX7_init 1 = .ok (.invokespecial 1, 3) := by decide +kernel
theorem dX7_init_4 : decode cX7_init 4 = .ok (.aload_n 0, 1) := by decide +kernel
theorem dX7_init_5 : decode cX7_init 5 = .ok (.iconst 4, 1) := by decide +kernel
theorem dX7_init_6 : decode cX7_init 6 = .ok (.anewarray 9, 3) := by decide +kernel
theorem dX7_init_9 : decode cX7_init 9 = .ok (.putfield 11, 3) := by decide +kernel
theorem dX7_init_12 : decode cX7_init 12 = .ok (.aload_n 0, 1) := by decide +kernel
theorem dX7_init_13 : decode cX7_init 13 = .ok (.iconst 0, 1) := by decide +kernel
theorem dX7_init_14 : decode cX7_init 14 = .ok (.putfield 15, 3) := by decide +kernel
theorem dX7_init_17 : decode cX7_init 17 = .ok (.aload_n 0, 1) := by decide +kernel
theorem dX7_init_18 : decode cX7_init 18 = .ok (.new 9, 3) := by decide +kernel
theorem dX7_init_21 : decode cX7_init 21 = .ok (.dup, 1) := by decide +kernel
theorem dX7_init_22 : decode cX7_init 22 = .ok (.invokespecial 19, 3) := by decide +kernel
theorem dX7_init_25 : decode cX7_init 25 = .ok (.putfield 20, 3) := by decide +kernel
theorem dX7_init_28 : decode cX7_init 28 = .ok (.aload_n 0, 1) := by decide +kernel
theorem dX7_init_29 : decode cX7_init 29 = .ok (.new 24, 3) := by decide +kernel
theorem dX7_init_32 : decode cX7_init 32 = .ok (.dup, 1) := by decide +kernel
theorem dX7_init_33 : decode cX7_init 33 = .ok (.invokespecial 26, 3) := by decide +kernel
theorem dX7_init_36 : decode cX7_init 36 = .ok (.putfield 27, 3) := by decide +kernel
theorem dX7_init_39 : decode cX7_init 39 = .ok (.aload_n 0, 1) := by decide +kernel
theorem dX7_init_40 : decode cX7_init 40 = .ok (.new 31, 3) := by decide +kernel
theorem dX7_init_43 : decode cX7_init 43 = .ok (.dup, 1) := by decide +kernel
theorem dX7_init_44 : decode cX7_init 44 = .ok (.invokespecial 33, 3) := by decide +kernel
theorem dX7_init_47 : decode cX7_init 47 = .ok (.putfield 34, 3) := by decide +kernel
theorem dX7_init_50 : decode cX7_init 50 = .ok (.aload_n 0, 1) := by decide +kernel
theorem dX7_init_51 : decode cX7_init 51 = .ok (.new 38, 3) := by decide +kernel
theorem dX7_init_54 : decode cX7_init 54 = .ok (.dup, 1) := by decide +kernel
theorem dX7_init_55 : decode cX7_init 55 = .ok (.invokespecial 40, 3) := by decide +kernel
theorem dX7_init_58 : decode cX7_init 58 = .ok (.putfield 41, 3) := by decide +kernel
theorem dX7_init_61 : decode cX7_init 61 = .ok (.aload_n 0, 1) := by decide +kernel
theorem dX7_init_62 : decode cX7_init 62 = .ok (.new 45, 3) := by decide +kernel
theorem dX7_init_65 : decode cX7_init 65 = .ok (.dup, 1) := by decide +kernel
theorem dX7_init_66 : decode cX7_init 66 = .ok (.invokespecial 47, 3) := by decide +kernel
theorem dX7_init_69 : decode cX7_init 69 = .ok (.putfield 48, 3) := by decide +kernel
theorem dX7_init_72 : decode cX7_init 72 = .ok (.aload_n 0, 1) := by decide +kernel
theorem dX7_init_73 : decode cX7_init 73 = .ok (.new 52, 3) := by decide +kernel
theorem dX7_init_76 : decode cX7_init 76 = .ok (.dup, 1) := by decide +kernel
theorem dX7_init_77 : decode cX7_init 77 = .ok (.invokespecial 54, 3) := by decide +kernel
theorem dX7_init_80 : decode cX7_init 80 = .ok (.putfield 55, 3) := by decide +kernel
theorem dX7_init_83 : decode cX7_init 83 = .ok (.aload_n 0, 1) := by decide +kernel
theorem dX7_init_84 : decode cX7_init 84 = .ok (.new 59, 3) := by decide +kernel
theorem dX7_init_87 : decode cX7_init 87 = .ok (.dup, 1) := by decide +kernel
theorem dX7_init_88 : decode cX7_init 88 = .ok (.invokespecial 61, 3) := by decide +kernel
theorem dX7_init_91 : decode cX7_init 91 = .ok (.putfield 62, 3) := by decide +kernel
theorem dX7_init_94 : decode cX7_init 94 = .ok (.aload_n 0, 1) := by decide +kernel
theorem dX7_init_95 : decode cX7_init 95 = .ok (.iconst 0, 1) := by decide +kernel
theorem dX7_init_96 : decode cX7_init 96 = .ok (.putfield 66, 3) := by decide +kernel
theorem dX7_init_99 : decode cX7_init 99 = .ok (.aload_n 0, 1) := by decide +kernel
theorem dX7_init_100 : decode cX7_init 100 = .ok (.iconst 0, 1) := by decide +kernel
theorem dX7_init_101 : decode cX7_init 101 = .ok (.putfield 69, 3) := by decide +kernel
theorem dX7_init_104 : decode cX7_init 104 = .ok (.aload_n 0, 1) := by decide +kernel
theorem dX7_init_105 : decode cX7_init 105 = .ok (.iconst 0, 1) := by decide +kernel
theorem dX7_init_106 : decode cX7_init 106 = .ok (.putfield 72, 3) := by decide +kernel
theorem dX7_init_109 : decode cX7_init 109 = .ok (.aload_n 0, 1) := by decide +kernel
theorem dX7_init_110 : decode cX7_init 110 = .ok (.lconst 0, 1) := by decide +kernel
theorem dX7_init_111 : decode cX7_init 111 = .ok (.putfield 75, 3) := by decide +kernel
theorem dX7_init_114 : decode cX7_init 114 = .ok (.iconst 0, 1) := by decide +kernel
theorem dX7_init_115 : decode cX7_init 115 = .ok (.istore_n 1, 1) := by decide +kernel
theorem dX7_init_116 : decode cX7_init 116 = .ok (.iload_n 1, 1) := by decide +kernel
theorem dX7_init_117 : decode cX7_init 117 = .ok (.iconst 4, 1) := by decide +kernel
theorem dX7_init_118 : decode cX7_init 118 = .ok (.if_icmp .ge 22, 3) := by decide +kernel
theorem dX7_init_121 : decode cX7_init 121 = .ok (.aload_n 0, 1) := by decide +kernel
theorem dX7_init_122 : decode cX7_init 122 = .ok (.getfield 11, 3) := by decide +kernel
theorem dX7_init_125 : decode cX7_init 125 = .ok (.iload_n 1, 1) := by decide +kernel
theorem dX7_init_126 : decode cX7_init 126 = .ok (.new 9, 3) := by decide +kernel
theorem dX7_init_129 : decode cX7_init 129 = .ok (.dup, 1) := by decide +kernel
theorem dX7_init_130 : decode cX7_init 130 = .ok (.invokespecial 19, 3) := by decide +kernel
theorem dX7_init_133 : decode cX7_init 133 = .ok (.aastore, 1) := by decide +kernel
theorem dX7_init_134 : decode cX7_init 134 = .ok (.iinc 1 1, 3) := by decide +kernel
theorem dX7_init_137 : decode cX7_init 137 = .ok (.goto (-21), 3) := by decide +kernel
theorem dX7_init_140 : decode cX7_init 140 = .ok (.return_, 1) := by decide +kernel
set_option maxRecDepth 20000 in
theorem ggX7_ram_X7_canBe : GoodIn wsX7_ram wsX7_canBe := goodIn_r _ [6, 7, 8, 9, 10, 5, 11] (by decide +kernel) (by decide +kernel)
set_option maxRecDepth 20000 in
theorem gX7_ram_X7_canBe : GoodIn wsX7_ram (va_wsS RX7 79 yX7_canBe wsX7_canBe) := goodIn_app (goodIn_of _ (by decide +kernel)) ggX7_ram_X7_canBe
set_option maxRecDepth 20000 in
theorem ggX7_ram_X1_put : GoodIn wsX7_ram wsX1_put := goodIn_r _ [16, 17, 18, 10, 5, 11, 32, 33, 34, 35, 36, 37] (by decide +kernel) (by decide +kernel)
set_option maxRecDepth 20000 in
theorem gX7_ram_X1_put : GoodIn wsX7_ram (wsV RX7 83 RX1 yX1_put wsX1_put) := goodIn_app (goodIn_of _ (by decide +kernel)) ggX7_ram_X1_put
theorem dX7_ram_0 : decode cX7_ram 0 = .ok (.iconst 0, 1) := by decide +kernel
theorem dX7_ram_1 : decode cX7_ram 1 = .ok (.iload_n 1, 1) := by decide +kernel
theorem dX7_ram_2 : decode cX7_ram 2 = .ok (.invokestatic 79, 3) := by decide +kernel
theorem dX7_ram_5 : decode cX7_ram 5 = .ok (.ifCond .eq 32, 3) := by decide +kernel
theorem dX7_ram_8 : decode cX7_ram 8 = .ok (.iconst 1, 1) := by decide +kernel
theorem dX7_ram_9 : decode cX7_ram 9 = .ok (.iload_n 2, 1) := by decide +kernel
theorem dX7_ram_10 : decode cX7_ram 10 = .ok (.invokestatic 79, 3) := by decide +kernel
theorem dX7_ram_13 : decode cX7_ram 13 = .ok (.ifCond .eq 24, 3) := by decide +kernel
theorem dX7_ram_16 : decode cX7_ram 16 = .ok (.iconst 2, 1) := by decide +kernel
theorem dX7_ram_17 : decode cX7_ram 17 = .ok (.iload_n 3, 1) := by decide +kernel
theorem dX7_ram_18 : decode cX7_ram 18 = .ok (.invokestatic 79, 3) := by decide +kernel
theorem dX7_ram_21 : decode cX7_ram 21 = .ok (.ifCond .eq 16, 3) := by decide +kernel
theorem dX7_ram_24 : decode cX7_ram 24 = .ok (.iconst 3, 1) := by decide +kernel
theorem dX7_ram_25 : decode cX7_ram 25 = .ok (.iload 4, 2) := by decide +kernel
theorem dX7_ram_27 : decode cX7_ram 27 = .ok (.invokestatic 79, 3) := by decide +kernel
theorem dX7_ram_30 : decode cX7_ram 30 = .ok (.ifCond .eq 7, 3) := by decide +kernel
theorem dX7_ram_33 : decode cX7_ram 33 = .ok (.iconst 1, 1) := by decide +kernel
theorem dX7_ram_34 : decode cX7_ram 34 = .ok (.goto 4, 3) := by decide +kernel
theorem dX7_ram_37 : decode cX7_ram 37 = .ok (.iconst 0, 1) := by decide +kernel
theorem dX7_ram_38 : decode cX7_ram 38 = .ok (.istore 5, 2) := by decide +kernel
theorem dX7_ram_40 : decode cX7_ram 40 = .ok (.iload 5, 2) := by decide +kernel
theorem dX7_ram_42 : decode cX7_ram 42 = .ok (.ifCond .eq 8, 3) := by decide +kernel
theorem dX7_ram_45 : decode cX7_ram 45 = .ok (.iload_n 2, 1) := by decide +kernel
theorem dX7_ram_46 : decode cX7_ram 46 = .ok (.iload_n 1, 1) := by decide +kernel
theorem dX7_ram_47 : decode cX7_ram 47 = .ok (.if_icmp .gt 5, 3) := by decide +kernel
theorem dX7_ram_50 : decode cX7_ram 50 = .ok (.iconst (-1), 1) := by decide +kernel
theorem dX7_ram_51 : decode cX7_ram 51 = .ok (.ireturn, 1) := by decide +kernel
theorem dX7_ram_52 : decode cX7_ram 52 = .ok (.aload_n 0, 1) := by decide +kernel
theorem dX7_ram_53 : decode cX7_ram 53 = .ok (.getfield 15, 3) := by decide +kernel
theorem dX7_ram_56 : decode cX7_ram 56 = .ok (.iconst 4, 1) := by decide +kernel
theorem dX7_ram_57 : decode cX7_ram 57 = .ok (.if_icmp .lt 6, 3) := by decide +kernel
theorem dX7_ram_60 : decode cX7_ram 60 = .ok (.bipush (-3), 2) := by decide +kernel
theorem dX7_ram_62 : decode cX7_ram 62 = .ok (.ireturn, 1) := by decide +kernel
theorem dX7_ram_63 : decode cX7_ram 63 = .ok (.aload_n 0, 1) := by decide +kernel
theorem dX7_ram_64 : decode cX7_ram 64 = .ok (.getfield 11, 3) := by decide +kernel
theorem dX7_ram_67 : decode cX7_ram 67 = .ok (.aload_n 0, 1) := by decide +kernel
theorem dX7_ram_68 : decode cX7_ram 68 = .ok (.getfield 15, 3) := by decide +kernel
theorem dX7_ram_71 : decode cX7_ram 71 = .ok (.aaload, 1) := by decide +kernel
theorem dX7_ram_72 : decode cX7_ram 72 = .ok (.astore 6, 2) := by decide +kernel
theorem dX7_ram_74 : decode cX7_ram 74 = .ok (.aload 6, 2) := by decide +kernel
theorem dX7_ram_76 : decode cX7_ram 76 = .ok (.iconst 0, 1) := by decide +kernel
theorem dX7_ram_77 : decode cX7_ram 77 = .ok (.iload_n 1, 1) := by decide +kernel
theorem dX7_ram_78 : decode cX7_ram 78 = .ok (.invokevirtual 83, 3) := by decide +kernel
theorem dX7_ram_81 : decode cX7_ram 81 = .ok (.aload 6, 2) := by decide +kernel
theorem dX7_ram_83 : decode cX7_ram 83 = .ok (.iconst 1, 1) := by decide +kernel
theorem dX7_ram_84 : decode cX7_ram 84 = .ok (.iload_n 2, 1) := by decide +kernel
theorem dX7_ram_85 : decode cX7_ram 85 = .ok (.invokevirtual 83, 3) := by decide +kernel
theorem dX7_ram_88 : decode cX7_ram 88 = .ok (.aload 6, 2) := by decide +kernel
theorem dX7_ram_90 : decode cX7_ram 90 = .ok (.iconst 2, 1) := by decide +kernel
theorem dX7_ram_91 : decode cX7_ram 91 = .ok (.iload_n 3, 1) := by decide +kernel
theorem dX7_ram_92 : decode cX7_ram 92 = .ok (.invokevirtual 83, 3) := by decide +kernel
theorem dX7_ram_95 : decode cX7_ram 95 = .ok (.aload 6, 2) := by decide +kernel
theorem dX7_ram_97 : decode cX7_ram 97 = .ok (.iconst 3, 1) := by decide +kernel
theorem dX7_ram_98 : decode cX7_ram 98 = .ok (.iload 4, 2) := by decide +kernel
theorem dX7_ram_100 : decode cX7_ram 100 = .ok (.invokevirtual 83, 3) := by decide +kernel
theorem dX7_ram_103 : decode cX7_ram 103 = .ok (.aload_n 0, 1) := by decide +kernel
theorem dX7_ram_104 : decode cX7_ram 104 = .ok (.dup, 1) := by decide +kernel
theorem dX7_ram_105 : decode cX7_ram 105 = .ok (.getfield 15, 3) := by decide +kernel
theorem dX7_ram_108 : decode cX7_ram 108 = .ok (.iconst 1, 1) := by decide +kernel
theorem dX7_ram_109 : decode cX7_ram 109 = .ok (.iadd, 1) := by decide +kernel
theorem dX7_ram_110 : decode cX7_ram 110 = .ok (.putfield 15, 3) := by decide +kernel
theorem dX7_ram_113 : decode cX7_ram 113 = .ok (.aload_n 0, 1) := by decide +kernel
theorem dX7_ram_114 : decode cX7_ram 114 = .ok (.getfield 15, 3) := by decide +kernel
theorem dX7_ram_117 : decode cX7_ram 117 = .ok (.iconst 1, 1) := by decide +kernel
theorem dX7_ram_118 : decode cX7_ram 118 = .ok (.isub, 1) := by decide +kernel
theorem dX7_ram_119 : decode cX7_ram 119 = .ok (.ireturn, 1) := by decide +kernel
set_option maxRecDepth 20000 in
theorem ggX7_set_X7_isRam : GoodIn wsX7_set wsX7_isRam := goodIn_r _ [6, 7, 8, 9, 5, 10, 27, 28, 29, 30, 31, 32, 33, 34, 35, 36, 37, 38, 39] (by decide +kernel) (by decide +kernel)
set_option maxRecDepth 20000 in
theorem gX7_set_X7_isRam : GoodIn wsX7_set (wsV RX7 87 RX7 yX7_isRam wsX7_isRam) := goodIn_app (goodIn_of _ (by decide +kernel)) ggX7_set_X7_isRam
set_option maxRecDepth 20000 in
theorem ggX7_set_X7_canBe : GoodIn wsX7_set wsX7_canBe := goodIn_r _ [13, 14, 15, 8, 9, 5, 10] (by decide +kernel) (by decide +kernel)
set_option maxRecDepth 20000 in
theorem gX7_set_X7_canBe : GoodIn wsX7_set (va_wsS RX7 79 yX7_canBe wsX7_canBe) := goodIn_app (goodIn_of _ (by decide +kernel)) ggX7_set_X7_canBe
set_option maxRecDepth 20000 in
theorem ggX7_set_X1_trait : GoodIn wsX7_set wsX1_trait := goodIn_r _ [20, 21, 9, 5, 10, 40, 41, 42, 43, 44, 45] (by decide +kernel) (by decide +kernel)
set_option maxRecDepth 20000 in
theorem gX7_set_X1_trait : GoodIn wsX7_set (wsV RX7 91 RX1 yX1_trait wsX1_trait) := goodIn_app (goodIn_of _ (by decide +kernel)) ggX7_set_X1_trait
set_option maxRecDepth 20000 in
theorem ggX7_set_X1_put : GoodIn wsX7_set wsX1_put := goodIn_r _ [25, 21, 26, 9, 5, 10, 40, 41, 42, 43, 44, 45] (by decide +kernel) (by decide +kernel)
set_option maxRecDepth 20000 in
theorem gX7_set_X1_put : GoodIn wsX7_set (wsV RX7 83 RX1 yX1_put wsX1_put) := goodIn_app (goodIn_of _ (by decide +kernel)) ggX7_set_X1_put
theorem dX7_set_0 : decode cX7_set 0 = .ok (.aload_n 0, 1) := by decide +kernel
theorem dX7_set_1 : decode cX7_set 1 = .ok (.iload_n 1, 1) := by decide +kernel
theorem dX7_set_2 : decode cX7_set 2 = .ok (.invokevirtual 87, 3) := by decide +kernel
theorem dX7_set_5 : decode cX7_set 5 = .ok (.ifCond .eq 11, 3) := by decide +kernel
theorem dX7_set_8 : decode cX7_set 8 = .ok (.iload_n 2, 1) := by decide +kernel
theorem dX7_set_9 : decode cX7_set 9 = .ok (.iload_n 3, 1) := by decide +kernel
theorem dX7_set_10 : decode cX7_set 10 = .ok (.invokestatic 79, 3) := by decide +kernel
theorem dX7_set_13 : decode cX7_set 13 = .ok (.ifCond .ne 5, 3) := by decide +kernel
theorem dX7_set_16 : decode cX7_set 16 = .ok (.iconst (-1), 1) := by decide +kernel
theorem dX7_set_17 : decode cX7_set 17 = .ok (.ireturn, 1) := by decide +kernel
theorem dX7_set_18 : decode cX7_set 18 = .ok (.aload_n 0, 1) := by decide +kernel
theorem dX7_set_19 : decode cX7_set 19 = .ok (.getfield 11, 3) := by decide +kernel
theorem dX7_set_22 : decode cX7_set 22 = .ok (.iload_n 1, 1) := by decide +kernel
theorem dX7_set_23 : decode cX7_set 23 = .ok (.aaload, 1) := by decide +kernel
theorem dX7_set_24 : decode cX7_set 24 = .ok (.astore 4, 2) := by decide +kernel
theorem dX7_set_26 : decode cX7_set 26 = .ok (.iload_n 2, 1) := by decide +kernel
theorem dX7_set_27 : decode cX7_set 27 = .ok (.ifCond .ne 13, 3) := by decide +kernel
theorem dX7_set_30 : decode cX7_set 30 = .ok (.iload_n 3, 1) := by decide +kernel
theorem dX7_set_31 : decode cX7_set 31 = .ok (.aload 4, 2) := by decide +kernel
theorem dX7_set_33 : decode cX7_set 33 = .ok (.iconst 1, 1) := by decide +kernel
theorem dX7_set_34 : decode cX7_set 34 = .ok (.invokevirtual 91, 3) := by decide +kernel
theorem dX7_set_37 : decode cX7_set 37 = .ok (.if_icmp .ge 18, 3) := by decide +kernel
theorem dX7_set_40 : decode cX7_set 40 = .ok (.iload_n 2, 1) := by decide +kernel
theorem dX7_set_41 : decode cX7_set 41 = .ok (.iconst 1, 1) := by decide +kernel
theorem dX7_set_42 : decode cX7_set 42 = .ok (.if_icmp .ne 15, 3) := by decide +kernel
theorem dX7_set_45 : decode cX7_set 45 = .ok (.iload_n 3, 1) := by decide +kernel
theorem dX7_set_46 : decode cX7_set 46 = .ok (.aload 4, 2) := by decide +kernel
theorem dX7_set_48 : decode cX7_set 48 = .ok (.iconst 0, 1) := by decide +kernel
theorem dX7_set_49 : decode cX7_set 49 = .ok (.invokevirtual 91, 3) := by decide +kernel
theorem dX7_set_52 : decode cX7_set 52 = .ok (.if_icmp .gt 5, 3) := by decide +kernel
theorem dX7_set_55 : decode cX7_set 55 = .ok (.iconst (-1), 1) := by decide +kernel
theorem dX7_set_56 : decode cX7_set 56 = .ok (.ireturn, 1) := by decide +kernel
theorem dX7_set_57 : decode cX7_set 57 = .ok (.aload 4, 2) := by decide +kernel
theorem dX7_set_59 : decode cX7_set 59 = .ok (.iload_n 2, 1) := by decide +kernel
theorem dX7_set_60 : decode cX7_set 60 = .ok (.invokevirtual 91, 3) := by decide +kernel
theorem dX7_set_63 : decode cX7_set 63 = .ok (.istore 5, 2) := by decide +kernel
theorem dX7_set_65 : decode cX7_set 65 = .ok (.aload 4, 2) := by decide +kernel
theorem dX7_set_67 : decode cX7_set 67 = .ok (.iload_n 2, 1) := by decide +kernel
theorem dX7_set_68 : decode cX7_set 68 = .ok (.iload_n 3, 1) := by decide +kernel
theorem dX7_set_69 : decode cX7_set 69 = .ok (.invokevirtual 83, 3) := by decide +kernel
theorem dX7_set_72 : decode cX7_set 72 = .ok (.iload 5, 2) := by decide +kernel
theorem dX7_set_74 : decode cX7_set 74 = .ok (.ireturn, 1) := by decide +kernel
set_option maxRecDepth 20000 in
theorem ggX7_about_X7_isRam : GoodIn wsX7_about wsX7_isRam := goodIn_r _ [6, 7, 8, 9, 5, 10, 17, 18, 19, 20, 21, 22, 23, 24, 25, 26, 27, 28, 29] (by decide +kernel) (by decide +kernel)
set_option maxRecDepth 20000 in
theorem gX7_about_X7_isRam : GoodIn wsX7_about (wsV RX7 87 RX7 yX7_isRam wsX7_isRam) := goodIn_app (goodIn_of _ (by decide +kernel)) ggX7_about_X7_isRam
set_option maxRecDepth 20000 in
theorem ggX7_about_X7_within : GoodIn wsX7_about wsX7_within := goodIn_r _ [10] (by decide +kernel) (by decide +kernel)
set_option maxRecDepth 20000 in
theorem gX7_about_X7_within : GoodIn wsX7_about (va_wsS RX7 95 yX7_within wsX7_within) := goodIn_app (goodIn_of _ (by decide +kernel)) ggX7_about_X7_within
set_option maxRecDepth 20000 in
theorem ggX7_about_X1_trait : GoodIn wsX7_about wsX1_trait := goodIn_r _ [15, 16, 9, 5, 10, 30, 31, 32, 33, 34, 35] (by decide +kernel) (by decide +kernel)
set_option maxRecDepth 20000 in
theorem gX7_about_X1_trait : GoodIn wsX7_about (wsV RX7 91 RX1 yX1_trait wsX1_trait) := goodIn_app (goodIn_of _ (by decide +kernel)) ggX7_about_X1_trait
theorem dX7_about_0 : decode cX7_about 0 = .ok (.aload_n 0, 1) := by decide +kernel
theorem dX7_about_1 : decode cX7_about 1 = .ok (.iload_n 1, 1) := by decide +kernel
theorem dX7_about_2 : decode cX7_about 2 = .ok (.invokevirtual 87, 3) := by decide +kernel
theorem dX7_about_5 : decode cX7_about 5 = .ok (.ifCond .eq 13, 3) := by decide +kernel
theorem dX7_about_8 : decode cX7_about 8 = .ok (.iload_n 2, 1) := by decide +kernel
theorem dX7_about_9 : decode cX7_about 9 = .ok (.iconst 0, 1) := by decide +kernel
theorem dX7_about_10 : decode cX7_about 10 = .ok (.bipush 12, 2) := by decide +kernel
theorem dX7_about_12 : decode cX7_about 12 = .ok (.invokestatic 95, 3) := by decide +kernel
theorem dX7_about_15 : decode cX7_about 15 = .ok (.ifCond .ne 5, 3) := by decide +kernel
theorem dX7_about_18 : decode cX7_about 18 = .ok (.iconst (-1), 1) := by decide +kernel
theorem dX7_about_19 : decode cX7_about 19 = .ok (.ireturn, 1) := by decide +kernel
theorem dX7_about_20 : decode cX7_about 20 = .ok (.aload_n 0, 1) := by decide +kernel
theorem dX7_about_21 : decode cX7_about 21 = .ok (.getfield 11, 3) := by decide +kernel
theorem dX7_about_24 : decode cX7_about 24 = .ok (.iload_n 1, 1) := by decide +kernel
theorem dX7_about_25 : decode cX7_about 25 = .ok (.aaload, 1) := by decide +kernel
theorem dX7_about_26 : decode cX7_about 26 = .ok (.iload_n 2, 1) := by decide +kernel
theorem dX7_about_27 : decode cX7_about 27 = .ok (.invokevirtual 91, 3) := by decide +kernel
theorem dX7_about_30 : decode cX7_about 30 = .ok (.ireturn, 1) := by decide +kernel
set_option maxRecDepth 20000 in
theorem ggX7_work_X7_canBe : GoodIn wsX7_work wsX7_canBe := goodIn_r _ [7, 8, 9, 10, 11, 6, 12] (by decide +kernel) (by decide +kernel)
set_option maxRecDepth 20000 in
theorem gX7_work_X7_canBe : GoodIn wsX7_work (va_wsS RX7 79 yX7_canBe wsX7_canBe) := goodIn_app (goodIn_of _ (by decide +kernel)) ggX7_work_X7_canBe
set_option maxRecDepth 20000 in
theorem ggX7_work_X7_isRam : GoodIn wsX7_work wsX7_isRam := goodIn_r _ [16, 17, 10, 11, 6, 12, 28, 29, 30, 31, 32, 33, 34, 35, 36, 37, 38, 39, 40] (by decide +kernel) (by decide +kernel)
set_option maxRecDepth 20000 in
theorem gX7_work_X7_isRam : GoodIn wsX7_work (wsV RX7 87 RX7 yX7_isRam wsX7_isRam) := goodIn_app (goodIn_of _ (by decide +kernel)) ggX7_work_X7_isRam
set_option maxRecDepth 20000 in
theorem ggX7_work_X1_workBy : GoodIn wsX7_work wsX1_workBy := goodIn_r _ [22, 23, 24, 25, 26, 27, 41, 42, 43, 44, 45, 46] (by decide +kernel) (by decide +kernel)
set_option maxRecDepth 20000 in
theorem gX7_work_X1_workBy : GoodIn wsX7_work (wsV RX7 103 RX1 yX1_workBy wsX1_workBy) := goodIn_app (goodIn_of _ (by decide +kernel)) ggX7_work_X1_workBy
theorem dX7_work_0 : decode cX7_work 0 = .ok (.bipush 10, 2) := by decide +kernel
theorem dX7_work_2 : decode cX7_work 2 = .ok (.iload_n 1, 1) := by decide +kernel
theorem dX7_work_3 : decode cX7_work 3 = .ok (.invokestatic 79, 3) := by decide +kernel
theorem dX7_work_6 : decode cX7_work 6 = .ok (.ifCond .eq 11, 3) := by decide +kernel
theorem dX7_work_9 : decode cX7_work 9 = .ok (.aload_n 0, 1) := by decide +kernel
theorem dX7_work_10 : decode cX7_work 10 = .ok (.iload_n 2, 1) := by decide +kernel
theorem dX7_work_11 : decode cX7_work 11 = .ok (.invokevirtual 87, 3) := by decide +kernel
theorem dX7_work_14 : decode cX7_work 14 = .ok (.ifCond .ne 5, 3) := by decide +kernel
theorem dX7_work_17 : decode cX7_work 17 = .ok (.iconst (-1), 1) := by decide +kernel
theorem dX7_work_18 : decode cX7_work 18 = .ok (.ireturn, 1) := by decide +kernel
theorem dX7_work_19 : decode cX7_work 19 = .ok (.aload_n 0, 1) := by decide +kernel
theorem dX7_work_20 : decode cX7_work 20 = .ok (.dup, 1) := by decide +kernel
theorem dX7_work_21 : decode cX7_work 21 = .ok (.getfield 75, 3) := by decide +kernel
theorem dX7_work_24 : decode cX7_work 24 = .ok (.getstatic 99, 3) := by decide +kernel
theorem dX7_work_27 : decode cX7_work 27 = .ok (.iload_n 1, 1) := by decide +kernel
theorem dX7_work_28 : decode cX7_work 28 = .ok (.iaload, 1) := by decide +kernel
theorem dX7_work_29 : decode cX7_work 29 = .ok (.i2l, 1) := by decide +kernel
theorem dX7_work_30 : decode cX7_work 30 = .ok (.ladd, 1) := by decide +kernel
theorem dX7_work_31 : decode cX7_work 31 = .ok (.putfield 75, 3) := by decide +kernel
theorem dX7_work_34 : decode cX7_work 34 = .ok (.aload_n 0, 1) := by decide +kernel
theorem dX7_work_35 : decode cX7_work 35 = .ok (.getfield 11, 3) := by decide +kernel
theorem dX7_work_38 : decode cX7_work 38 = .ok (.iload_n 2, 1) := by decide +kernel
theorem dX7_work_39 : decode cX7_work 39 = .ok (.aaload, 1) := by decide +kernel
theorem dX7_work_40 : decode cX7_work 40 = .ok (.iload_n 1, 1) := by decide +kernel
theorem dX7_work_41 : decode cX7_work 41 = .ok (.invokevirtual 103, 3) := by decide +kernel
theorem dX7_work_44 : decode cX7_work 44 = .ok (.ireturn, 1) := by decide +kernel
set_option maxRecDepth 20000 in
theorem ggX7_beat_X7_isRam : GoodIn wsX7_beat wsX7_isRam := goodIn_r _ [6, 7, 8, 9, 5, 10, 60, 61, 62, 63, 64, 65, 66, 67, 68, 69, 70, 71, 72] (by decide +kernel) (by decide +kernel)
set_option maxRecDepth 20000 in
theorem gX7_beat_X7_isRam : GoodIn wsX7_beat (wsV RX7 87 RX7 yX7_isRam wsX7_isRam) := goodIn_app (goodIn_of _ (by decide +kernel)) ggX7_beat_X7_isRam
set_option maxRecDepth 20000 in
theorem ggX7_beat_X7_within : GoodIn wsX7_beat wsX7_within := goodIn_r _ [10] (by decide +kernel) (by decide +kernel)
set_option maxRecDepth 20000 in
theorem gX7_beat_X7_within : GoodIn wsX7_beat (va_wsS RX7 95 yX7_within wsX7_within) := goodIn_app (goodIn_of _ (by decide +kernel)) ggX7_beat_X7_within
set_option maxRecDepth 20000 in
theorem ggX7_beat_X1_stalls : GoodIn wsX7_beat wsX1_stalls := goodIn_r _ [15, 16, 17, 18, 19, 14, 20, 21, 22, 23, 24, 25, 26, 27, 28, 73, 74, 75, 76, 77, 78] (by decide +kernel) (by decide +kernel)
set_option maxRecDepth 20000 in
theorem gX7_beat_X1_stalls : GoodIn wsX7_beat (wsV RX7 106 RX1 yX1_stalls wsX1_stalls) := goodIn_app (goodIn_of _ (by decide +kernel)) ggX7_beat_X1_stalls
set_option maxRecDepth 20000 in
theorem ggX7_beat_X1_shutTick : GoodIn wsX7_beat wsX1_shutTick := goodIn_r _ [32, 25, 17, 18, 19, 14, 20, 21, 16, 22, 23, 24, 26, 27, 28, 73, 74, 75, 76, 77, 78] (by decide +kernel) (by decide +kernel)
set_option maxRecDepth 20000 in
theorem gX7_beat_X1_shutTick : GoodIn wsX7_beat (wsV RX7 110 RX1 yX1_shutTick wsX1_shutTick) := goodIn_app (goodIn_of _ (by decide +kernel)) ggX7_beat_X1_shutTick
set_option maxRecDepth 20000 in
theorem ggX7_beat_X1_shutSpeed : GoodIn wsX7_beat wsX1_shutSpeed := goodIn_r _ [36, 22, 17, 18, 19, 14, 20, 21, 16, 23, 24, 25, 26, 27, 28, 73, 74, 75, 76, 77, 78] (by decide +kernel) (by decide +kernel)
set_option maxRecDepth 20000 in
theorem gX7_beat_X1_shutSpeed : GoodIn wsX7_beat (wsV RX7 114 RX1 yX1_shutSpeed wsX1_shutSpeed) := goodIn_app (goodIn_of _ (by decide +kernel)) ggX7_beat_X1_shutSpeed
set_option maxRecDepth 20000 in
theorem ggX7_beat_X1_wasteOfBeat : GoodIn wsX7_beat wsX1_wasteOfBeat := goodIn_r _ [40, 23, 17, 18, 19, 14, 20, 21, 16, 22, 24, 25, 26, 27, 28, 73, 74, 75, 76, 77, 78] (by decide +kernel) (by decide +kernel)
set_option maxRecDepth 20000 in
theorem gX7_beat_X1_wasteOfBeat : GoodIn wsX7_beat (wsV RX7 117 RX1 yX1_wasteOfBeat wsX1_wasteOfBeat) := goodIn_app (goodIn_of _ (by decide +kernel)) ggX7_beat_X1_wasteOfBeat
set_option maxRecDepth 20000 in
theorem ggX7_beat_X1_upOfBeat : GoodIn wsX7_beat wsX1_upOfBeat := goodIn_r _ [44, 16, 22, 24, 23, 45, 46, 47, 17, 18, 19, 14, 20, 21, 25, 26, 27, 28, 48, 49, 50, 51, 52, 53, 54, 55, 73, 74, 75, 76, 77, 78] (by decide +kernel) (by decide +kernel)
set_option maxRecDepth 20000 in
theorem gX7_beat_X1_upOfBeat : GoodIn wsX7_beat (wsV RX7 120 RX1 yX1_upOfBeat wsX1_upOfBeat) := goodIn_app (goodIn_of _ (by decide +kernel)) ggX7_beat_X1_upOfBeat
set_option maxRecDepth 20000 in
theorem ggX7_beat_X1_span : GoodIn wsX7_beat wsX1_span := goodIn_r _ [59, 25, 24, 17, 18, 19, 14, 20, 21, 16, 22, 23, 26, 27, 28, 73, 74, 75, 76, 77, 78] (by decide +kernel) (by decide +kernel)
set_option maxRecDepth 20000 in
theorem gX7_beat_X1_span : GoodIn wsX7_beat (wsV RX7 123 RX1 yX1_span wsX1_span) := goodIn_app (goodIn_of _ (by decide +kernel)) ggX7_beat_X1_span
theorem dX7_beat_0 : decode cX7_beat 0 = .ok (.aload_n 0, 1) := by decide +kernel
theorem dX7_beat_1 : decode cX7_beat 1 = .ok (.iload_n 1, 1) := by decide +kernel
theorem dX7_beat_2 : decode cX7_beat 2 = .ok (.invokevirtual 87, 3) := by decide +kernel
theorem dX7_beat_5 : decode cX7_beat 5 = .ok (.ifCond .eq 12, 3) := by decide +kernel
theorem dX7_beat_8 : decode cX7_beat 8 = .ok (.iload_n 2, 1) := by decide +kernel
theorem dX7_beat_9 : decode cX7_beat 9 = .ok (.iconst 0, 1) := by decide +kernel
theorem dX7_beat_10 : decode cX7_beat 10 = .ok (.iconst 4, 1) := by decide +kernel
theorem dX7_beat_11 : decode cX7_beat 11 = .ok (.invokestatic 95, 3) := by decide +kernel
theorem dX7_beat_14 : decode cX7_beat 14 = .ok (.ifCond .ne 5, 3) := by decide +kernel
theorem dX7_beat_17 : decode cX7_beat 17 = .ok (.iconst (-1), 1) := by decide +kernel
theorem dX7_beat_18 : decode cX7_beat 18 = .ok (.ireturn, 1) := by decide +kernel
theorem dX7_beat_19 : decode cX7_beat 19 = .ok (.aload_n 0, 1) := by decide +kernel
theorem dX7_beat_20 : decode cX7_beat 20 = .ok (.getfield 11, 3) := by decide +kernel
theorem dX7_beat_23 : decode cX7_beat 23 = .ok (.iload_n 1, 1) := by decide +kernel
theorem dX7_beat_24 : decode cX7_beat 24 = .ok (.aaload, 1) := by decide +kernel
theorem dX7_beat_25 : decode cX7_beat 25 = .ok (.astore_n 3, 1) := by decide +kernel
theorem dX7_beat_26 : decode cX7_beat 26 = .ok (.aload_n 3, 1) := by decide +kernel
theorem dX7_beat_27 : decode cX7_beat 27 = .ok (.invokevirtual 106, 3) := by decide +kernel
theorem dX7_beat_30 : decode cX7_beat 30 = .ok (.ifCond .eq 6, 3) := by decide +kernel
theorem dX7_beat_33 : decode cX7_beat 33 = .ok (.bipush (-9), 2) := by decide +kernel
theorem dX7_beat_35 : decode cX7_beat 35 = .ok (.ireturn, 1) := by decide +kernel
theorem dX7_beat_36 : decode cX7_beat 36 = .ok (.iload_n 2, 1) := by decide +kernel
theorem dX7_beat_37 : decode cX7_beat 37 = .ok (.tableswitch 51 0 3 #[31, 36, 41, 46], 31) := by decide +kernel
theorem dX7_beat_68 : decode cX7_beat 68 = .ok (.aload_n 3, 1) := by decide +kernel
theorem dX7_beat_69 : decode cX7_beat 69 = .ok (.invokevirtual 110, 3) := by decide +kernel
theorem dX7_beat_72 : decode cX7_beat 72 = .ok (.ireturn, 1) := by decide +kernel
theorem dX7_beat_73 : decode cX7_beat 73 = .ok (.aload_n 3, 1) := by decide +kernel
theorem dX7_beat_74 : decode cX7_beat 74 = .ok (.invokevirtual 114, 3) := by decide +kernel
theorem dX7_beat_77 : decode cX7_beat 77 = .ok (.ireturn, 1) := by decide +kernel
theorem dX7_beat_78 : decode cX7_beat 78 = .ok (.aload_n 3, 1) := by decide +kernel
theorem dX7_beat_79 : decode cX7_beat 79 = .ok (.invokevirtual 117, 3) := by decide +kernel
theorem dX7_beat_82 : decode cX7_beat 82 = .ok (.ireturn, 1) := by decide +kernel
theorem dX7_beat_83 : decode cX7_beat 83 = .ok (.aload_n 3, 1) := by decide +kernel
theorem dX7_beat_84 : decode cX7_beat 84 = .ok (.invokevirtual 120, 3) := by decide +kernel
theorem dX7_beat_87 : decode cX7_beat 87 = .ok (.ireturn, 1) := by decide +kernel
theorem dX7_beat_88 : decode cX7_beat 88 = .ok (.aload_n 3, 1) := by decide +kernel
theorem dX7_beat_89 : decode cX7_beat 89 = .ok (.invokevirtual 123, 3) := by decide +kernel
theorem dX7_beat_92 : decode cX7_beat 92 = .ok (.ireturn, 1) := by decide +kernel
set_option maxRecDepth 20000 in
theorem ggX7_hourly_X7_isRam : GoodIn wsX7_hourly wsX7_isRam := goodIn_r _ [6, 7, 8, 9, 5, 10, 68, 69, 70, 71, 72, 73, 74, 75, 76, 77, 78, 79, 80] (by decide +kernel) (by decide +kernel)
set_option maxRecDepth 20000 in
theorem gX7_hourly_X7_isRam : GoodIn wsX7_hourly (wsV RX7 87 RX7 yX7_isRam wsX7_isRam) := goodIn_app (goodIn_of _ (by decide +kernel)) ggX7_hourly_X7_isRam
set_option maxRecDepth 20000 in
theorem ggX7_hourly_X7_within : GoodIn wsX7_hourly wsX7_within := goodIn_r _ [10] (by decide +kernel) (by decide +kernel)
set_option maxRecDepth 20000 in
theorem gX7_hourly_X7_within : GoodIn wsX7_hourly (va_wsS RX7 95 yX7_within wsX7_within) := goodIn_app (goodIn_of _ (by decide +kernel)) ggX7_hourly_X7_within
set_option maxRecDepth 20000 in
theorem ggX7_hourly_X1_beatsAnHour : GoodIn wsX7_hourly wsX1_beatsAnHour := goodIn_r _ [15, 16, 17, 18, 19, 14, 20, 21, 22, 23, 24, 25, 26, 27, 28, 29, 30, 31, 32, 33, 34, 35, 36, 37, 81, 82, 83, 84, 85, 86] (by decide +kernel) (by decide +kernel)
set_option maxRecDepth 20000 in
theorem gX7_hourly_X1_beatsAnHour : GoodIn wsX7_hourly (wsV RX7 126 RX1 yX1_beatsAnHour wsX1_beatsAnHour) := goodIn_app (goodIn_of _ (by decide +kernel)) ggX7_hourly_X1_beatsAnHour
set_option maxRecDepth 20000 in
theorem ggX7_hourly_X1_wasteAnHour : GoodIn wsX7_hourly wsX1_wasteAnHour := goodIn_r _ [41, 29, 28, 17, 18, 19, 14, 20, 21, 22, 23, 24, 25, 26, 27, 30, 31, 32, 33, 42, 12, 13, 15, 16, 34, 35, 36, 37, 81, 82, 83, 84, 85, 86] (by decide +kernel) (by decide +kernel)
set_option maxRecDepth 20000 in
theorem gX7_hourly_X1_wasteAnHour : GoodIn wsX7_hourly (wsV RX7 129 RX1 yX1_wasteAnHour wsX1_wasteAnHour) := goodIn_app (goodIn_of _ (by decide +kernel)) ggX7_hourly_X1_wasteAnHour
set_option maxRecDepth 20000 in
theorem ggX7_hourly_X1_upAnHour : GoodIn wsX7_hourly wsX1_upAnHour := goodIn_r _ [46, 42, 12, 13, 14, 15, 16, 17, 18, 19, 20, 21, 22, 23, 24, 25, 26, 27, 28, 29, 30, 31, 32, 33, 34, 35, 36, 37, 47, 48, 49, 50, 51, 52, 53, 54, 55, 56, 57, 58, 59, 60, 61, 81, 82, 83, 84, 85, 86] (by decide +kernel) (by decide +kernel)
set_option maxRecDepth 20000 in
theorem gX7_hourly_X1_upAnHour : GoodIn wsX7_hourly (wsV RX7 132 RX1 yX1_upAnHour wsX1_upAnHour) := goodIn_app (goodIn_of _ (by decide +kernel)) ggX7_hourly_X1_upAnHour
set_option maxRecDepth 20000 in
theorem ggX7_hourly_X1_drawsAnHour : GoodIn wsX7_hourly wsX1_drawsAnHour := goodIn_r _ [65, 66, 39, 40, 14, 41, 29, 28, 17, 18, 19, 20, 21, 22, 23, 24, 25, 26, 27, 30, 31, 32, 33, 42, 12, 13, 15, 16, 34, 35, 36, 37, 67, 44, 45, 46, 47, 48, 49, 50, 51, 52, 53, 54, 55, 56, 57, 58, 59, 60, 61, 81, 82, 83, 84, 85, 86] (by decide +kernel) (by decide +kernel)
set_option maxRecDepth 20000 in
theorem gX7_hourly_X1_drawsAnHour : GoodIn wsX7_hourly (wsV RX7 135 RX1 yX1_drawsAnHour wsX1_drawsAnHour) := goodIn_app (goodIn_of _ (by decide +kernel)) ggX7_hourly_X1_drawsAnHour
theorem dX7_hourly_0 : decode cX7_hourly 0 = .ok (.aload_n 0, 1) := by decide +kernel
theorem dX7_hourly_1 : decode cX7_hourly 1 = .ok (.iload_n 1, 1) := by decide +kernel
theorem dX7_hourly_2 : decode cX7_hourly 2 = .ok (.invokevirtual 87, 3) := by decide +kernel
theorem dX7_hourly_5 : decode cX7_hourly 5 = .ok (.ifCond .eq 12, 3) := by decide +kernel
theorem dX7_hourly_8 : decode cX7_hourly 8 = .ok (.iload_n 2, 1) := by decide +kernel
theorem dX7_hourly_9 : decode cX7_hourly 9 = .ok (.iconst 0, 1) := by decide +kernel
theorem dX7_hourly_10 : decode cX7_hourly 10 = .ok (.iconst 3, 1) := by decide +kernel
theorem dX7_hourly_11 : decode cX7_hourly 11 = .ok (.invokestatic 95, 3) := by decide +kernel
theorem dX7_hourly_14 : decode cX7_hourly 14 = .ok (.ifCond .ne 5, 3) := by decide +kernel
theorem dX7_hourly_17 : decode cX7_hourly 17 = .ok (.iconst (-1), 1) := by decide +kernel
theorem dX7_hourly_18 : decode cX7_hourly 18 = .ok (.ireturn, 1) := by decide +kernel
theorem dX7_hourly_19 : decode cX7_hourly 19 = .ok (.aload_n 0, 1) := by decide +kernel
theorem dX7_hourly_20 : decode cX7_hourly 20 = .ok (.getfield 11, 3) := by decide +kernel
theorem dX7_hourly_23 : decode cX7_hourly 23 = .ok (.iload_n 1, 1) := by decide +kernel
theorem dX7_hourly_24 : decode cX7_hourly 24 = .ok (.aaload, 1) := by decide +kernel
theorem dX7_hourly_25 : decode cX7_hourly 25 = .ok (.astore_n 3, 1) := by decide +kernel
theorem dX7_hourly_26 : decode cX7_hourly 26 = .ok (.iload_n 2, 1) := by decide +kernel
theorem dX7_hourly_27 : decode cX7_hourly 27 = .ok (.tableswitch 40 0 2 #[25, 30, 35], 25) := by decide +kernel
theorem dX7_hourly_52 : decode cX7_hourly 52 = .ok (.aload_n 3, 1) := by decide +kernel
theorem dX7_hourly_53 : decode cX7_hourly 53 = .ok (.invokevirtual 126, 3) := by decide +kernel
theorem dX7_hourly_56 : decode cX7_hourly 56 = .ok (.ireturn, 1) := by decide +kernel
theorem dX7_hourly_57 : decode cX7_hourly 57 = .ok (.aload_n 3, 1) := by decide +kernel
theorem dX7_hourly_58 : decode cX7_hourly 58 = .ok (.invokevirtual 129, 3) := by decide +kernel
theorem dX7_hourly_61 : decode cX7_hourly 61 = .ok (.ireturn, 1) := by decide +kernel
theorem dX7_hourly_62 : decode cX7_hourly 62 = .ok (.aload_n 3, 1) := by decide +kernel
theorem dX7_hourly_63 : decode cX7_hourly 63 = .ok (.invokevirtual 132, 3) := by decide +kernel
theorem dX7_hourly_66 : decode cX7_hourly 66 = .ok (.ireturn, 1) := by decide +kernel
theorem dX7_hourly_67 : decode cX7_hourly 67 = .ok (.aload_n 3, 1) := by decide +kernel
theorem dX7_hourly_68 : decode cX7_hourly 68 = .ok (.invokevirtual 135, 3) := by decide +kernel
theorem dX7_hourly_71 : decode cX7_hourly 71 = .ok (.ireturn, 1) := by decide +kernel
set_option maxRecDepth 20000 in
theorem ggX7_spring_X7_isMonth : GoodIn wsX7_spring wsX7_isMonth := goodIn_r _ [7, 8, 9, 6, 10] (by decide +kernel) (by decide +kernel)
set_option maxRecDepth 20000 in
theorem gX7_spring_X7_isMonth : GoodIn wsX7_spring (va_wsS RX7 138 yX7_isMonth wsX7_isMonth) := goodIn_app (goodIn_of _ (by decide +kernel)) ggX7_spring_X7_isMonth
set_option maxRecDepth 20000 in
theorem ggX7_spring_X7_within : GoodIn wsX7_spring wsX7_within := goodIn_r _ [10] (by decide +kernel) (by decide +kernel)
set_option maxRecDepth 20000 in
theorem gX7_spring_X7_within : GoodIn wsX7_spring (va_wsS RX7 95 yX7_within wsX7_within) := goodIn_app (goodIn_of _ (by decide +kernel)) ggX7_spring_X7_within
theorem dX7_spring_0 : decode cX7_spring 0 = .ok (.iload_n 1, 1) := by decide +kernel
theorem dX7_spring_1 : decode cX7_spring 1 = .ok (.invokestatic 138, 3) := by decide +kernel
theorem dX7_spring_4 : decode cX7_spring 4 = .ok (.ifCond .eq 13, 3) := by decide +kernel
theorem dX7_spring_7 : decode cX7_spring 7 = .ok (.iload_n 2, 1) := by decide +kernel
theorem dX7_spring_8 : decode cX7_spring 8 = .ok (.iconst 0, 1) := by decide +kernel
theorem dX7_spring_9 : decode cX7_spring 9 = .ok (.ldc 141, 2) := by decide +kernel
theorem dX7_spring_11 : decode cX7_spring 11 = .ok (.invokestatic 95, 3) := by decide +kernel
theorem dX7_spring_14 : decode cX7_spring 14 = .ok (.ifCond .ne 5, 3) := by decide +kernel
theorem dX7_spring_17 : decode cX7_spring 17 = .ok (.iconst (-1), 1) := by decide +kernel
theorem dX7_spring_18 : decode cX7_spring 18 = .ok (.ireturn, 1) := by decide +kernel
theorem dX7_spring_19 : decode cX7_spring 19 = .ok (.aload_n 0, 1) := by decide +kernel
theorem dX7_spring_20 : decode cX7_spring 20 = .ok (.getfield 27, 3) := by decide +kernel
theorem dX7_spring_23 : decode cX7_spring 23 = .ok (.getfield 142, 3) := by decide +kernel
theorem dX7_spring_26 : decode cX7_spring 26 = .ok (.iload_n 1, 1) := by decide +kernel
theorem dX7_spring_27 : decode cX7_spring 27 = .ok (.iaload, 1) := by decide +kernel
theorem dX7_spring_28 : decode cX7_spring 28 = .ok (.istore_n 3, 1) := by decide +kernel
theorem dX7_spring_29 : decode cX7_spring 29 = .ok (.aload_n 0, 1) := by decide +kernel
theorem dX7_spring_30 : decode cX7_spring 30 = .ok (.getfield 27, 3) := by decide +kernel
theorem dX7_spring_33 : decode cX7_spring 33 = .ok (.getfield 142, 3) := by decide +kernel
theorem dX7_spring_36 : decode cX7_spring 36 = .ok (.iload_n 1, 1) := by decide +kernel
theorem dX7_spring_37 : decode cX7_spring 37 = .ok (.iload_n 2, 1) := by decide +kernel
theorem dX7_spring_38 : decode cX7_spring 38 = .ok (.iastore, 1) := by decide +kernel
theorem dX7_spring_39 : decode cX7_spring 39 = .ok (.iload_n 3, 1) := by decide +kernel
theorem dX7_spring_40 : decode cX7_spring 40 = .ok (.ireturn, 1) := by decide +kernel
set_option maxRecDepth 20000 in
theorem ggX7_tuned_X7_isRam : GoodIn wsX7_tuned wsX7_isRam := goodIn_r _ [10, 11, 12, 13, 9, 14, 84, 85, 86, 87, 88, 89, 90, 91, 92, 93, 94, 95, 96] (by decide +kernel) (by decide +kernel)
set_option maxRecDepth 20000 in
theorem gX7_tuned_X7_isRam : GoodIn wsX7_tuned (wsV RX7 87 RX7 yX7_isRam wsX7_isRam) := goodIn_app (goodIn_of _ (by decide +kernel)) ggX7_tuned_X7_isRam
set_option maxRecDepth 20000 in
theorem ggX7_tuned_X7_isMonth : GoodIn wsX7_tuned wsX7_isMonth := goodIn_r _ [17, 12, 13, 9, 14] (by decide +kernel) (by decide +kernel)
set_option maxRecDepth 20000 in
theorem gX7_tuned_X7_isMonth : GoodIn wsX7_tuned (va_wsS RX7 138 yX7_isMonth wsX7_isMonth) := goodIn_app (goodIn_of _ (by decide +kernel)) ggX7_tuned_X7_isMonth
set_option maxRecDepth 20000 in
theorem ggX7_tuned_X7_within : GoodIn wsX7_tuned wsX7_within := goodIn_r _ [14] (by decide +kernel) (by decide +kernel)
set_option maxRecDepth 20000 in
theorem gX7_tuned_X7_within : GoodIn wsX7_tuned (va_wsS RX7 95 yX7_within wsX7_within) := goodIn_app (goodIn_of _ (by decide +kernel)) ggX7_tuned_X7_within
set_option maxRecDepth 20000 in
theorem ggX7_tuned_X1_becomeLike : GoodIn wsX7_tuned wsX1_becomeLike := goodIn_r _ [22, 23, 24, 25, 26, 27, 28, 101, 102, 103, 104, 105, 106] (by decide +kernel) (by decide +kernel)
set_option maxRecDepth 20000 in
theorem gX7_tuned_X1_becomeLike : GoodIn wsX7_tuned (wsV RX7 145 RX1 yX1_becomeLike wsX1_becomeLike) := goodIn_app (goodIn_of _ (by decide +kernel)) ggX7_tuned_X1_becomeLike
set_option maxRecDepth 20000 in
theorem ggX7_tuned_X1_put : GoodIn wsX7_tuned wsX1_put := goodIn_r _ [32, 23, 28, 13, 9, 14, 101, 102, 103, 104, 105, 106] (by decide +kernel) (by decide +kernel)
set_option maxRecDepth 20000 in
theorem gX7_tuned_X1_put : GoodIn wsX7_tuned (wsV RX7 83 RX1 yX1_put wsX1_put) := goodIn_app (goodIn_of _ (by decide +kernel)) ggX7_tuned_X1_put
set_option maxRecDepth 20000 in
theorem ggX7_tuned_X1_stalls : GoodIn wsX7_tuned wsX1_stalls := goodIn_r _ [36, 37, 38, 39, 40, 21, 41, 28, 42, 43, 23, 44, 45, 46, 47, 101, 102, 103, 104, 105, 106] (by decide +kernel) (by decide +kernel)
set_option maxRecDepth 20000 in
theorem gX7_tuned_X1_stalls : GoodIn wsX7_tuned (wsV RX7 106 RX1 yX1_stalls wsX1_stalls) := goodIn_app (goodIn_of _ (by decide +kernel)) ggX7_tuned_X1_stalls
set_option maxRecDepth 20000 in
theorem ggX7_tuned_X1_upAnHour : GoodIn wsX7_tuned wsX1_upAnHour := goodIn_r _ [51, 52, 53, 54, 21, 55, 56, 57, 34, 35, 36, 37, 38, 39, 40, 41, 28, 42, 43, 23, 44, 45, 46, 47, 58, 59, 60, 61, 62, 63, 64, 65, 66, 67, 68, 69, 70, 71, 72, 73, 74, 75, 76, 101, 102, 103, 104, 105, 106] (by decide +kernel) (by decide +kernel)
set_option maxRecDepth 20000 in
theorem gX7_tuned_X1_upAnHour : GoodIn wsX7_tuned (wsV RX7 132 RX1 yX1_upAnHour wsX1_upAnHour) := goodIn_app (goodIn_of _ (by decide +kernel)) ggX7_tuned_X1_upAnHour
set_option maxRecDepth 20000 in
theorem ggX7_tuned_X1_wasteAnHour : GoodIn wsX7_tuned wsX1_wasteAnHour := goodIn_r _ [80, 23, 43, 57, 34, 35, 21, 36, 37, 38, 39, 40, 41, 28, 42, 44, 45, 46, 47, 52, 53, 54, 55, 56, 58, 59, 60, 61, 101, 102, 103, 104, 105, 106] (by decide +kernel) (by decide +kernel)
set_option maxRecDepth 20000 in
theorem gX7_tuned_X1_wasteAnHour : GoodIn wsX7_tuned (wsV RX7 129 RX1 yX1_wasteAnHour wsX1_wasteAnHour) := goodIn_app (goodIn_of _ (by decide +kernel)) ggX7_tuned_X1_wasteAnHour
set_option maxRecDepth 20000 in
theorem ggX7_tuned_X7_advantage : GoodIn wsX7_tuned wsX7_advantage := goodIn_r _ [83] (by decide +kernel) (by decide +kernel)
set_option maxRecDepth 20000 in
theorem gX7_tuned_X7_advantage : GoodIn wsX7_tuned (va_wsS RX7 152 yX7_advantage wsX7_advantage) := goodIn_app (goodIn_of _ (by decide +kernel)) ggX7_tuned_X7_advantage
theorem dX7_tuned_0 : decode cX7_tuned 0 = .ok (.aload_n 0, 1) := by decide +kernel
theorem dX7_tuned_1 : decode cX7_tuned 1 = .ok (.iload_n 1, 1) := by decide +kernel
theorem dX7_tuned_2 : decode cX7_tuned 2 = .ok (.invokevirtual 87, 3) := by decide +kernel
theorem dX7_tuned_5 : decode cX7_tuned 5 = .ok (.ifCond .eq 29, 3) := by decide +kernel
theorem dX7_tuned_8 : decode cX7_tuned 8 = .ok (.iload_n 2, 1) := by decide +kernel
theorem dX7_tuned_9 : decode cX7_tuned 9 = .ok (.invokestatic 138, 3) := by decide +kernel
theorem dX7_tuned_12 : decode cX7_tuned 12 = .ok (.ifCond .eq 22, 3) := by decide +kernel
theorem dX7_tuned_15 : decode cX7_tuned 15 = .ok (.iload_n 3, 1) := by decide +kernel
theorem dX7_tuned_16 : decode cX7_tuned 16 = .ok (.iconst 0, 1) := by decide +kernel
theorem dX7_tuned_17 : decode cX7_tuned 17 = .ok (.iconst 1, 1) := by decide +kernel
theorem dX7_tuned_18 : decode cX7_tuned 18 = .ok (.invokestatic 95, 3) := by decide +kernel
theorem dX7_tuned_21 : decode cX7_tuned 21 = .ok (.ifCond .eq 13, 3) := by decide +kernel
theorem dX7_tuned_24 : decode cX7_tuned 24 = .ok (.iload 4, 2) := by decide +kernel
theorem dX7_tuned_26 : decode cX7_tuned 26 = .ok (.iconst 0, 1) := by decide +kernel
theorem dX7_tuned_27 : decode cX7_tuned 27 = .ok (.iconst 2, 1) := by decide +kernel
theorem dX7_tuned_28 : decode cX7_tuned 28 = .ok (.invokestatic 95, 3) := by decide +kernel
theorem dX7_tuned_31 : decode cX7_tuned 31 = .ok (.ifCond .ne 5, 3) := by decide +kernel
theorem dX7_tuned_34 : decode cX7_tuned 34 = .ok (.iconst (-1), 1) := by decide +kernel
theorem dX7_tuned_35 : decode cX7_tuned 35 = .ok (.ireturn, 1) := by decide +kernel
theorem dX7_tuned_36 : decode cX7_tuned 36 = .ok (.aload_n 0, 1) := by decide +kernel
theorem dX7_tuned_37 : decode cX7_tuned 37 = .ok (.getfield 20, 3) := by decide +kernel
theorem dX7_tuned_40 : decode cX7_tuned 40 = .ok (.aload_n 0, 1) := by decide +kernel
theorem dX7_tuned_41 : decode cX7_tuned 41 = .ok (.getfield 11, 3) := by decide +kernel
theorem dX7_tuned_44 : decode cX7_tuned 44 = .ok (.iload_n 1, 1) := by decide +kernel
theorem dX7_tuned_45 : decode cX7_tuned 45 = .ok (.aaload, 1) := by decide +kernel
theorem dX7_tuned_46 : decode cX7_tuned 46 = .ok (.invokevirtual 145, 3) := by decide +kernel
theorem dX7_tuned_49 : decode cX7_tuned 49 = .ok (.bipush (-9), 2) := by decide +kernel
theorem dX7_tuned_51 : decode cX7_tuned 51 = .ok (.istore 5, 2) := by decide +kernel
theorem dX7_tuned_53 : decode cX7_tuned 53 = .ok (.bipush (-9), 2) := by decide +kernel
theorem dX7_tuned_55 : decode cX7_tuned 55 = .ok (.istore 6, 2) := by decide +kernel
theorem dX7_tuned_57 : decode cX7_tuned 57 = .ok (.bipush (-9), 2) := by decide +kernel
theorem dX7_tuned_59 : decode cX7_tuned 59 = .ok (.istore 7, 2) := by decide +kernel
theorem dX7_tuned_61 : decode cX7_tuned 61 = .ok (.iconst 0, 1) := by decide +kernel
theorem dX7_tuned_62 : decode cX7_tuned 62 = .ok (.istore 8, 2) := by decide +kernel
theorem dX7_tuned_64 : decode cX7_tuned 64 = .ok (.iconst 1, 1) := by decide +kernel
theorem dX7_tuned_65 : decode cX7_tuned 65 = .ok (.istore 9, 2) := by decide +kernel
theorem dX7_tuned_67 : decode cX7_tuned 67 = .ok (.iload 9, 2) := by decide +kernel
theorem dX7_tuned_69 : decode cX7_tuned 69 = .ok (.getstatic 149, 3) := by decide +kernel
theorem dX7_tuned_72 : decode cX7_tuned 72 = .ok (.iconst 5, 1) := by decide +kernel
theorem dX7_tuned_73 : decode cX7_tuned 73 = .ok (.iaload, 1) := by decide +kernel
theorem dX7_tuned_74 : decode cX7_tuned 74 = .ok (.if_icmp .gt 166, 3) := by decide +kernel
theorem dX7_tuned_77 : decode cX7_tuned 77 = .ok (.aload_n 0, 1) := by decide +kernel
theorem dX7_tuned_78 : decode cX7_tuned 78 = .ok (.getfield 20, 3) := by decide +kernel
theorem dX7_tuned_81 : decode cX7_tuned 81 = .ok (.iconst 5, 1) := by decide +kernel
theorem dX7_tuned_82 : decode cX7_tuned 82 = .ok (.iload 9, 2) := by decide +kernel
theorem dX7_tuned_84 : decode cX7_tuned 84 = .ok (.invokevirtual 83, 3) := by decide +kernel
theorem dX7_tuned_87 : decode cX7_tuned 87 = .ok (.iconst 5, 1) := by decide +kernel
theorem dX7_tuned_88 : decode cX7_tuned 88 = .ok (.istore 10, 2) := by decide +kernel
theorem dX7_tuned_90 : decode cX7_tuned 90 = .ok (.iload 10, 2) := by decide +kernel
theorem dX7_tuned_92 : decode cX7_tuned 92 = .ok (.getstatic 149, 3) := by decide +kernel
theorem dX7_tuned_95 : decode cX7_tuned 95 = .ok (.iconst 4, 1) := by decide +kernel
theorem dX7_tuned_96 : decode cX7_tuned 96 = .ok (.iaload, 1) := by decide +kernel
theorem dX7_tuned_97 : decode cX7_tuned 97 = .ok (.if_icmp .gt 137, 3) := by decide +kernel
theorem dX7_tuned_100 : decode cX7_tuned 100 = .ok (.aload_n 0, 1) := by decide +kernel
theorem dX7_tuned_101 : decode cX7_tuned 101 = .ok (.getfield 20, 3) := by decide +kernel
theorem dX7_tuned_104 : decode cX7_tuned 104 = .ok (.iconst 4, 1) := by decide +kernel
theorem dX7_tuned_105 : decode cX7_tuned 105 = .ok (.iload 10, 2) := by decide +kernel
theorem dX7_tuned_107 : decode cX7_tuned 107 = .ok (.invokevirtual 83, 3) := by decide +kernel
theorem dX7_tuned_110 : decode cX7_tuned 110 = .ok (.aload_n 0, 1) := by decide +kernel
theorem dX7_tuned_111 : decode cX7_tuned 111 = .ok (.getfield 20, 3) := by decide +kernel
theorem dX7_tuned_114 : decode cX7_tuned 114 = .ok (.invokevirtual 106, 3) := by decide +kernel
theorem dX7_tuned_117 : decode cX7_tuned 117 = .ok (.ifCond .eq 6, 3) := by decide +kernel
theorem dX7_tuned_120 : decode cX7_tuned 120 = .ok (.goto 114, 3) := by decide +kernel
theorem dX7_tuned_123 : decode cX7_tuned 123 = .ok (.aload_n 0, 1) := by decide +kernel
theorem dX7_tuned_124 : decode cX7_tuned 124 = .ok (.getfield 20, 3) := by decide +kernel
theorem dX7_tuned_127 : decode cX7_tuned 127 = .ok (.invokevirtual 132, 3) := by decide +kernel
theorem dX7_tuned_130 : decode cX7_tuned 130 = .ok (.istore 11, 2) := by decide +kernel
theorem dX7_tuned_132 : decode cX7_tuned 132 = .ok (.aload_n 0, 1) := by decide +kernel
theorem dX7_tuned_133 : decode cX7_tuned 133 = .ok (.getfield 20, 3) := by decide +kernel
theorem dX7_tuned_136 : decode cX7_tuned 136 = .ok (.invokevirtual 129, 3) := by decide +kernel
theorem dX7_tuned_139 : decode cX7_tuned 139 = .ok (.istore 12, 2) := by decide +kernel
theorem dX7_tuned_141 : decode cX7_tuned 141 = .ok (.iload 11, 2) := by decide +kernel
theorem dX7_tuned_143 : decode cX7_tuned 143 = .ok (.ifCond .le 85, 3) := by decide +kernel
theorem dX7_tuned_146 : decode cX7_tuned 146 = .ok (.iload 11, 2) := by decide +kernel
theorem dX7_tuned_148 : decode cX7_tuned 148 = .ok (.iload 12, 2) := by decide +kernel
theorem dX7_tuned_150 : decode cX7_tuned 150 = .ok (.iadd, 1) := by decide +kernel
theorem dX7_tuned_151 : decode cX7_tuned 151 = .ok (.aload_n 0, 1) := by decide +kernel
theorem dX7_tuned_152 : decode cX7_tuned 152 = .ok (.getfield 27, 3) := by decide +kernel
theorem dX7_tuned_155 : decode cX7_tuned 155 = .ok (.getfield 142, 3) := by decide +kernel
theorem dX7_tuned_158 : decode cX7_tuned 158 = .ok (.iload_n 2, 1) := by decide +kernel
theorem dX7_tuned_159 : decode cX7_tuned 159 = .ok (.iaload, 1) := by decide +kernel
theorem dX7_tuned_160 : decode cX7_tuned 160 = .ok (.if_icmp .le 6, 3) := by decide +kernel
theorem dX7_tuned_163 : decode cX7_tuned 163 = .ok (.goto 65, 3) := by decide +kernel
theorem dX7_tuned_166 : decode cX7_tuned 166 = .ok (.iload 7, 2) := by decide +kernel
theorem dX7_tuned_168 : decode cX7_tuned 168 = .ok (.bipush (-9), 2) := by decide +kernel
theorem dX7_tuned_170 : decode cX7_tuned 170 = .ok (.if_icmp .ne 7, 3) := by decide +kernel
theorem dX7_tuned_173 : decode cX7_tuned 173 = .ok (.lconst 1, 1) := by decide +kernel
theorem dX7_tuned_174 : decode cX7_tuned 174 = .ok (.goto 15, 3) := by decide +kernel
theorem dX7_tuned_177 : decode cX7_tuned 177 = .ok (.iload_n 3, 1) := by decide +kernel
theorem dX7_tuned_178 : decode cX7_tuned 178 = .ok (.iload 11, 2) := by decide +kernel
theorem dX7_tuned_180 : decode cX7_tuned 180 = .ok (.iload 12, 2) := by decide +kernel
theorem dX7_tuned_182 : decode cX7_tuned 182 = .ok (.iload 7, 2) := by decide +kernel
theorem dX7_tuned_184 : decode cX7_tuned 184 = .ok (.iload 8, 2) := by decide +kernel
theorem dX7_tuned_186 : decode cX7_tuned 186 = .ok (.invokestatic 152, 3) := by decide +kernel
theorem dX7_tuned_189 : decode cX7_tuned 189 = .ok (.lstore 13, 2) := by decide +kernel
theorem dX7_tuned_191 : decode cX7_tuned 191 = .ok (.lload 13, 2) := by decide +kernel
theorem dX7_tuned_193 : decode cX7_tuned 193 = .ok (.lconst 0, 1) := by decide +kernel
theorem dX7_tuned_194 : decode cX7_tuned 194 = .ok (.lcmp, 1) := by decide +kernel
theorem dX7_tuned_195 : decode cX7_tuned 195 = .ok (.ifCond .gt 17, 3) := by decide +kernel
theorem dX7_tuned_198 : decode cX7_tuned 198 = .ok (.lload 13, 2) := by decide +kernel
theorem dX7_tuned_200 : decode cX7_tuned 200 = .ok (.lconst 0, 1) := by decide +kernel
theorem dX7_tuned_201 : decode cX7_tuned 201 = .ok (.lcmp, 1) := by decide +kernel
theorem dX7_tuned_202 : decode cX7_tuned 202 = .ok (.ifCond .ne 26, 3) := by decide +kernel
theorem dX7_tuned_205 : decode cX7_tuned 205 = .ok (.iload 10, 2) := by decide +kernel
theorem dX7_tuned_207 : decode cX7_tuned 207 = .ok (.iload 5, 2) := by decide +kernel
theorem dX7_tuned_209 : decode cX7_tuned 209 = .ok (.if_icmp .ge 19, 3) := by decide +kernel
theorem dX7_tuned_212 : decode cX7_tuned 212 = .ok (.iload 10, 2) := by decide +kernel
theorem dX7_tuned_214 : decode cX7_tuned 214 = .ok (.istore 5, 2) := by decide +kernel
theorem dX7_tuned_216 : decode cX7_tuned 216 = .ok (.iload 9, 2) := by decide +kernel
theorem dX7_tuned_218 : decode cX7_tuned 218 = .ok (.istore 6, 2) := by decide +kernel
theorem dX7_tuned_220 : decode cX7_tuned 220 = .ok (.iload 11, 2) := by decide +kernel
theorem dX7_tuned_222 : decode cX7_tuned 222 = .ok (.istore 7, 2) := by decide +kernel
theorem dX7_tuned_224 : decode cX7_tuned 224 = .ok (.iload 12, 2) := by decide +kernel
theorem dX7_tuned_226 : decode cX7_tuned 226 = .ok (.istore 8, 2) := by decide +kernel
theorem dX7_tuned_228 : decode cX7_tuned 228 = .ok (.iinc 10 5, 3) := by decide +kernel
theorem dX7_tuned_231 : decode cX7_tuned 231 = .ok (.goto (-141), 3) := by decide +kernel
theorem dX7_tuned_234 : decode cX7_tuned 234 = .ok (.iinc 9 1, 3) := by decide +kernel
theorem dX7_tuned_237 : decode cX7_tuned 237 = .ok (.goto (-170), 3) := by decide +kernel
theorem dX7_tuned_240 : decode cX7_tuned 240 = .ok (.iload 4, 2) := by decide +kernel
theorem dX7_tuned_242 : decode cX7_tuned 242 = .ok (.ifCond .ne 8, 3) := by decide +kernel
theorem dX7_tuned_245 : decode cX7_tuned 245 = .ok (.iload 5, 2) := by decide +kernel
theorem dX7_tuned_247 : decode cX7_tuned 247 = .ok (.goto 16, 3) := by decide +kernel
theorem dX7_tuned_250 : decode cX7_tuned 250 = .ok (.iload 4, 2) := by decide +kernel
theorem dX7_tuned_252 : decode cX7_tuned 252 = .ok (.iconst 1, 1) := by decide +kernel
theorem dX7_tuned_253 : decode cX7_tuned 253 = .ok (.if_icmp .ne 8, 3) := by decide +kernel
theorem dX7_tuned_256 : decode cX7_tuned 256 = .ok (.iload 6, 2) := by decide +kernel
theorem dX7_tuned_258 : decode cX7_tuned 258 = .ok (.goto 5, 3) := by decide +kernel
theorem dX7_tuned_261 : decode cX7_tuned 261 = .ok (.iload 7, 2) := by decide +kernel
theorem dX7_tuned_263 : decode cX7_tuned 263 = .ok (.ireturn, 1) := by decide +kernel
set_option maxRecDepth 20000 in
theorem ggX7_tune_X7_canBe : GoodIn wsX7_tune wsX7_canBe := goodIn_r _ [5, 6, 7, 8, 9, 4, 10] (by decide +kernel) (by decide +kernel)
set_option maxRecDepth 20000 in
theorem gX7_tune_X7_canBe : GoodIn wsX7_tune (va_wsS RX7 79 yX7_canBe wsX7_canBe) := goodIn_app (goodIn_of _ (by decide +kernel)) ggX7_tune_X7_canBe
set_option maxRecDepth 20000 in
theorem ggX7_tune_X6_keep : GoodIn wsX7_tune wsX6_keep := goodIn_r _ [15, 16, 17, 18, 32, 33, 34, 35, 36, 37, 38] (by decide +kernel) (by decide +kernel)
set_option maxRecDepth 20000 in
theorem gX7_tune_X6_keep : GoodIn wsX7_tune (wsV RX7 156 RX6 yX6_keep wsX6_keep) := goodIn_app (goodIn_of _ (by decide +kernel)) ggX7_tune_X6_keep
theorem dX7_tune_0 : decode cX7_tune 0 = .ok (.iconst 4, 1) := by decide +kernel
theorem dX7_tune_1 : decode cX7_tune 1 = .ok (.iload_n 1, 1) := by decide +kernel
theorem dX7_tune_2 : decode cX7_tune 2 = .ok (.invokestatic 79, 3) := by decide +kernel
theorem dX7_tune_5 : decode cX7_tune 5 = .ok (.ifCond .eq 11, 3) := by decide +kernel
theorem dX7_tune_8 : decode cX7_tune 8 = .ok (.iconst 5, 1) := by decide +kernel
theorem dX7_tune_9 : decode cX7_tune 9 = .ok (.iload_n 2, 1) := by decide +kernel
theorem dX7_tune_10 : decode cX7_tune 10 = .ok (.invokestatic 79, 3) := by decide +kernel
theorem dX7_tune_13 : decode cX7_tune 13 = .ok (.ifCond .ne 5, 3) := by decide +kernel
theorem dX7_tune_16 : decode cX7_tune 16 = .ok (.iconst (-1), 1) := by decide +kernel
theorem dX7_tune_17 : decode cX7_tune 17 = .ok (.ireturn, 1) := by decide +kernel
theorem dX7_tune_18 : decode cX7_tune 18 = .ok (.aload_n 0, 1) := by decide +kernel
theorem dX7_tune_19 : decode cX7_tune 19 = .ok (.getfield 34, 3) := by decide +kernel
theorem dX7_tune_22 : decode cX7_tune 22 = .ok (.iload_n 1, 1) := by decide +kernel
theorem dX7_tune_23 : decode cX7_tune 23 = .ok (.iload_n 2, 1) := by decide +kernel
theorem dX7_tune_24 : decode cX7_tune 24 = .ok (.invokevirtual 156, 3) := by decide +kernel
theorem dX7_tune_27 : decode cX7_tune 27 = .ok (.ireturn, 1) := by decide +kernel
theorem dX7_forget_0 : decode cX7_forget 0 = .ok (.aload_n 0, 1) := by decide +kernel
theorem dX7_forget_1 : decode cX7_forget 1 = .ok (.getfield 34, 3) := by decide +kernel
theorem dX7_forget_4 : decode cX7_forget 4 = .ok (.getfield 160, 3) := by decide +kernel
theorem dX7_forget_7 : decode cX7_forget 7 = .ok (.istore_n 1, 1) := by decide +kernel
theorem dX7_forget_8 : decode cX7_forget 8 = .ok (.aload_n 0, 1) := by decide +kernel
theorem dX7_forget_9 : decode cX7_forget 9 = .ok (.getfield 34, 3) := by decide +kernel
theorem dX7_forget_12 : decode cX7_forget 12 = .ok (.iconst 0, 1) := by decide +kernel
theorem dX7_forget_13 : decode cX7_forget 13 = .ok (.putfield 160, 3) := by decide +kernel
theorem dX7_forget_16 : decode cX7_forget 16 = .ok (.iload_n 1, 1) := by decide +kernel
theorem dX7_forget_17 : decode cX7_forget 17 = .ok (.ireturn, 1) := by decide +kernel
set_option maxRecDepth 20000 in
theorem ggX7_side_X7_isMonth : GoodIn wsX7_side wsX7_isMonth := goodIn_r _ [12, 13, 14, 11, 15] (by decide +kernel) (by decide +kernel)
set_option maxRecDepth 20000 in
theorem gX7_side_X7_isMonth : GoodIn wsX7_side (va_wsS RX7 138 yX7_isMonth wsX7_isMonth) := goodIn_app (goodIn_of _ (by decide +kernel)) ggX7_side_X7_isMonth
set_option maxRecDepth 20000 in
theorem ggX7_side_X7_within : GoodIn wsX7_side wsX7_within := goodIn_r _ [15] (by decide +kernel) (by decide +kernel)
set_option maxRecDepth 20000 in
theorem gX7_side_X7_within : GoodIn wsX7_side (va_wsS RX7 95 yX7_within wsX7_within) := goodIn_app (goodIn_of _ (by decide +kernel)) ggX7_side_X7_within
set_option maxRecDepth 20000 in
theorem ggX7_side_X1_becomeLike : GoodIn wsX7_side wsX1_becomeLike := goodIn_r _ [20, 21, 22, 23, 24, 25, 26, 131, 132, 133, 134, 135, 136] (by decide +kernel) (by decide +kernel)
set_option maxRecDepth 20000 in
theorem gX7_side_X1_becomeLike : GoodIn wsX7_side (wsV RX7 145 RX1 yX1_becomeLike wsX1_becomeLike) := goodIn_app (goodIn_of _ (by decide +kernel)) ggX7_side_X1_becomeLike
set_option maxRecDepth 20000 in
theorem ggX7_side_X6_tryOn : GoodIn wsX7_side wsX6_tryOn := goodIn_r _ [31, 32, 33, 34, 35, 36, 37, 38, 39, 19, 40, 21, 26, 14, 11, 15, 41, 42, 43, 44, 45, 46, 47, 48, 49, 50, 51, 52, 53, 54, 55, 56, 57, 58, 59, 60, 61, 62, 63, 64, 65, 66, 67, 68, 69, 70, 71, 72, 73, 74, 75, 76, 77, 78, 79, 80, 81, 82, 83, 84, 85, 86, 87, 88, 89, 90, 91, 92, 93, 124, 125, 126, 127, 128, 129, 130, 131, 132, 133, 134, 135, 136] (by decide +kernel) (by decide +kernel)
set_option maxRecDepth 20000 in
theorem gX7_side_X6_tryOn : GoodIn wsX7_side (wsV RX7 163 RX6 yX6_tryOn wsX6_tryOn) := goodIn_app (goodIn_of _ (by decide +kernel)) ggX7_side_X6_tryOn
set_option maxRecDepth 20000 in
theorem ggX7_side_X6_pick : GoodIn wsX7_side wsX6_pick := goodIn_r _ [97, 98, 99, 100, 101, 30, 102, 103, 104, 105, 106, 32, 35, 36, 124, 125, 126, 127, 128, 129, 130] (by decide +kernel) (by decide +kernel)
set_option maxRecDepth 20000 in
theorem gX7_side_X6_pick : GoodIn wsX7_side (wsV RX7 167 RX6 yX6_pick wsX6_pick) := goodIn_app (goodIn_of _ (by decide +kernel)) ggX7_side_X6_pick
theorem dX7_side_0 : decode cX7_side 0 = .ok (.iload_n 1, 1) := by decide +kernel
theorem dX7_side_1 : decode cX7_side 1 = .ok (.invokestatic 138, 3) := by decide +kernel
theorem dX7_side_4 : decode cX7_side 4 = .ok (.ifCond .eq 12, 3) := by decide +kernel
theorem dX7_side_7 : decode cX7_side 7 = .ok (.iload_n 2, 1) := by decide +kernel
theorem dX7_side_8 : decode cX7_side 8 = .ok (.iconst 0, 1) := by decide +kernel
theorem dX7_side_9 : decode cX7_side 9 = .ok (.iconst 1, 1) := by decide +kernel
theorem dX7_side_10 : decode cX7_side 10 = .ok (.invokestatic 95, 3) := by decide +kernel
theorem dX7_side_13 : decode cX7_side 13 = .ok (.ifCond .ne 5, 3) := by decide +kernel
theorem dX7_side_16 : decode cX7_side 16 = .ok (.iconst (-1), 1) := by decide +kernel
theorem dX7_side_17 : decode cX7_side 17 = .ok (.ireturn, 1) := by decide +kernel
theorem dX7_side_18 : decode cX7_side 18 = .ok (.iconst 0, 1) := by decide +kernel
theorem dX7_side_19 : decode cX7_side 19 = .ok (.istore_n 3, 1) := by decide +kernel
theorem dX7_side_20 : decode cX7_side 20 = .ok (.iload_n 3, 1) := by decide +kernel
theorem dX7_side_21 : decode cX7_side 21 = .ok (.aload_n 0, 1) := by decide +kernel
theorem dX7_side_22 : decode cX7_side 22 = .ok (.getfield 15, 3) := by decide +kernel
theorem dX7_side_25 : decode cX7_side 25 = .ok (.if_icmp .ge 34, 3) := by decide +kernel
theorem dX7_side_28 : decode cX7_side 28 = .ok (.aload_n 0, 1) := by decide +kernel
theorem dX7_side_29 : decode cX7_side 29 = .ok (.getfield 20, 3) := by decide +kernel
theorem dX7_side_32 : decode cX7_side 32 = .ok (.aload_n 0, 1) := by decide +kernel
theorem dX7_side_33 : decode cX7_side 33 = .ok (.getfield 11, 3) := by decide +kernel
theorem dX7_side_36 : decode cX7_side 36 = .ok (.iload_n 3, 1) := by decide +kernel
theorem dX7_side_37 : decode cX7_side 37 = .ok (.aaload, 1) := by decide +kernel
theorem dX7_side_38 : decode cX7_side 38 = .ok (.invokevirtual 145, 3) := by decide +kernel
theorem dX7_side_41 : decode cX7_side 41 = .ok (.aload_n 0, 1) := by decide +kernel
theorem dX7_side_42 : decode cX7_side 42 = .ok (.getfield 34, 3) := by decide +kernel
theorem dX7_side_45 : decode cX7_side 45 = .ok (.iload_n 3, 1) := by decide +kernel
theorem dX7_side_46 : decode cX7_side 46 = .ok (.aload_n 0, 1) := by decide +kernel
theorem dX7_side_47 : decode cX7_side 47 = .ok (.getfield 20, 3) := by decide +kernel
theorem dX7_side_50 : decode cX7_side 50 = .ok (.invokevirtual 163, 3) := by decide +kernel
theorem dX7_side_53 : decode cX7_side 53 = .ok (.iinc 3 1, 3) := by decide +kernel
theorem dX7_side_56 : decode cX7_side 56 = .ok (.goto (-36), 3) := by decide +kernel
theorem dX7_side_59 : decode cX7_side 59 = .ok (.aload_n 0, 1) := by decide +kernel
theorem dX7_side_60 : decode cX7_side 60 = .ok (.getfield 34, 3) := by decide +kernel
theorem dX7_side_63 : decode cX7_side 63 = .ok (.aload_n 0, 1) := by decide +kernel
theorem dX7_side_64 : decode cX7_side 64 = .ok (.getfield 15, 3) := by decide +kernel
theorem dX7_side_67 : decode cX7_side 67 = .ok (.aload_n 0, 1) := by decide +kernel
theorem dX7_side_68 : decode cX7_side 68 = .ok (.getfield 27, 3) := by decide +kernel
theorem dX7_side_71 : decode cX7_side 71 = .ok (.getfield 142, 3) := by decide +kernel
theorem dX7_side_74 : decode cX7_side 74 = .ok (.iload_n 1, 1) := by decide +kernel
theorem dX7_side_75 : decode cX7_side 75 = .ok (.iaload, 1) := by decide +kernel
theorem dX7_side_76 : decode cX7_side 76 = .ok (.invokevirtual 167, 3) := by decide +kernel
theorem dX7_side_79 : decode cX7_side 79 = .ok (.iload_n 2, 1) := by decide +kernel
theorem dX7_side_80 : decode cX7_side 80 = .ok (.ifCond .ne 13, 3) := by decide +kernel
theorem dX7_side_83 : decode cX7_side 83 = .ok (.aload_n 0, 1) := by decide +kernel
theorem dX7_side_84 : decode cX7_side 84 = .ok (.getfield 34, 3) := by decide +kernel
theorem dX7_side_87 : decode cX7_side 87 = .ok (.getfield 170, 3) := by decide +kernel
theorem dX7_side_90 : decode cX7_side 90 = .ok (.goto 10, 3) := by decide +kernel
theorem dX7_side_93 : decode cX7_side 93 = .ok (.aload_n 0, 1) := by decide +kernel
theorem dX7_side_94 : decode cX7_side 94 = .ok (.getfield 34, 3) := by decide +kernel
theorem dX7_side_97 : decode cX7_side 97 = .ok (.getfield 173, 3) := by decide +kernel
theorem dX7_side_100 : decode cX7_side 100 = .ok (.ireturn, 1) := by decide +kernel
set_option maxRecDepth 20000 in
theorem ggX7_take_X6_tellsAll : GoodIn wsX7_take wsX6_tellsAll := goodIn_r _ [8, 9, 10, 11, 7, 12, 13, 14, 15, 42, 43, 44, 45, 46, 47, 48] (by decide +kernel) (by decide +kernel)
set_option maxRecDepth 20000 in
theorem gX7_take_X6_tellsAll : GoodIn wsX7_take (wsV RX7 176 RX6 yX6_tellsAll wsX6_tellsAll) := goodIn_app (goodIn_of _ (by decide +kernel)) ggX7_take_X6_tellsAll
set_option maxRecDepth 20000 in
theorem ggX7_take_X6_giveTo : GoodIn wsX7_take wsX6_giveTo := goodIn_r _ [19, 9, 20, 21, 13, 14, 15, 22, 23, 24, 25, 26, 27, 28, 42, 43, 44, 45, 46, 47, 48, 49, 50, 51, 52, 53, 54] (by decide +kernel) (by decide +kernel)
set_option maxRecDepth 20000 in
theorem gX7_take_X6_giveTo : GoodIn wsX7_take (wsV RX7 179 RX6 yX6_giveTo wsX6_giveTo) := goodIn_app (goodIn_of _ (by decide +kernel)) ggX7_take_X6_giveTo
theorem dX7_take_0 : decode cX7_take 0 = .ok (.aload_n 0, 1) := by decide +kernel
theorem dX7_take_1 : decode cX7_take 1 = .ok (.getfield 34, 3) := by decide +kernel
theorem dX7_take_4 : decode cX7_take 4 = .ok (.iload_n 1, 1) := by decide +kernel
theorem dX7_take_5 : decode cX7_take 5 = .ok (.aload_n 0, 1) := by decide +kernel
theorem dX7_take_6 : decode cX7_take 6 = .ok (.getfield 15, 3) := by decide +kernel
theorem dX7_take_9 : decode cX7_take 9 = .ok (.invokevirtual 176, 3) := by decide +kernel
theorem dX7_take_12 : decode cX7_take 12 = .ok (.ifCond .ne 5, 3) := by decide +kernel
theorem dX7_take_15 : decode cX7_take 15 = .ok (.iconst (-1), 1) := by decide +kernel
theorem dX7_take_16 : decode cX7_take 16 = .ok (.ireturn, 1) := by decide +kernel
theorem dX7_take_17 : decode cX7_take 17 = .ok (.iload_n 1, 1) := by decide +kernel
theorem dX7_take_18 : decode cX7_take 18 = .ok (.istore_n 2, 1) := by decide +kernel
theorem dX7_take_19 : decode cX7_take 19 = .ok (.iconst 0, 1) := by decide +kernel
theorem dX7_take_20 : decode cX7_take 20 = .ok (.istore_n 3, 1) := by decide +kernel
theorem dX7_take_21 : decode cX7_take 21 = .ok (.iload_n 3, 1) := by decide +kernel
theorem dX7_take_22 : decode cX7_take 22 = .ok (.aload_n 0, 1) := by decide +kernel
theorem dX7_take_23 : decode cX7_take 23 = .ok (.getfield 15, 3) := by decide +kernel
theorem dX7_take_26 : decode cX7_take 26 = .ok (.if_icmp .ge 31, 3) := by decide +kernel
theorem dX7_take_29 : decode cX7_take 29 = .ok (.aload_n 0, 1) := by decide +kernel
theorem dX7_take_30 : decode cX7_take 30 = .ok (.getfield 34, 3) := by decide +kernel
theorem dX7_take_33 : decode cX7_take 33 = .ok (.aload_n 0, 1) := by decide +kernel
theorem dX7_take_34 : decode cX7_take 34 = .ok (.getfield 11, 3) := by decide +kernel
theorem dX7_take_37 : decode cX7_take 37 = .ok (.iload_n 3, 1) := by decide +kernel
theorem dX7_take_38 : decode cX7_take 38 = .ok (.aaload, 1) := by decide +kernel
theorem dX7_take_39 : decode cX7_take 39 = .ok (.iload_n 2, 1) := by decide +kernel
theorem dX7_take_40 : decode cX7_take 40 = .ok (.bipush 7, 2) := by decide +kernel
theorem dX7_take_42 : decode cX7_take 42 = .ok (.irem, 1) := by decide +kernel
theorem dX7_take_43 : decode cX7_take 43 = .ok (.invokevirtual 179, 3) := by decide +kernel
theorem dX7_take_46 : decode cX7_take 46 = .ok (.iload_n 2, 1) := by decide +kernel
theorem dX7_take_47 : decode cX7_take 47 = .ok (.bipush 7, 2) := by decide +kernel
theorem dX7_take_49 : decode cX7_take 49 = .ok (.idiv, 1) := by decide +kernel
theorem dX7_take_50 : decode cX7_take 50 = .ok (.istore_n 2, 1) := by decide +kernel
theorem dX7_take_51 : decode cX7_take 51 = .ok (.iinc 3 1, 3) := by decide +kernel
theorem dX7_take_54 : decode cX7_take 54 = .ok (.goto (-33), 3) := by decide +kernel
theorem dX7_take_57 : decode cX7_take 57 = .ok (.iconst 1, 1) := by decide +kernel
theorem dX7_take_58 : decode cX7_take 58 = .ok (.ireturn, 1) := by decide +kernel
set_option maxRecDepth 20000 in
theorem ggX7_frost_X7_isMonth : GoodIn wsX7_frost wsX7_isMonth := goodIn_r _ [6, 7, 8, 5, 9] (by decide +kernel) (by decide +kernel)
set_option maxRecDepth 20000 in
theorem gX7_frost_X7_isMonth : GoodIn wsX7_frost (va_wsS RX7 138 yX7_isMonth wsX7_isMonth) := goodIn_app (goodIn_of _ (by decide +kernel)) ggX7_frost_X7_isMonth
set_option maxRecDepth 20000 in
theorem ggX7_frost_X7_within : GoodIn wsX7_frost wsX7_within := goodIn_r _ [9] (by decide +kernel) (by decide +kernel)
set_option maxRecDepth 20000 in
theorem gX7_frost_X7_within : GoodIn wsX7_frost (va_wsS RX7 95 yX7_within wsX7_within) := goodIn_app (goodIn_of _ (by decide +kernel)) ggX7_frost_X7_within
theorem dX7_frost_0 : decode cX7_frost 0 = .ok (.iload_n 1, 1) := by decide +kernel
theorem dX7_frost_1 : decode cX7_frost 1 = .ok (.invokestatic 138, 3) := by decide +kernel
theorem dX7_frost_4 : decode cX7_frost 4 = .ok (.ifCond .eq 13, 3) := by decide +kernel
theorem dX7_frost_7 : decode cX7_frost 7 = .ok (.iload_n 2, 1) := by decide +kernel
theorem dX7_frost_8 : decode cX7_frost 8 = .ok (.iconst 0, 1) := by decide +kernel
theorem dX7_frost_9 : decode cX7_frost 9 = .ok (.bipush 23, 2) := by decide +kernel
theorem dX7_frost_11 : decode cX7_frost 11 = .ok (.invokestatic 95, 3) := by decide +kernel
theorem dX7_frost_14 : decode cX7_frost 14 = .ok (.ifCond .ne 5, 3) := by decide +kernel
theorem dX7_frost_17 : decode cX7_frost 17 = .ok (.iconst (-1), 1) := by decide +kernel
theorem dX7_frost_18 : decode cX7_frost 18 = .ok (.ireturn, 1) := by decide +kernel
theorem dX7_frost_19 : decode cX7_frost 19 = .ok (.aload_n 0, 1) := by decide +kernel
theorem dX7_frost_20 : decode cX7_frost 20 = .ok (.getfield 27, 3) := by decide +kernel
theorem dX7_frost_23 : decode cX7_frost 23 = .ok (.getfield 183, 3) := by decide +kernel
theorem dX7_frost_26 : decode cX7_frost 26 = .ok (.iload_n 1, 1) := by decide +kernel
theorem dX7_frost_27 : decode cX7_frost 27 = .ok (.iaload, 1) := by decide +kernel
theorem dX7_frost_28 : decode cX7_frost 28 = .ok (.istore_n 3, 1) := by decide +kernel
theorem dX7_frost_29 : decode cX7_frost 29 = .ok (.aload_n 0, 1) := by decide +kernel
theorem dX7_frost_30 : decode cX7_frost 30 = .ok (.getfield 27, 3) := by decide +kernel
theorem dX7_frost_33 : decode cX7_frost 33 = .ok (.getfield 183, 3) := by decide +kernel
theorem dX7_frost_36 : decode cX7_frost 36 = .ok (.iload_n 1, 1) := by decide +kernel
theorem dX7_frost_37 : decode cX7_frost 37 = .ok (.iload_n 2, 1) := by decide +kernel
theorem dX7_frost_38 : decode cX7_frost 38 = .ok (.iastore, 1) := by decide +kernel
theorem dX7_frost_39 : decode cX7_frost 39 = .ok (.iload_n 3, 1) := by decide +kernel
theorem dX7_frost_40 : decode cX7_frost 40 = .ok (.ireturn, 1) := by decide +kernel
set_option maxRecDepth 20000 in
theorem ggX7_silence_X7_within : GoodIn wsX7_silence wsX7_within := goodIn_r _ [7] (by decide +kernel) (by decide +kernel)
set_option maxRecDepth 20000 in
theorem gX7_silence_X7_within : GoodIn wsX7_silence (va_wsS RX7 95 yX7_within wsX7_within) := goodIn_app (goodIn_of _ (by decide +kernel)) ggX7_silence_X7_within
theorem dX7_silence_0 : decode cX7_silence 0 = .ok (.iload_n 1, 1) := by decide +kernel
theorem dX7_silence_1 : decode cX7_silence 1 = .ok (.iconst 0, 1) := by decide +kernel
theorem dX7_silence_2 : decode cX7_silence 2 = .ok (.bipush 24, 2) := by decide +kernel
theorem dX7_silence_4 : decode cX7_silence 4 = .ok (.invokestatic 95, 3) := by decide +kernel
theorem dX7_silence_7 : decode cX7_silence 7 = .ok (.ifCond .eq 13, 3) := by decide +kernel
theorem dX7_silence_10 : decode cX7_silence 10 = .ok (.iload_n 2, 1) := by decide +kernel
theorem dX7_silence_11 : decode cX7_silence 11 = .ok (.iload_n 1, 1) := by decide +kernel
theorem dX7_silence_12 : decode cX7_silence 12 = .ok (.bipush 24, 2) := by decide +kernel
theorem dX7_silence_14 : decode cX7_silence 14 = .ok (.invokestatic 95, 3) := by decide +kernel
theorem dX7_silence_17 : decode cX7_silence 17 = .ok (.ifCond .ne 5, 3) := by decide +kernel
theorem dX7_silence_20 : decode cX7_silence 20 = .ok (.iconst (-1), 1) := by decide +kernel
theorem dX7_silence_21 : decode cX7_silence 21 = .ok (.ireturn, 1) := by decide +kernel
theorem dX7_silence_22 : decode cX7_silence 22 = .ok (.aload_n 0, 1) := by decide +kernel
theorem dX7_silence_23 : decode cX7_silence 23 = .ok (.getfield 27, 3) := by decide +kernel
theorem dX7_silence_26 : decode cX7_silence 26 = .ok (.iload_n 1, 1) := by decide +kernel
theorem dX7_silence_27 : decode cX7_silence 27 = .ok (.putfield 186, 3) := by decide +kernel
theorem dX7_silence_30 : decode cX7_silence 30 = .ok (.aload_n 0, 1) := by decide +kernel
theorem dX7_silence_31 : decode cX7_silence 31 = .ok (.getfield 27, 3) := by decide +kernel
theorem dX7_silence_34 : decode cX7_silence 34 = .ok (.iload_n 2, 1) := by decide +kernel
theorem dX7_silence_35 : decode cX7_silence 35 = .ok (.putfield 189, 3) := by decide +kernel
theorem dX7_silence_38 : decode cX7_silence 38 = .ok (.iconst 1, 1) := by decide +kernel
theorem dX7_silence_39 : decode cX7_silence 39 = .ok (.ireturn, 1) := by decide +kernel
set_option maxRecDepth 20000 in
theorem ggX7_tank_X5_changeRoom : GoodIn wsX7_tank wsX5_changeRoom := goodIn_r _ [6, 7, 8, 9, 10, 11, 12, 30, 31, 32, 33, 34, 35, 36, 37] (by decide +kernel) (by decide +kernel)
set_option maxRecDepth 20000 in
theorem gX7_tank_X5_changeRoom : GoodIn wsX7_tank (wsV RX7 192 RX5 yX5_changeRoom wsX5_changeRoom) := goodIn_app (goodIn_of _ (by decide +kernel)) ggX7_tank_X5_changeRoom
set_option maxRecDepth 20000 in
theorem ggX7_tank_X5_changeHeld : GoodIn wsX7_tank wsX5_changeHeld := goodIn_r _ [16, 9, 8, 10, 11, 12, 30, 31, 32, 33, 34, 35, 36, 37] (by decide +kernel) (by decide +kernel)
set_option maxRecDepth 20000 in
theorem gX7_tank_X5_changeHeld : GoodIn wsX7_tank (wsV RX7 195 RX5 yX5_changeHeld wsX5_changeHeld) := goodIn_app (goodIn_of _ (by decide +kernel)) ggX7_tank_X5_changeHeld
theorem dX7_tank_0 : decode cX7_tank 0 = .ok (.iload_n 1, 1) := by decide +kernel
theorem dX7_tank_1 : decode cX7_tank 1 = .ok (.ifCond .ne 12, 3) := by decide +kernel
theorem dX7_tank_4 : decode cX7_tank 4 = .ok (.aload_n 0, 1) := by decide +kernel
theorem dX7_tank_5 : decode cX7_tank 5 = .ok (.getfield 48, 3) := by decide +kernel
theorem dX7_tank_8 : decode cX7_tank 8 = .ok (.iload_n 2, 1) := by decide +kernel
theorem dX7_tank_9 : decode cX7_tank 9 = .ok (.invokevirtual 192, 3) := by decide +kernel
theorem dX7_tank_12 : decode cX7_tank 12 = .ok (.ireturn, 1) := by decide +kernel
theorem dX7_tank_13 : decode cX7_tank 13 = .ok (.iload_n 1, 1) := by decide +kernel
theorem dX7_tank_14 : decode cX7_tank 14 = .ok (.iconst 1, 1) := by decide +kernel
theorem dX7_tank_15 : decode cX7_tank 15 = .ok (.if_icmp .ne 14, 3) := by decide +kernel
theorem dX7_tank_18 : decode cX7_tank 18 = .ok (.aload_n 0, 1) := by decide +kernel
theorem dX7_tank_19 : decode cX7_tank 19 = .ok (.getfield 48, 3) := by decide +kernel
theorem dX7_tank_22 : decode cX7_tank 22 = .ok (.iload_n 2, 1) := by decide +kernel
theorem dX7_tank_23 : decode cX7_tank 23 = .ok (.invokevirtual 195, 3) := by decide +kernel
theorem dX7_tank_26 : decode cX7_tank 26 = .ok (.goto 4, 3) := by decide +kernel
theorem dX7_tank_29 : decode cX7_tank 29 = .ok (.iconst (-1), 1) := by decide +kernel
theorem dX7_tank_30 : decode cX7_tank 30 = .ok (.ireturn, 1) := by decide +kernel
set_option maxRecDepth 20000 in
theorem ggX7_type_X7_within : GoodIn wsX7_type wsX7_within := goodIn_r _ [5] (by decide +kernel) (by decide +kernel)
set_option maxRecDepth 20000 in
theorem gX7_type_X7_within : GoodIn wsX7_type (va_wsS RX7 95 yX7_within wsX7_within) := goodIn_app (goodIn_of _ (by decide +kernel)) ggX7_type_X7_within
set_option maxRecDepth 20000 in
theorem ggX7_type_X3_write : GoodIn wsX7_type wsX3_write := goodIn_r _ [10, 11, 12, 26, 27, 28, 29, 30, 31, 32] (by decide +kernel) (by decide +kernel)
set_option maxRecDepth 20000 in
theorem gX7_type_X3_write : GoodIn wsX7_type (wsV RX7 198 RX3 yX3_write wsX3_write) := goodIn_app (goodIn_of _ (by decide +kernel)) ggX7_type_X3_write
theorem dX7_type_0 : decode cX7_type 0 = .ok (.iload_n 3, 1) := by decide +kernel
theorem dX7_type_1 : decode cX7_type 1 = .ok (.iconst 1, 1) := by decide +kernel
theorem dX7_type_2 : decode cX7_type 2 = .ok (.bipush 8, 2) := by decide +kernel
theorem dX7_type_4 : decode cX7_type 4 = .ok (.invokestatic 95, 3) := by decide +kernel
theorem dX7_type_7 : decode cX7_type 7 = .ok (.ifCond .ne 5, 3) := by decide +kernel
theorem dX7_type_10 : decode cX7_type 10 = .ok (.iconst (-1), 1) := by decide +kernel
theorem dX7_type_11 : decode cX7_type 11 = .ok (.ireturn, 1) := by decide +kernel
theorem dX7_type_12 : decode cX7_type 12 = .ok (.aload_n 0, 1) := by decide +kernel
theorem dX7_type_13 : decode cX7_type 13 = .ok (.getfield 41, 3) := by decide +kernel
theorem dX7_type_16 : decode cX7_type 16 = .ok (.lload_n 1, 1) := by decide +kernel
theorem dX7_type_17 : decode cX7_type 17 = .ok (.iload_n 3, 1) := by decide +kernel
theorem dX7_type_18 : decode cX7_type 18 = .ok (.invokevirtual 198, 3) := by decide +kernel
theorem dX7_type_21 : decode cX7_type 21 = .ok (.ireturn, 1) := by decide +kernel
theorem dX7_clear_0 : decode cX7_clear 0 = .ok (.aload_n 0, 1) := by decide +kernel
theorem dX7_clear_1 : decode cX7_clear 1 = .ok (.getfield 41, 3) := by decide +kernel
theorem dX7_clear_4 : decode cX7_clear 4 = .ok (.getfield 202, 3) := by decide +kernel
theorem dX7_clear_7 : decode cX7_clear 7 = .ok (.istore_n 1, 1) := by decide +kernel
theorem dX7_clear_8 : decode cX7_clear 8 = .ok (.aload_n 0, 1) := by decide +kernel
theorem dX7_clear_9 : decode cX7_clear 9 = .ok (.getfield 41, 3) := by decide +kernel
theorem dX7_clear_12 : decode cX7_clear 12 = .ok (.iconst 0, 1) := by decide +kernel
theorem dX7_clear_13 : decode cX7_clear 13 = .ok (.putfield 202, 3) := by decide +kernel
theorem dX7_clear_16 : decode cX7_clear 16 = .ok (.iload_n 1, 1) := by decide +kernel
theorem dX7_clear_17 : decode cX7_clear 17 = .ok (.ireturn, 1) := by decide +kernel
set_option maxRecDepth 20000 in
theorem ggX7_rights_X3_tellAnew : GoodIn wsX7_rights wsX3_tellAnew := goodIn_r _ [6, 7, 8, 9, 10, 11, 12, 13, 14, 15, 16, 17, 18, 19, 20, 21, 22, 23, 5, 24, 25, 26, 27, 28, 29, 30, 31, 32, 33, 34, 35, 36, 37, 51, 52, 53, 54, 55, 56, 57] (by decide +kernel) (by decide +kernel)
set_option maxRecDepth 20000 in
theorem gX7_rights_X3_tellAnew : GoodIn wsX7_rights (wsV RX7 205 RX3 yX3_tellAnew wsX3_tellAnew) := goodIn_app (goodIn_of _ (by decide +kernel)) ggX7_rights_X3_tellAnew
theorem dX7_rights_0 : decode cX7_rights 0 = .ok (.aload_n 0, 1) := by decide +kernel
theorem dX7_rights_1 : decode cX7_rights 1 = .ok (.getfield 41, 3) := by decide +kernel
theorem dX7_rights_4 : decode cX7_rights 4 = .ok (.invokevirtual 205, 3) := by decide +kernel
theorem dX7_rights_7 : decode cX7_rights 7 = .ok (.ireturn, 1) := by decide +kernel
set_option maxRecDepth 20000 in
theorem ggX7_right_X7_within : GoodIn wsX7_right wsX7_within := goodIn_r _ [5] (by decide +kernel) (by decide +kernel)
set_option maxRecDepth 20000 in
theorem gX7_right_X7_within : GoodIn wsX7_right (va_wsS RX7 95 yX7_within wsX7_within) := goodIn_app (goodIn_of _ (by decide +kernel)) ggX7_right_X7_within
set_option maxRecDepth 20000 in
theorem ggX7_right_X3_litresOf : GoodIn wsX7_right wsX3_litresOf := goodIn_r _ [10, 11, 25, 26, 27, 28, 29, 30, 31] (by decide +kernel) (by decide +kernel)
set_option maxRecDepth 20000 in
theorem gX7_right_X3_litresOf : GoodIn wsX7_right (wsV RX7 208 RX3 yX3_litresOf wsX3_litresOf) := goodIn_app (goodIn_of _ (by decide +kernel)) ggX7_right_X3_litresOf
theorem dX7_right_0 : decode cX7_right 0 = .ok (.iload_n 1, 1) := by decide +kernel
theorem dX7_right_1 : decode cX7_right 1 = .ok (.iconst 0, 1) := by decide +kernel
theorem dX7_right_2 : decode cX7_right 2 = .ok (.iconst 4, 1) := by decide +kernel
theorem dX7_right_3 : decode cX7_right 3 = .ok (.invokestatic 95, 3) := by decide +kernel
theorem dX7_right_6 : decode cX7_right 6 = .ok (.ifCond .eq 13, 3) := by decide +kernel
theorem dX7_right_9 : decode cX7_right 9 = .ok (.iload_n 2, 1) := by decide +kernel
theorem dX7_right_10 : decode cX7_right 10 = .ok (.iconst 0, 1) := by decide +kernel
theorem dX7_right_11 : decode cX7_right 11 = .ok (.bipush 23, 2) := by decide +kernel
theorem dX7_right_13 : decode cX7_right 13 = .ok (.invokestatic 95, 3) := by decide +kernel
theorem dX7_right_16 : decode cX7_right 16 = .ok (.ifCond .ne 5, 3) := by decide +kernel
theorem dX7_right_19 : decode cX7_right 19 = .ok (.iconst (-1), 1) := by decide +kernel
theorem dX7_right_20 : decode cX7_right 20 = .ok (.ireturn, 1) := by decide +kernel
theorem dX7_right_21 : decode cX7_right 21 = .ok (.aload_n 0, 1) := by decide +kernel
theorem dX7_right_22 : decode cX7_right 22 = .ok (.getfield 41, 3) := by decide +kernel
theorem dX7_right_25 : decode cX7_right 25 = .ok (.iload_n 1, 1) := by decide +kernel
theorem dX7_right_26 : decode cX7_right 26 = .ok (.iload_n 2, 1) := by decide +kernel
theorem dX7_right_27 : decode cX7_right 27 = .ok (.invokevirtual 208, 3) := by decide +kernel
theorem dX7_right_30 : decode cX7_right 30 = .ok (.ireturn, 1) := by decide +kernel
set_option maxRecDepth 20000 in
theorem ggX7_hours_X7_within : GoodIn wsX7_hours wsX7_within := goodIn_r _ [8] (by decide +kernel) (by decide +kernel)
set_option maxRecDepth 20000 in
theorem gX7_hours_X7_within : GoodIn wsX7_hours (va_wsS RX7 95 yX7_within wsX7_within) := goodIn_app (goodIn_of _ (by decide +kernel)) ggX7_hours_X7_within
set_option maxRecDepth 20000 in
theorem ggX7_hours_X7_runRams : GoodIn wsX7_hours wsX7_runRams := goodIn_r _ [12, 13, 14, 15, 16, 17, 4, 1, 18, 19, 20, 21, 22, 23, 6, 7, 8, 24, 25, 26, 27, 28, 29, 30, 31, 32, 33, 34, 35, 36, 37, 38, 39, 40, 41, 42, 43, 44, 45, 46, 47, 48, 49, 50, 51, 52, 53, 54, 55, 56, 57, 58, 59, 60, 61, 62, 63, 64, 65, 66, 67, 68, 69, 70, 71, 72, 73, 74, 75, 76, 77, 78, 79, 80, 81, 82, 83, 84, 85, 86, 87, 88, 89, 90, 91, 92, 93, 94, 95, 96, 97, 98, 99, 100, 101, 102, 103, 104, 105, 106, 126, 127, 128, 129, 130, 131, 132, 133, 134, 135, 136, 137, 138, 147, 148, 149, 150, 151, 152, 153, 154, 155, 156, 139, 140, 141, 142, 143, 144, 145, 146] (by decide +kernel) (by decide +kernel)
set_option maxRecDepth 20000 in
theorem gX7_hours_X7_runRams : GoodIn wsX7_hours (wsV RX7 214 RX7 yX7_runRams wsX7_runRams) := goodIn_app (goodIn_of _ (by decide +kernel)) ggX7_hours_X7_runRams
set_option maxRecDepth 20000 in
theorem ggX7_hours_X3_litresOf : GoodIn wsX7_hours wsX3_litresOf := goodIn_r _ [111, 112, 157, 158, 159, 160, 161, 162, 163] (by decide +kernel) (by decide +kernel)
set_option maxRecDepth 20000 in
theorem gX7_hours_X3_litresOf : GoodIn wsX7_hours (wsV RX7 208 RX3 yX3_litresOf wsX3_litresOf) := goodIn_app (goodIn_of _ (by decide +kernel)) ggX7_hours_X3_litresOf
set_option maxRecDepth 20000 in
theorem ggX7_hours_X5_serve : GoodIn wsX7_hours wsX5_serve := goodIn_r _ [116, 86, 117, 74, 75, 76, 118, 119, 120, 139, 140, 141, 142, 143, 144, 145, 146] (by decide +kernel) (by decide +kernel)
set_option maxRecDepth 20000 in
theorem gX7_hours_X5_serve : GoodIn wsX7_hours (wsV RX7 217 RX5 yX5_serve wsX5_serve) := goodIn_app (goodIn_of _ (by decide +kernel)) ggX7_hours_X5_serve
set_option maxRecDepth 20000 in
theorem ggX7_hours_X7_goToNextHour : GoodIn wsX7_hours wsX7_goToNextHour := goodIn_r _ [124, 4, 125, 15, 126, 127, 128, 129, 130, 131, 132, 133, 134, 135, 136, 137, 138] (by decide +kernel) (by decide +kernel)
set_option maxRecDepth 20000 in
theorem gX7_hours_X7_goToNextHour : GoodIn wsX7_hours (wsV RX7 220 RX7 yX7_goToNextHour wsX7_goToNextHour) := goodIn_app (goodIn_of _ (by decide +kernel)) ggX7_hours_X7_goToNextHour
theorem dX7_hours_0 : decode cX7_hours 0 = .ok (.iload_n 1, 1) := by decide +kernel
theorem dX7_hours_1 : decode cX7_hours 1 = .ok (.iconst 1, 1) := by decide +kernel
theorem dX7_hours_2 : decode cX7_hours 2 = .ok (.sipush 720, 3) := by decide +kernel
theorem dX7_hours_5 : decode cX7_hours 5 = .ok (.invokestatic 95, 3) := by decide +kernel
theorem dX7_hours_8 : decode cX7_hours 8 = .ok (.ifCond .ne 5, 3) := by decide +kernel
theorem dX7_hours_11 : decode cX7_hours 11 = .ok (.iconst (-1), 1) := by decide +kernel
theorem dX7_hours_12 : decode cX7_hours 12 = .ok (.ireturn, 1) := by decide +kernel
theorem dX7_hours_13 : decode cX7_hours 13 = .ok (.aload_n 0, 1) := by decide +kernel
theorem dX7_hours_14 : decode cX7_hours 14 = .ok (.getfield 48, 3) := by decide +kernel
theorem dX7_hours_17 : decode cX7_hours 17 = .ok (.getfield 211, 3) := by decide +kernel
theorem dX7_hours_20 : decode cX7_hours 20 = .ok (.lstore_n 2, 1) := by decide +kernel
theorem dX7_hours_21 : decode cX7_hours 21 = .ok (.iconst 0, 1) := by decide +kernel
theorem dX7_hours_22 : decode cX7_hours 22 = .ok (.istore 4, 2) := by decide +kernel
theorem dX7_hours_24 : decode cX7_hours 24 = .ok (.iload 4, 2) := by decide +kernel
theorem dX7_hours_26 : decode cX7_hours 26 = .ok (.iload_n 1, 1) := by decide +kernel
theorem dX7_hours_27 : decode cX7_hours 27 = .ok (.if_icmp .ge 54, 3) := by decide +kernel
theorem dX7_hours_30 : decode cX7_hours 30 = .ok (.aload_n 0, 1) := by decide +kernel
theorem dX7_hours_31 : decode cX7_hours 31 = .ok (.invokevirtual 214, 3) := by decide +kernel
theorem dX7_hours_34 : decode cX7_hours 34 = .ok (.iconst 0, 1) := by decide +kernel
theorem dX7_hours_35 : decode cX7_hours 35 = .ok (.istore 5, 2) := by decide +kernel
theorem dX7_hours_37 : decode cX7_hours 37 = .ok (.iload 5, 2) := by decide +kernel
theorem dX7_hours_39 : decode cX7_hours 39 = .ok (.iconst 5, 1) := by decide +kernel
theorem dX7_hours_40 : decode cX7_hours 40 = .ok (.if_icmp .ge 31, 3) := by decide +kernel
theorem dX7_hours_43 : decode cX7_hours 43 = .ok (.aload_n 0, 1) := by decide +kernel
theorem dX7_hours_44 : decode cX7_hours 44 = .ok (.getfield 48, 3) := by decide +kernel
theorem dX7_hours_47 : decode cX7_hours 47 = .ok (.iload 5, 2) := by decide +kernel
theorem dX7_hours_49 : decode cX7_hours 49 = .ok (.aload_n 0, 1) := by decide +kernel
theorem dX7_hours_50 : decode cX7_hours 50 = .ok (.getfield 41, 3) := by decide +kernel
theorem dX7_hours_53 : decode cX7_hours 53 = .ok (.iload 5, 2) := by decide +kernel
theorem dX7_hours_55 : decode cX7_hours 55 = .ok (.aload_n 0, 1) := by decide +kernel
theorem dX7_hours_56 : decode cX7_hours 56 = .ok (.getfield 72, 3) := by decide +kernel
theorem dX7_hours_59 : decode cX7_hours 59 = .ok (.invokevirtual 208, 3) := by decide +kernel
theorem dX7_hours_62 : decode cX7_hours 62 = .ok (.invokevirtual 217, 3) := by decide +kernel
theorem dX7_hours_65 : decode cX7_hours 65 = .ok (.iinc 5 1, 3) := by decide +kernel
theorem dX7_hours_68 : decode cX7_hours 68 = .ok (.goto (-31), 3) := by decide +kernel
theorem dX7_hours_71 : decode cX7_hours 71 = .ok (.aload_n 0, 1) := by decide +kernel
theorem dX7_hours_72 : decode cX7_hours 72 = .ok (.invokevirtual 220, 3) := by decide +kernel
theorem dX7_hours_75 : decode cX7_hours 75 = .ok (.iinc 4 1, 3) := by decide +kernel
theorem dX7_hours_78 : decode cX7_hours 78 = .ok (.goto (-54), 3) := by decide +kernel
theorem dX7_hours_81 : decode cX7_hours 81 = .ok (.aload_n 0, 1) := by decide +kernel
theorem dX7_hours_82 : decode cX7_hours 82 = .ok (.getfield 48, 3) := by decide +kernel
theorem dX7_hours_85 : decode cX7_hours 85 = .ok (.getfield 211, 3) := by decide +kernel
theorem dX7_hours_88 : decode cX7_hours 88 = .ok (.lload_n 2, 1) := by decide +kernel
theorem dX7_hours_89 : decode cX7_hours 89 = .ok (.lsub, 1) := by decide +kernel
theorem dX7_hours_90 : decode cX7_hours 90 = .ok (.l2i, 1) := by decide +kernel
theorem dX7_hours_91 : decode cX7_hours 91 = .ok (.ireturn, 1) := by decide +kernel
set_option maxRecDepth 20000 in
theorem ggX7_book_X7_within : GoodIn wsX7_book wsX7_within := goodIn_r _ [13] (by decide +kernel) (by decide +kernel)
set_option maxRecDepth 20000 in
theorem gX7_book_X7_within : GoodIn wsX7_book (va_wsS RX7 95 yX7_within wsX7_within) := goodIn_app (goodIn_of _ (by decide +kernel)) ggX7_book_X7_within
theorem dX7_book_0 : decode cX7_book 0 = .ok (.iload_n 1, 1) := by decide +kernel
theorem dX7_book_1 : decode cX7_book 1 = .ok (.tableswitch 88 0 5 #[39, 47, 55, 63, 71, 79], 39) := by decide +kernel
theorem dX7_book_40 : decode cX7_book 40 = .ok (.aload_n 0, 1) := by decide +kernel
theorem dX7_book_41 : decode cX7_book 41 = .ok (.getfield 48, 3) := by decide +kernel
theorem dX7_book_44 : decode cX7_book 44 = .ok (.getfield 223, 3) := by decide +kernel
theorem dX7_book_47 : decode cX7_book 47 = .ok (.lreturn, 1) := by decide +kernel
theorem dX7_book_48 : decode cX7_book 48 = .ok (.aload_n 0, 1) := by decide +kernel
theorem dX7_book_49 : decode cX7_book 49 = .ok (.getfield 48, 3) := by decide +kernel
theorem dX7_book_52 : decode cX7_book 52 = .ok (.getfield 226, 3) := by decide +kernel
theorem dX7_book_55 : decode cX7_book 55 = .ok (.lreturn, 1) := by decide +kernel
theorem dX7_book_56 : decode cX7_book 56 = .ok (.aload_n 0, 1) := by decide +kernel
theorem dX7_book_57 : decode cX7_book 57 = .ok (.getfield 48, 3) := by decide +kernel
theorem dX7_book_60 : decode cX7_book 60 = .ok (.getfield 229, 3) := by decide +kernel
theorem dX7_book_63 : decode cX7_book 63 = .ok (.lreturn, 1) := by decide +kernel
theorem dX7_book_64 : decode cX7_book 64 = .ok (.aload_n 0, 1) := by decide +kernel
theorem dX7_book_65 : decode cX7_book 65 = .ok (.getfield 48, 3) := by decide +kernel
theorem dX7_book_68 : decode cX7_book 68 = .ok (.getfield 232, 3) := by decide +kernel
theorem dX7_book_71 : decode cX7_book 71 = .ok (.lreturn, 1) := by decide +kernel
theorem dX7_book_72 : decode cX7_book 72 = .ok (.aload_n 0, 1) := by decide +kernel
theorem dX7_book_73 : decode cX7_book 73 = .ok (.getfield 48, 3) := by decide +kernel
theorem dX7_book_76 : decode cX7_book 76 = .ok (.getfield 211, 3) := by decide +kernel
theorem dX7_book_79 : decode cX7_book 79 = .ok (.lreturn, 1) := by decide +kernel
theorem dX7_book_80 : decode cX7_book 80 = .ok (.aload_n 0, 1) := by decide +kernel
theorem dX7_book_81 : decode cX7_book 81 = .ok (.getfield 48, 3) := by decide +kernel
theorem dX7_book_84 : decode cX7_book 84 = .ok (.getfield 235, 3) := by decide +kernel
theorem dX7_book_87 : decode cX7_book 87 = .ok (.i2l, 1) := by decide +kernel
theorem dX7_book_88 : decode cX7_book 88 = .ok (.lreturn, 1) := by decide +kernel
theorem dX7_book_89 : decode cX7_book 89 = .ok (.iload_n 1, 1) := by decide +kernel
theorem dX7_book_90 : decode cX7_book 90 = .ok (.bipush 6, 2) := by decide +kernel
theorem dX7_book_92 : decode cX7_book 92 = .ok (.bipush 10, 2) := by decide +kernel
theorem dX7_book_94 : decode cX7_book 94 = .ok (.invokestatic 95, 3) := by decide +kernel
theorem dX7_book_97 : decode cX7_book 97 = .ok (.ifCond .eq 18, 3) := by decide +kernel
theorem dX7_book_100 : decode cX7_book 100 = .ok (.aload_n 0, 1) := by decide +kernel
theorem dX7_book_101 : decode cX7_book 101 = .ok (.getfield 48, 3) := by decide +kernel
theorem dX7_book_104 : decode cX7_book 104 = .ok (.getfield 238, 3) := by decide +kernel
theorem dX7_book_107 : decode cX7_book 107 = .ok (.iload_n 1, 1) := by decide +kernel
theorem dX7_book_108 : decode cX7_book 108 = .ok (.bipush 6, 2) := by decide +kernel
theorem dX7_book_110 : decode cX7_book 110 = .ok (.isub, 1) := by decide +kernel
theorem dX7_book_111 : decode cX7_book 111 = .ok (.laload, 1) := by decide +kernel
theorem dX7_book_112 : decode cX7_book 112 = .ok (.goto 6, 3) := by decide +kernel
theorem dX7_book_115 : decode cX7_book 115 = .ok (.ldc2_w 242, 3) := by decide +kernel
theorem dX7_book_118 : decode cX7_book 118 = .ok (.lreturn, 1) := by decide +kernel
set_option maxRecDepth 20000 in
theorem ggX7_read_X7_isReadable : GoodIn wsX7_read wsX7_isReadable := goodIn_r _ [5, 6, 7, 8, 4, 9] (by decide +kernel) (by decide +kernel)
set_option maxRecDepth 20000 in
theorem gX7_read_X7_isReadable : GoodIn wsX7_read (va_wsS RX7 244 yX7_isReadable wsX7_isReadable) := goodIn_app (goodIn_of _ (by decide +kernel)) ggX7_read_X7_isReadable
set_option maxRecDepth 20000 in
theorem ggX7_read_X7_isRam : GoodIn wsX7_read wsX7_isRam := goodIn_r _ [13, 14, 7, 8, 4, 9, 24, 25, 26, 27, 28, 29, 30, 31, 32, 33, 34, 35, 36] (by decide +kernel) (by decide +kernel)
set_option maxRecDepth 20000 in
theorem gX7_read_X7_isRam : GoodIn wsX7_read (wsV RX7 87 RX7 yX7_isRam wsX7_isRam) := goodIn_app (goodIn_of _ (by decide +kernel)) ggX7_read_X7_isRam
set_option maxRecDepth 20000 in
theorem ggX7_read_X2_keep : GoodIn wsX7_read wsX2_keep := goodIn_r _ [19, 20, 21, 22, 23, 37, 38, 39, 40, 41, 42] (by decide +kernel) (by decide +kernel)
set_option maxRecDepth 20000 in
theorem gX7_read_X2_keep : GoodIn wsX7_read (wsV RX7 247 RX2 yX2_keep wsX2_keep) := goodIn_app (goodIn_of _ (by decide +kernel)) ggX7_read_X2_keep
theorem dX7_read_0 : decode cX7_read 0 = .ok (.iload_n 2, 1) := by decide +kernel
theorem dX7_read_1 : decode cX7_read 1 = .ok (.invokestatic 244, 3) := by decide +kernel
theorem dX7_read_4 : decode cX7_read 4 = .ok (.ifCond .eq 26, 3) := by decide +kernel
theorem dX7_read_7 : decode cX7_read 7 = .ok (.iload_n 3, 1) := by decide +kernel
theorem dX7_read_8 : decode cX7_read 8 = .ok (.invokestatic 244, 3) := by decide +kernel
theorem dX7_read_11 : decode cX7_read 11 = .ok (.ifCond .eq 19, 3) := by decide +kernel
theorem dX7_read_14 : decode cX7_read 14 = .ok (.iload_n 2, 1) := by decide +kernel
theorem dX7_read_15 : decode cX7_read 15 = .ok (.bipush (-9), 2) := by decide +kernel
theorem dX7_read_17 : decode cX7_read 17 = .ok (.if_icmp .ne 9, 3) := by decide +kernel
theorem dX7_read_20 : decode cX7_read 20 = .ok (.iload_n 3, 1) := by decide +kernel
theorem dX7_read_21 : decode cX7_read 21 = .ok (.bipush (-9), 2) := by decide +kernel
theorem dX7_read_23 : decode cX7_read 23 = .ok (.if_icmp .eq 7, 3) := by decide +kernel
theorem dX7_read_26 : decode cX7_read 26 = .ok (.iconst 1, 1) := by decide +kernel
theorem dX7_read_27 : decode cX7_read 27 = .ok (.goto 4, 3) := by decide +kernel
theorem dX7_read_30 : decode cX7_read 30 = .ok (.iconst 0, 1) := by decide +kernel
theorem dX7_read_31 : decode cX7_read 31 = .ok (.istore 4, 2) := by decide +kernel
theorem dX7_read_33 : decode cX7_read 33 = .ok (.aload_n 0, 1) := by decide +kernel
theorem dX7_read_34 : decode cX7_read 34 = .ok (.iload_n 1, 1) := by decide +kernel
theorem dX7_read_35 : decode cX7_read 35 = .ok (.invokevirtual 87, 3) := by decide +kernel
theorem dX7_read_38 : decode cX7_read 38 = .ok (.ifCond .eq 8, 3) := by decide +kernel
theorem dX7_read_41 : decode cX7_read 41 = .ok (.iload 4, 2) := by decide +kernel
theorem dX7_read_43 : decode cX7_read 43 = .ok (.ifCond .ne 5, 3) := by decide +kernel
theorem dX7_read_46 : decode cX7_read 46 = .ok (.iconst (-1), 1) := by decide +kernel
theorem dX7_read_47 : decode cX7_read 47 = .ok (.ireturn, 1) := by decide +kernel
theorem dX7_read_48 : decode cX7_read 48 = .ok (.aload_n 0, 1) := by decide +kernel
theorem dX7_read_49 : decode cX7_read 49 = .ok (.getfield 55, 3) := by decide +kernel
theorem dX7_read_52 : decode cX7_read 52 = .ok (.iload_n 1, 1) := by decide +kernel
theorem dX7_read_53 : decode cX7_read 53 = .ok (.iload_n 2, 1) := by decide +kernel
theorem dX7_read_54 : decode cX7_read 54 = .ok (.iload_n 3, 1) := by decide +kernel
theorem dX7_read_55 : decode cX7_read 55 = .ok (.invokevirtual 247, 3) := by decide +kernel
theorem dX7_read_58 : decode cX7_read 58 = .ok (.ireturn, 1) := by decide +kernel
theorem dX7_wipe_0 : decode cX7_wipe 0 = .ok (.aload_n 0, 1) := by decide +kernel
theorem dX7_wipe_1 : decode cX7_wipe 1 = .ok (.getfield 55, 3) := by decide +kernel
theorem dX7_wipe_4 : decode cX7_wipe 4 = .ok (.getfield 250, 3) := by decide +kernel
theorem dX7_wipe_7 : decode cX7_wipe 7 = .ok (.istore_n 1, 1) := by decide +kernel
theorem dX7_wipe_8 : decode cX7_wipe 8 = .ok (.aload_n 0, 1) := by decide +kernel
theorem dX7_wipe_9 : decode cX7_wipe 9 = .ok (.getfield 55, 3) := by decide +kernel
theorem dX7_wipe_12 : decode cX7_wipe 12 = .ok (.iconst 0, 1) := by decide +kernel
theorem dX7_wipe_13 : decode cX7_wipe 13 = .ok (.putfield 250, 3) := by decide +kernel
theorem dX7_wipe_16 : decode cX7_wipe 16 = .ok (.iload_n 1, 1) := by decide +kernel
theorem dX7_wipe_17 : decode cX7_wipe 17 = .ok (.ireturn, 1) := by decide +kernel
set_option maxRecDepth 20000 in
theorem ggX7_tolerance_X7_within : GoodIn wsX7_tolerance wsX7_within := goodIn_r _ [7] (by decide +kernel) (by decide +kernel)
set_option maxRecDepth 20000 in
theorem gX7_tolerance_X7_within : GoodIn wsX7_tolerance (va_wsS RX7 95 yX7_within wsX7_within) := goodIn_app (goodIn_of _ (by decide +kernel)) ggX7_tolerance_X7_within
theorem dX7_tolerance_0 : decode cX7_tolerance 0 = .ok (.iload_n 1, 1) := by decide +kernel
theorem dX7_tolerance_1 : decode cX7_tolerance 1 = .ok (.ifCond .ne 32, 3) := by decide +kernel
theorem dX7_tolerance_4 : decode cX7_tolerance 4 = .ok (.iload_n 2, 1) := by decide +kernel
theorem dX7_tolerance_5 : decode cX7_tolerance 5 = .ok (.iconst 0, 1) := by decide +kernel
theorem dX7_tolerance_6 : decode cX7_tolerance 6 = .ok (.sipush 500, 3) := by decide +kernel
theorem dX7_tolerance_9 : decode cX7_tolerance 9 = .ok (.invokestatic 95, 3) := by decide +kernel
theorem dX7_tolerance_12 : decode cX7_tolerance 12 = .ok (.ifCond .eq 21, 3) := by decide +kernel
theorem dX7_tolerance_15 : decode cX7_tolerance 15 = .ok (.aload_n 0, 1) := by decide +kernel
theorem dX7_tolerance_16 : decode cX7_tolerance 16 = .ok (.getfield 55, 3) := by decide +kernel
theorem dX7_tolerance_19 : decode cX7_tolerance 19 = .ok (.getfield 251, 3) := by decide +kernel
theorem dX7_tolerance_22 : decode cX7_tolerance 22 = .ok (.istore_n 3, 1) := by decide +kernel
theorem dX7_tolerance_23 : decode cX7_tolerance 23 = .ok (.aload_n 0, 1) := by decide +kernel
theorem dX7_tolerance_24 : decode cX7_tolerance 24 = .ok (.getfield 55, 3) := by decide +kernel
theorem dX7_tolerance_27 : decode cX7_tolerance 27 = .ok (.iload_n 2, 1) := by decide +kernel
theorem dX7_tolerance_28 : decode cX7_tolerance 28 = .ok (.putfield 251, 3) := by decide +kernel
theorem dX7_tolerance_31 : decode cX7_tolerance 31 = .ok (.iload_n 3, 1) := by decide +kernel
theorem dX7_tolerance_32 : decode cX7_tolerance 32 = .ok (.ireturn, 1) := by decide +kernel
theorem dX7_tolerance_33 : decode cX7_tolerance 33 = .ok (.iload_n 1, 1) := by decide +kernel
theorem dX7_tolerance_34 : decode cX7_tolerance 34 = .ok (.iconst 1, 1) := by decide +kernel
theorem dX7_tolerance_35 : decode cX7_tolerance 35 = .ok (.if_icmp .ne 31, 3) := by decide +kernel
theorem dX7_tolerance_38 : decode cX7_tolerance 38 = .ok (.iload_n 2, 1) := by decide +kernel
theorem dX7_tolerance_39 : decode cX7_tolerance 39 = .ok (.iconst 0, 1) := by decide +kernel
theorem dX7_tolerance_40 : decode cX7_tolerance 40 = .ok (.bipush 50, 2) := by decide +kernel
theorem dX7_tolerance_42 : decode cX7_tolerance 42 = .ok (.invokestatic 95, 3) := by decide +kernel
theorem dX7_tolerance_45 : decode cX7_tolerance 45 = .ok (.ifCond .eq 21, 3) := by decide +kernel
theorem dX7_tolerance_48 : decode cX7_tolerance 48 = .ok (.aload_n 0, 1) := by decide +kernel
theorem dX7_tolerance_49 : decode cX7_tolerance 49 = .ok (.getfield 55, 3) := by decide +kernel
theorem dX7_tolerance_52 : decode cX7_tolerance 52 = .ok (.getfield 254, 3) := by decide +kernel
theorem dX7_tolerance_55 : decode cX7_tolerance 55 = .ok (.istore_n 3, 1) := by decide +kernel
theorem dX7_tolerance_56 : decode cX7_tolerance 56 = .ok (.aload_n 0, 1) := by decide +kernel
theorem dX7_tolerance_57 : decode cX7_tolerance 57 = .ok (.getfield 55, 3) := by decide +kernel
theorem dX7_tolerance_60 : decode cX7_tolerance 60 = .ok (.iload_n 2, 1) := by decide +kernel
theorem dX7_tolerance_61 : decode cX7_tolerance 61 = .ok (.putfield 254, 3) := by decide +kernel
theorem dX7_tolerance_64 : decode cX7_tolerance 64 = .ok (.iload_n 3, 1) := by decide +kernel
theorem dX7_tolerance_65 : decode cX7_tolerance 65 = .ok (.ireturn, 1) := by decide +kernel
theorem dX7_tolerance_66 : decode cX7_tolerance 66 = .ok (.iconst (-1), 1) := by decide +kernel
theorem dX7_tolerance_67 : decode cX7_tolerance 67 = .ok (.ireturn, 1) := by decide +kernel
set_option maxRecDepth 20000 in
theorem ggX7_fits_X7_isRam : GoodIn wsX7_fits wsX7_isRam := goodIn_r _ [8, 9, 10, 11, 7, 12, 98, 99, 100, 101, 102, 103, 104, 105, 106, 107, 108, 109, 110] (by decide +kernel) (by decide +kernel)
set_option maxRecDepth 20000 in
theorem gX7_fits_X7_isRam : GoodIn wsX7_fits (wsV RX7 87 RX7 yX7_isRam wsX7_isRam) := goodIn_app (goodIn_of _ (by decide +kernel)) ggX7_fits_X7_isRam
set_option maxRecDepth 20000 in
theorem ggX7_fits_X7_within : GoodIn wsX7_fits wsX7_within := goodIn_r _ [12] (by decide +kernel) (by decide +kernel)
set_option maxRecDepth 20000 in
theorem gX7_fits_X7_within : GoodIn wsX7_fits (va_wsS RX7 95 yX7_within wsX7_within) := goodIn_app (goodIn_of _ (by decide +kernel)) ggX7_fits_X7_within
set_option maxRecDepth 20000 in
theorem ggX7_fits_X1_becomeLike : GoodIn wsX7_fits wsX1_becomeLike := goodIn_r _ [17, 18, 19, 20, 21, 22, 23, 111, 112, 113, 114, 115, 116] (by decide +kernel) (by decide +kernel)
set_option maxRecDepth 20000 in
theorem gX7_fits_X1_becomeLike : GoodIn wsX7_fits (wsV RX7 145 RX1 yX1_becomeLike wsX1_becomeLike) := goodIn_app (goodIn_of _ (by decide +kernel)) ggX7_fits_X1_becomeLike
set_option maxRecDepth 20000 in
theorem ggX7_fits_X1_suffer : GoodIn wsX7_fits wsX1_suffer := goodIn_r _ [27, 28, 29, 30, 16, 31, 18, 23, 11, 7, 12, 111, 112, 113, 114, 115, 116] (by decide +kernel) (by decide +kernel)
set_option maxRecDepth 20000 in
theorem gX7_fits_X1_suffer : GoodIn wsX7_fits (wsV RX7 257 RX1 yX1_suffer wsX1_suffer) := goodIn_app (goodIn_of _ (by decide +kernel)) ggX7_fits_X1_suffer
set_option maxRecDepth 20000 in
theorem ggX7_fits_X2_agreeWith : GoodIn wsX7_fits wsX2_agreeWith := goodIn_r _ [36, 37, 38, 39, 40, 41, 16, 42, 43, 44, 45, 46, 47, 48, 49, 50, 51, 52, 23, 53, 54, 18, 55, 56, 57, 58, 59, 60, 61, 62, 63, 64, 65, 66, 67, 68, 69, 70, 71, 72, 73, 74, 75, 76, 77, 78, 79, 80, 81, 82, 83, 84, 85, 35, 86, 87, 88, 89, 90, 91, 92, 93, 94, 95, 96, 97, 117, 118, 119, 120, 121, 122, 111, 112, 113, 114, 115, 116] (by decide +kernel) (by decide +kernel)
set_option maxRecDepth 20000 in
theorem gX7_fits_X2_agreeWith : GoodIn wsX7_fits (wsV RX7 261 RX2 yX2_agreeWith wsX2_agreeWith) := goodIn_app (goodIn_of _ (by decide +kernel)) ggX7_fits_X2_agreeWith
theorem dX7_fits_0 : decode cX7_fits 0 = .ok (.aload_n 0, 1) := by decide +kernel
theorem dX7_fits_1 : decode cX7_fits 1 = .ok (.iload_n 1, 1) := by decide +kernel
theorem dX7_fits_2 : decode cX7_fits 2 = .ok (.invokevirtual 87, 3) := by decide +kernel
theorem dX7_fits_5 : decode cX7_fits 5 = .ok (.ifCond .eq 14, 3) := by decide +kernel
theorem dX7_fits_8 : decode cX7_fits 8 = .ok (.iload_n 2, 1) := by decide +kernel
theorem dX7_fits_9 : decode cX7_fits 9 = .ok (.iconst 0, 1) := by decide +kernel
theorem dX7_fits_10 : decode cX7_fits 10 = .ok (.sipush 255, 3) := by decide +kernel
theorem dX7_fits_13 : decode cX7_fits 13 = .ok (.invokestatic 95, 3) := by decide +kernel
theorem dX7_fits_16 : decode cX7_fits 16 = .ok (.ifCond .ne 5, 3) := by decide +kernel
theorem dX7_fits_19 : decode cX7_fits 19 = .ok (.iconst (-1), 1) := by decide +kernel
theorem dX7_fits_20 : decode cX7_fits 20 = .ok (.ireturn, 1) := by decide +kernel
theorem dX7_fits_21 : decode cX7_fits 21 = .ok (.aload_n 0, 1) := by decide +kernel
theorem dX7_fits_22 : decode cX7_fits 22 = .ok (.getfield 20, 3) := by decide +kernel
theorem dX7_fits_25 : decode cX7_fits 25 = .ok (.aload_n 0, 1) := by decide +kernel
theorem dX7_fits_26 : decode cX7_fits 26 = .ok (.getfield 11, 3) := by decide +kernel
theorem dX7_fits_29 : decode cX7_fits 29 = .ok (.iload_n 1, 1) := by decide +kernel
theorem dX7_fits_30 : decode cX7_fits 30 = .ok (.aaload, 1) := by decide +kernel
theorem dX7_fits_31 : decode cX7_fits 31 = .ok (.invokevirtual 145, 3) := by decide +kernel
theorem dX7_fits_34 : decode cX7_fits 34 = .ok (.aload_n 0, 1) := by decide +kernel
theorem dX7_fits_35 : decode cX7_fits 35 = .ok (.getfield 20, 3) := by decide +kernel
theorem dX7_fits_38 : decode cX7_fits 38 = .ok (.iload_n 2, 1) := by decide +kernel
theorem dX7_fits_39 : decode cX7_fits 39 = .ok (.invokevirtual 257, 3) := by decide +kernel
theorem dX7_fits_42 : decode cX7_fits 42 = .ok (.aload_n 0, 1) := by decide +kernel
theorem dX7_fits_43 : decode cX7_fits 43 = .ok (.getfield 55, 3) := by decide +kernel
theorem dX7_fits_46 : decode cX7_fits 46 = .ok (.iload_n 1, 1) := by decide +kernel
theorem dX7_fits_47 : decode cX7_fits 47 = .ok (.aload_n 0, 1) := by decide +kernel
theorem dX7_fits_48 : decode cX7_fits 48 = .ok (.getfield 20, 3) := by decide +kernel
theorem dX7_fits_51 : decode cX7_fits 51 = .ok (.invokevirtual 261, 3) := by decide +kernel
theorem dX7_fits_54 : decode cX7_fits 54 = .ok (.ifCond .eq 7, 3) := by decide +kernel
theorem dX7_fits_57 : decode cX7_fits 57 = .ok (.iconst 1, 1) := by decide +kernel
theorem dX7_fits_58 : decode cX7_fits 58 = .ok (.goto 4, 3) := by decide +kernel
theorem dX7_fits_61 : decode cX7_fits 61 = .ok (.iconst 0, 1) := by decide +kernel
theorem dX7_fits_62 : decode cX7_fits 62 = .ok (.ireturn, 1) := by decide +kernel
set_option maxRecDepth 20000 in
theorem ggX7_ails_X7_isRam : GoodIn wsX7_ails wsX7_isRam := goodIn_r _ [8, 9, 10, 11, 7, 12, 132, 133, 134, 135, 136, 137, 138, 139, 140, 141, 142, 143, 144] (by decide +kernel) (by decide +kernel)
set_option maxRecDepth 20000 in
theorem gX7_ails_X7_isRam : GoodIn wsX7_ails (wsV RX7 87 RX7 yX7_isRam wsX7_isRam) := goodIn_app (goodIn_of _ (by decide +kernel)) ggX7_ails_X7_isRam
set_option maxRecDepth 20000 in
theorem ggX7_ails_X7_within : GoodIn wsX7_ails wsX7_within := goodIn_r _ [12] (by decide +kernel) (by decide +kernel)
set_option maxRecDepth 20000 in
theorem gX7_ails_X7_within : GoodIn wsX7_ails (va_wsS RX7 95 yX7_within wsX7_within) := goodIn_app (goodIn_of _ (by decide +kernel)) ggX7_ails_X7_within
set_option maxRecDepth 20000 in
theorem ggX7_ails_X7_tryAllCauses : GoodIn wsX7_ails wsX7_tryAllCauses := goodIn_r _ [16, 1, 17, 18, 19, 20, 21, 22, 23, 24, 25, 26, 27, 28, 29, 30, 31, 32, 33, 34, 35, 36, 37, 38, 39, 40, 41, 42, 43, 44, 45, 46, 47, 48, 49, 50, 11, 7, 12, 51, 52, 53, 54, 55, 56, 57, 58, 59, 60, 61, 62, 63, 64, 65, 66, 67, 68, 69, 70, 71, 72, 73, 74, 75, 76, 77, 78, 79, 80, 81, 82, 83, 84, 85, 86, 87, 88, 89, 90, 91, 92, 93, 94, 95, 96, 97, 98, 99, 100, 101, 102, 103, 104, 105, 106, 107, 108, 109, 110, 111, 112, 113, 114, 115, 116, 117, 118, 119, 120, 132, 133, 134, 135, 136, 137, 138, 139, 140, 141, 142, 143, 144, 145, 146, 147, 148, 149, 150, 151, 152, 153, 154, 155, 156, 157, 158, 159] (by decide +kernel) (by decide +kernel)
set_option maxRecDepth 20000 in
theorem gX7_ails_X7_tryAllCauses : GoodIn wsX7_ails (wsV RX7 265 RX7 yX7_tryAllCauses wsX7_tryAllCauses) := goodIn_app (goodIn_of _ (by decide +kernel)) ggX7_ails_X7_tryAllCauses
set_option maxRecDepth 20000 in
theorem ggX7_ails_X0_nextLook : GoodIn wsX7_ails wsX0_nextLook := goodIn_r _ [124, 26, 125, 126, 127, 23, 128, 25, 129, 130, 100, 131, 145, 146, 147] (by decide +kernel) (by decide +kernel)
set_option maxRecDepth 20000 in
theorem gX7_ails_X0_nextLook : GoodIn wsX7_ails (wsV RX7 274 RX0 yX0_nextLook wsX0_nextLook) := goodIn_app (goodIn_of _ (by decide +kernel)) ggX7_ails_X0_nextLook
theorem dX7_ails_0 : decode cX7_ails 0 = .ok (.aload_n 0, 1) := by decide +kernel
theorem dX7_ails_1 : decode cX7_ails 1 = .ok (.iload_n 1, 1) := by decide +kernel
theorem dX7_ails_2 : decode cX7_ails 2 = .ok (.invokevirtual 87, 3) := by decide +kernel
theorem dX7_ails_5 : decode cX7_ails 5 = .ok (.ifCond .eq 12, 3) := by decide +kernel
theorem dX7_ails_8 : decode cX7_ails 8 = .ok (.iload_n 2, 1) := by decide +kernel
theorem dX7_ails_9 : decode cX7_ails 9 = .ok (.iconst 0, 1) := by decide +kernel
theorem dX7_ails_10 : decode cX7_ails 10 = .ok (.iconst 2, 1) := by decide +kernel
theorem dX7_ails_11 : decode cX7_ails 11 = .ok (.invokestatic 95, 3) := by decide +kernel
theorem dX7_ails_14 : decode cX7_ails 14 = .ok (.ifCond .ne 5, 3) := by decide +kernel
theorem dX7_ails_17 : decode cX7_ails 17 = .ok (.iconst (-1), 1) := by decide +kernel
theorem dX7_ails_18 : decode cX7_ails 18 = .ok (.ireturn, 1) := by decide +kernel
theorem dX7_ails_19 : decode cX7_ails 19 = .ok (.aload_n 0, 1) := by decide +kernel
theorem dX7_ails_20 : decode cX7_ails 20 = .ok (.iload_n 1, 1) := by decide +kernel
theorem dX7_ails_21 : decode cX7_ails 21 = .ok (.invokevirtual 265, 3) := by decide +kernel
theorem dX7_ails_24 : decode cX7_ails 24 = .ok (.iload_n 2, 1) := by decide +kernel
theorem dX7_ails_25 : decode cX7_ails 25 = .ok (.lookupswitch 43 #[(0, 27), (1, 35)], 27) := by decide +kernel
theorem dX7_ails_52 : decode cX7_ails 52 = .ok (.aload_n 0, 1) := by decide +kernel
theorem dX7_ails_53 : decode cX7_ails 53 = .ok (.getfield 62, 3) := by decide +kernel
theorem dX7_ails_56 : decode cX7_ails 56 = .ok (.getfield 268, 3) := by decide +kernel
theorem dX7_ails_59 : decode cX7_ails 59 = .ok (.ireturn, 1) := by decide +kernel
theorem dX7_ails_60 : decode cX7_ails 60 = .ok (.aload_n 0, 1) := by decide +kernel
theorem dX7_ails_61 : decode cX7_ails 61 = .ok (.getfield 62, 3) := by decide +kernel
theorem dX7_ails_64 : decode cX7_ails 64 = .ok (.getfield 271, 3) := by decide +kernel
theorem dX7_ails_67 : decode cX7_ails 67 = .ok (.ireturn, 1) := by decide +kernel
theorem dX7_ails_68 : decode cX7_ails 68 = .ok (.aload_n 0, 1) := by decide +kernel
theorem dX7_ails_69 : decode cX7_ails 69 = .ok (.getfield 62, 3) := by decide +kernel
theorem dX7_ails_72 : decode cX7_ails 72 = .ok (.invokevirtual 274, 3) := by decide +kernel
theorem dX7_ails_75 : decode cX7_ails 75 = .ok (.ireturn, 1) := by decide +kernel
set_option maxRecDepth 20000 in
theorem ggX7_sure_X7_isRam : GoodIn wsX7_sure wsX7_isRam := goodIn_r _ [6, 7, 8, 9, 5, 10, 123, 124, 125, 126, 127, 128, 129, 130, 131, 132, 133, 134, 135] (by decide +kernel) (by decide +kernel)
set_option maxRecDepth 20000 in
theorem gX7_sure_X7_isRam : GoodIn wsX7_sure (wsV RX7 87 RX7 yX7_isRam wsX7_isRam) := goodIn_app (goodIn_of _ (by decide +kernel)) ggX7_sure_X7_isRam
set_option maxRecDepth 20000 in
theorem ggX7_sure_X7_within : GoodIn wsX7_sure wsX7_within := goodIn_r _ [10] (by decide +kernel) (by decide +kernel)
set_option maxRecDepth 20000 in
theorem gX7_sure_X7_within : GoodIn wsX7_sure (va_wsS RX7 95 yX7_within wsX7_within) := goodIn_app (goodIn_of _ (by decide +kernel)) ggX7_sure_X7_within
set_option maxRecDepth 20000 in
theorem ggX7_sure_X7_tryAllCauses : GoodIn wsX7_sure wsX7_tryAllCauses := goodIn_r _ [14, 1, 15, 16, 17, 18, 19, 20, 21, 22, 23, 24, 25, 26, 27, 28, 29, 30, 31, 32, 33, 34, 35, 36, 37, 38, 39, 40, 41, 42, 43, 44, 45, 46, 47, 48, 9, 5, 10, 49, 50, 51, 52, 53, 54, 55, 56, 57, 58, 59, 60, 61, 62, 63, 64, 65, 66, 67, 68, 69, 70, 71, 72, 73, 74, 75, 76, 77, 78, 79, 80, 81, 82, 83, 84, 85, 86, 87, 88, 89, 90, 91, 92, 93, 94, 95, 96, 97, 98, 99, 100, 101, 102, 103, 104, 105, 106, 107, 108, 109, 110, 111, 112, 113, 114, 115, 116, 117, 118, 123, 124, 125, 126, 127, 128, 129, 130, 131, 132, 133, 134, 135, 136, 137, 138, 139, 140, 141, 142, 143, 144, 145, 146, 147, 148, 149, 150] (by decide +kernel) (by decide +kernel)
set_option maxRecDepth 20000 in
theorem gX7_sure_X7_tryAllCauses : GoodIn wsX7_sure (wsV RX7 265 RX7 yX7_tryAllCauses wsX7_tryAllCauses) := goodIn_app (goodIn_of _ (by decide +kernel)) ggX7_sure_X7_tryAllCauses
set_option maxRecDepth 20000 in
theorem ggX7_sure_X0_onlyValueOf : GoodIn wsX7_sure wsX0_onlyValueOf := goodIn_r _ [122, 24, 23, 136, 137, 138] (by decide +kernel) (by decide +kernel)
set_option maxRecDepth 20000 in
theorem gX7_sure_X0_onlyValueOf : GoodIn wsX7_sure (wsV RX7 277 RX0 yX0_onlyValueOf wsX0_onlyValueOf) := goodIn_app (goodIn_of _ (by decide +kernel)) ggX7_sure_X0_onlyValueOf
theorem dX7_sure_0 : decode cX7_sure 0 = .ok (.aload_n 0, 1) := by decide +kernel
theorem dX7_sure_1 : decode cX7_sure 1 = .ok (.iload_n 1, 1) := by decide +kernel
theorem dX7_sure_2 : decode cX7_sure 2 = .ok (.invokevirtual 87, 3) := by decide +kernel
theorem dX7_sure_5 : decode cX7_sure 5 = .ok (.ifCond .eq 12, 3) := by decide +kernel
theorem dX7_sure_8 : decode cX7_sure 8 = .ok (.iload_n 2, 1) := by decide +kernel
theorem dX7_sure_9 : decode cX7_sure 9 = .ok (.iconst 0, 1) := by decide +kernel
theorem dX7_sure_10 : decode cX7_sure 10 = .ok (.iconst 3, 1) := by decide +kernel
theorem dX7_sure_11 : decode cX7_sure 11 = .ok (.invokestatic 95, 3) := by decide +kernel
theorem dX7_sure_14 : decode cX7_sure 14 = .ok (.ifCond .ne 5, 3) := by decide +kernel
theorem dX7_sure_17 : decode cX7_sure 17 = .ok (.iconst (-1), 1) := by decide +kernel
theorem dX7_sure_18 : decode cX7_sure 18 = .ok (.ireturn, 1) := by decide +kernel
theorem dX7_sure_19 : decode cX7_sure 19 = .ok (.aload_n 0, 1) := by decide +kernel
theorem dX7_sure_20 : decode cX7_sure 20 = .ok (.iload_n 1, 1) := by decide +kernel
theorem dX7_sure_21 : decode cX7_sure 21 = .ok (.invokevirtual 265, 3) := by decide +kernel
theorem dX7_sure_24 : decode cX7_sure 24 = .ok (.aload_n 0, 1) := by decide +kernel
theorem dX7_sure_25 : decode cX7_sure 25 = .ok (.getfield 62, 3) := by decide +kernel
theorem dX7_sure_28 : decode cX7_sure 28 = .ok (.iload_n 2, 1) := by decide +kernel
theorem dX7_sure_29 : decode cX7_sure 29 = .ok (.invokevirtual 277, 3) := by decide +kernel
theorem dX7_sure_32 : decode cX7_sure 32 = .ok (.ireturn, 1) := by decide +kernel
theorem dX7_count_0 : decode cX7_count 0 = .ok (.iload_n 1, 1) := by decide +kernel
theorem dX7_count_1 : decode cX7_count 1 = .ok (.tableswitch 99 0 7 #[47, 52, 60, 68, 76, 81, 86, 91], 47) := by decide +kernel
theorem dX7_count_48 : decode cX7_count 48 = .ok (.aload_n 0, 1) := by decide +kernel
theorem dX7_count_49 : decode cX7_count 49 = .ok (.getfield 15, 3) := by decide +kernel
theorem dX7_count_52 : decode cX7_count 52 = .ok (.ireturn, 1) := by decide +kernel
theorem dX7_count_53 : decode cX7_count 53 = .ok (.aload_n 0, 1) := by decide +kernel
theorem dX7_count_54 : decode cX7_count 54 = .ok (.getfield 34, 3) := by decide +kernel
theorem dX7_count_57 : decode cX7_count 57 = .ok (.getfield 160, 3) := by decide +kernel
theorem dX7_count_60 : decode cX7_count 60 = .ok (.ireturn, 1) := by decide +kernel
theorem dX7_count_61 : decode cX7_count 61 = .ok (.aload_n 0, 1) := by decide +kernel
theorem dX7_count_62 : decode cX7_count 62 = .ok (.getfield 41, 3) := by decide +kernel
theorem dX7_count_65 : decode cX7_count 65 = .ok (.getfield 280, 3) := by decide +kernel
theorem dX7_count_68 : decode cX7_count 68 = .ok (.ireturn, 1) := by decide +kernel
theorem dX7_count_69 : decode cX7_count 69 = .ok (.aload_n 0, 1) := by decide +kernel
theorem dX7_count_70 : decode cX7_count 70 = .ok (.getfield 55, 3) := by decide +kernel
theorem dX7_count_73 : decode cX7_count 73 = .ok (.getfield 250, 3) := by decide +kernel
theorem dX7_count_76 : decode cX7_count 76 = .ok (.ireturn, 1) := by decide +kernel
theorem dX7_count_77 : decode cX7_count 77 = .ok (.aload_n 0, 1) := by decide +kernel
theorem dX7_count_78 : decode cX7_count 78 = .ok (.getfield 66, 3) := by decide +kernel
theorem dX7_count_81 : decode cX7_count 81 = .ok (.ireturn, 1) := by decide +kernel
theorem dX7_count_82 : decode cX7_count 82 = .ok (.aload_n 0, 1) := by decide +kernel
theorem dX7_count_83 : decode cX7_count 83 = .ok (.getfield 69, 3) := by decide +kernel
theorem dX7_count_86 : decode cX7_count 86 = .ok (.ireturn, 1) := by decide +kernel
theorem dX7_count_87 : decode cX7_count 87 = .ok (.aload_n 0, 1) := by decide +kernel
theorem dX7_count_88 : decode cX7_count 88 = .ok (.getfield 72, 3) := by decide +kernel
theorem dX7_count_91 : decode cX7_count 91 = .ok (.ireturn, 1) := by decide +kernel
theorem dX7_count_92 : decode cX7_count 92 = .ok (.aload_n 0, 1) := by decide +kernel
theorem dX7_count_93 : decode cX7_count 93 = .ok (.getfield 41, 3) := by decide +kernel
theorem dX7_count_96 : decode cX7_count 96 = .ok (.getfield 202, 3) := by decide +kernel
theorem dX7_count_99 : decode cX7_count 99 = .ok (.ireturn, 1) := by decide +kernel
theorem dX7_count_100 : decode cX7_count 100 = .ok (.iconst (-1), 1) := by decide +kernel
theorem dX7_count_101 : decode cX7_count 101 = .ok (.ireturn, 1) := by decide +kernel
theorem dX7_trace_0 : decode cX7_trace 0 = .ok (.aload_n 0, 1) := by decide +kernel
theorem dX7_trace_1 : decode cX7_trace 1 = .ok (.getfield 75, 3) := by decide +kernel
theorem dX7_trace_4 : decode cX7_trace 4 = .ok (.lreturn, 1) := by decide +kernel
theorem dX7_within_0 : decode cX7_within 0 = .ok (.iload_n 0, 1) := by decide +kernel
theorem dX7_within_1 : decode cX7_within 1 = .ok (.iload_n 1, 1) := by decide +kernel
theorem dX7_within_2 : decode cX7_within 2 = .ok (.if_icmp .lt 12, 3) := by decide +kernel
theorem dX7_within_5 : decode cX7_within 5 = .ok (.iload_n 0, 1) := by decide +kernel
theorem dX7_within_6 : decode cX7_within 6 = .ok (.iload_n 2, 1) := by decide +kernel
theorem dX7_within_7 : decode cX7_within 7 = .ok (.if_icmp .gt 7, 3) := by decide +kernel
theorem dX7_within_10 : decode cX7_within 10 = .ok (.iconst 1, 1) := by decide +kernel
theorem dX7_within_11 : decode cX7_within 11 = .ok (.goto 4, 3) := by decide +kernel
theorem dX7_within_14 : decode cX7_within 14 = .ok (.iconst 0, 1) := by decide +kernel
theorem dX7_within_15 : decode cX7_within 15 = .ok (.ireturn, 1) := by decide +kernel
set_option maxRecDepth 20000 in
theorem ggX7_canBe_X7_within : GoodIn wsX7_canBe wsX7_within := goodIn_r _ [6] (by decide +kernel) (by decide +kernel)
set_option maxRecDepth 20000 in
theorem gX7_canBe_X7_within : GoodIn wsX7_canBe (va_wsS RX7 95 yX7_within wsX7_within) := goodIn_app (goodIn_of _ (by decide +kernel)) ggX7_canBe_X7_within
theorem dX7_canBe_0 : decode cX7_canBe 0 = .ok (.iload_n 0, 1) := by decide +kernel
theorem dX7_canBe_1 : decode cX7_canBe 1 = .ok (.iconst 0, 1) := by decide +kernel
theorem dX7_canBe_2 : decode cX7_canBe 2 = .ok (.bipush 12, 2) := by decide +kernel
theorem dX7_canBe_4 : decode cX7_canBe 4 = .ok (.invokestatic 95, 3) := by decide +kernel
theorem dX7_canBe_7 : decode cX7_canBe 7 = .ok (.ifCond .eq 24, 3) := by decide +kernel
theorem dX7_canBe_10 : decode cX7_canBe 10 = .ok (.iload_n 1, 1) := by decide +kernel
theorem dX7_canBe_11 : decode cX7_canBe 11 = .ok (.getstatic 283, 3) := by decide +kernel
theorem dX7_canBe_14 : decode cX7_canBe 14 = .ok (.iload_n 0, 1) := by decide +kernel
theorem dX7_canBe_15 : decode cX7_canBe 15 = .ok (.iaload, 1) := by decide +kernel
theorem dX7_canBe_16 : decode cX7_canBe 16 = .ok (.getstatic 149, 3) := by decide +kernel
theorem dX7_canBe_19 : decode cX7_canBe 19 = .ok (.iload_n 0, 1) := by decide +kernel
theorem dX7_canBe_20 : decode cX7_canBe 20 = .ok (.iaload, 1) := by decide +kernel
theorem dX7_canBe_21 : decode cX7_canBe 21 = .ok (.invokestatic 95, 3) := by decide +kernel
theorem dX7_canBe_24 : decode cX7_canBe 24 = .ok (.ifCond .eq 7, 3) := by decide +kernel
theorem dX7_canBe_27 : decode cX7_canBe 27 = .ok (.iconst 1, 1) := by decide +kernel
theorem dX7_canBe_28 : decode cX7_canBe 28 = .ok (.goto 4, 3) := by decide +kernel
theorem dX7_canBe_31 : decode cX7_canBe 31 = .ok (.iconst 0, 1) := by decide +kernel
theorem dX7_canBe_32 : decode cX7_canBe 32 = .ok (.ireturn, 1) := by decide +kernel
set_option maxRecDepth 20000 in
theorem ggX7_isMonth_X7_within : GoodIn wsX7_isMonth wsX7_within := goodIn_r _ [4] (by decide +kernel) (by decide +kernel)
set_option maxRecDepth 20000 in
theorem gX7_isMonth_X7_within : GoodIn wsX7_isMonth (va_wsS RX7 95 yX7_within wsX7_within) := goodIn_app (goodIn_of _ (by decide +kernel)) ggX7_isMonth_X7_within
theorem dX7_isMonth_0 : decode cX7_isMonth 0 = .ok (.iload_n 0, 1) := by decide +kernel
theorem dX7_isMonth_1 : decode cX7_isMonth 1 = .ok (.iconst 0, 1) := by decide +kernel
theorem dX7_isMonth_2 : decode cX7_isMonth 2 = .ok (.bipush 11, 2) := by decide +kernel
theorem dX7_isMonth_4 : decode cX7_isMonth 4 = .ok (.invokestatic 95, 3) := by decide +kernel
theorem dX7_isMonth_7 : decode cX7_isMonth 7 = .ok (.ireturn, 1) := by decide +kernel
set_option maxRecDepth 20000 in
theorem ggX7_isReadable_X7_within : GoodIn wsX7_isReadable wsX7_within := goodIn_r _ [5] (by decide +kernel) (by decide +kernel)
set_option maxRecDepth 20000 in
theorem gX7_isReadable_X7_within : GoodIn wsX7_isReadable (va_wsS RX7 95 yX7_within wsX7_within) := goodIn_app (goodIn_of _ (by decide +kernel)) ggX7_isReadable_X7_within
theorem dX7_isReadable_0 : decode cX7_isReadable 0 = .ok (.iload_n 0, 1) := by decide +kernel
theorem dX7_isReadable_1 : decode cX7_isReadable 1 = .ok (.bipush (-9), 2) := by decide +kernel
theorem dX7_isReadable_3 : decode cX7_isReadable 3 = .ok (.if_icmp .eq 13, 3) := by decide +kernel
theorem dX7_isReadable_6 : decode cX7_isReadable 6 = .ok (.iload_n 0, 1) := by decide +kernel
theorem dX7_isReadable_7 : decode cX7_isReadable 7 = .ok (.iconst 0, 1) := by decide +kernel
theorem dX7_isReadable_8 : decode cX7_isReadable 8 = .ok (.ldc 141, 2) := by decide +kernel
theorem dX7_isReadable_10 : decode cX7_isReadable 10 = .ok (.invokestatic 95, 3) := by decide +kernel
theorem dX7_isReadable_13 : decode cX7_isReadable 13 = .ok (.ifCond .eq 7, 3) := by decide +kernel
theorem dX7_isReadable_16 : decode cX7_isReadable 16 = .ok (.iconst 1, 1) := by decide +kernel
theorem dX7_isReadable_17 : decode cX7_isReadable 17 = .ok (.goto 4, 3) := by decide +kernel
theorem dX7_isReadable_20 : decode cX7_isReadable 20 = .ok (.iconst 0, 1) := by decide +kernel
theorem dX7_isReadable_21 : decode cX7_isReadable 21 = .ok (.ireturn, 1) := by decide +kernel
set_option maxRecDepth 20000 in
theorem ggX7_isRam_X7_within : GoodIn wsX7_isRam wsX7_within := goodIn_r _ [5] (by decide +kernel) (by decide +kernel)
set_option maxRecDepth 20000 in
theorem gX7_isRam_X7_within : GoodIn wsX7_isRam (va_wsS RX7 95 yX7_within wsX7_within) := goodIn_app (goodIn_of _ (by decide +kernel)) ggX7_isRam_X7_within
theorem dX7_isRam_0 : decode cX7_isRam 0 = .ok (.iload_n 1, 1) := by decide +kernel
theorem dX7_isRam_1 : decode cX7_isRam 1 = .ok (.iconst 0, 1) := by decide +kernel
theorem dX7_isRam_2 : decode cX7_isRam 2 = .ok (.aload_n 0, 1) := by decide +kernel
theorem dX7_isRam_3 : decode cX7_isRam 3 = .ok (.getfield 15, 3) := by decide +kernel
theorem dX7_isRam_6 : decode cX7_isRam 6 = .ok (.iconst 1, 1) := by decide +kernel
theorem dX7_isRam_7 : decode cX7_isRam 7 = .ok (.isub, 1) := by decide +kernel
theorem dX7_isRam_8 : decode cX7_isRam 8 = .ok (.invokestatic 95, 3) := by decide +kernel
theorem dX7_isRam_11 : decode cX7_isRam 11 = .ok (.ireturn, 1) := by decide +kernel
theorem dX7_advantage_0 : decode cX7_advantage 0 = .ok (.iload_n 0, 1) := by decide +kernel
theorem dX7_advantage_1 : decode cX7_advantage 1 = .ok (.ifCond .ne 10, 3) := by decide +kernel
theorem dX7_advantage_4 : decode cX7_advantage 4 = .ok (.iload_n 1, 1) := by decide +kernel
theorem dX7_advantage_5 : decode cX7_advantage 5 = .ok (.iload_n 3, 1) := by decide +kernel
theorem dX7_advantage_6 : decode cX7_advantage 6 = .ok (.isub, 1) := by decide +kernel
theorem dX7_advantage_7 : decode cX7_advantage 7 = .ok (.i2l, 1) := by decide +kernel
theorem dX7_advantage_8 : decode cX7_advantage 8 = .ok (.goto 15, 3) := by decide +kernel
theorem dX7_advantage_11 : decode cX7_advantage 11 = .ok (.iload 4, 2) := by decide +kernel
theorem dX7_advantage_13 : decode cX7_advantage 13 = .ok (.i2l, 1) := by decide +kernel
theorem dX7_advantage_14 : decode cX7_advantage 14 = .ok (.iload_n 1, 1) := by decide +kernel
theorem dX7_advantage_15 : decode cX7_advantage 15 = .ok (.i2l, 1) := by decide +kernel
theorem dX7_advantage_16 : decode cX7_advantage 16 = .ok (.lmul, 1) := by decide +kernel
theorem dX7_advantage_17 : decode cX7_advantage 17 = .ok (.iload_n 2, 1) := by decide +kernel
theorem dX7_advantage_18 : decode cX7_advantage 18 = .ok (.i2l, 1) := by decide +kernel
theorem dX7_advantage_19 : decode cX7_advantage 19 = .ok (.iload_n 3, 1) := by decide +kernel
theorem dX7_advantage_20 : decode cX7_advantage 20 = .ok (.i2l, 1) := by decide +kernel
theorem dX7_advantage_21 : decode cX7_advantage 21 = .ok (.lmul, 1) := by decide +kernel
theorem dX7_advantage_22 : decode cX7_advantage 22 = .ok (.lsub, 1) := by decide +kernel
theorem dX7_advantage_23 : decode cX7_advantage 23 = .ok (.lreturn, 1) := by decide +kernel
set_option maxRecDepth 20000 in
theorem ggX7_runRams_X1_trait : GoodIn wsX7_runRams wsX1_trait := goodIn_r _ [12, 13, 14, 15, 16, 117, 118, 119, 120, 121, 122] (by decide +kernel) (by decide +kernel)
set_option maxRecDepth 20000 in
theorem gX7_runRams_X1_trait : GoodIn wsX7_runRams (wsV RX7 91 RX1 yX1_trait wsX1_trait) := goodIn_app (goodIn_of _ (by decide +kernel)) ggX7_runRams_X1_trait
set_option maxRecDepth 20000 in
theorem ggX7_runRams_X4_stop : GoodIn wsX7_runRams wsX4_stop := goodIn_r _ [21, 22, 23, 24, 25, 9, 10, 11, 12, 13, 14, 15, 16, 113, 114, 115, 116, 117, 118, 119, 120, 121, 122] (by decide +kernel) (by decide +kernel)
set_option maxRecDepth 20000 in
theorem gX7_runRams_X4_stop : GoodIn wsX7_runRams (wsV RX7 286 RX4 yX4_stop wsX4_stop) := goodIn_app (goodIn_of _ (by decide +kernel)) ggX7_runRams_X4_stop
set_option maxRecDepth 20000 in
theorem ggX7_runRams_X1_upAnHour : GoodIn wsX7_runRams wsX1_upAnHour := goodIn_r _ [29, 30, 31, 32, 11, 33, 34, 35, 36, 37, 38, 39, 40, 41, 42, 43, 44, 45, 46, 13, 47, 48, 49, 50, 51, 52, 53, 54, 55, 56, 57, 58, 59, 60, 61, 62, 63, 64, 65, 66, 67, 68, 69, 117, 118, 119, 120, 121, 122] (by decide +kernel) (by decide +kernel)
set_option maxRecDepth 20000 in
theorem gX7_runRams_X1_upAnHour : GoodIn wsX7_runRams (wsV RX7 132 RX1 yX1_upAnHour wsX1_upAnHour) := goodIn_app (goodIn_of _ (by decide +kernel)) ggX7_runRams_X1_upAnHour
set_option maxRecDepth 20000 in
theorem ggX7_runRams_X1_wasteAnHour : GoodIn wsX7_runRams wsX1_wasteAnHour := goodIn_r _ [73, 13, 46, 35, 36, 37, 11, 38, 39, 40, 41, 42, 43, 44, 45, 47, 48, 49, 50, 30, 31, 32, 33, 34, 51, 52, 53, 54, 117, 118, 119, 120, 121, 122] (by decide +kernel) (by decide +kernel)
set_option maxRecDepth 20000 in
theorem gX7_runRams_X1_wasteAnHour : GoodIn wsX7_runRams (wsV RX7 129 RX1 yX1_wasteAnHour wsX1_wasteAnHour) := goodIn_app (goodIn_of _ (by decide +kernel)) ggX7_runRams_X1_wasteAnHour
set_option maxRecDepth 20000 in
theorem ggX7_runRams_X5_receive : GoodIn wsX7_runRams wsX5_receive := goodIn_r _ [78, 79, 80, 81, 123, 124, 125, 126, 127, 128, 129, 130] (by decide +kernel) (by decide +kernel)
set_option maxRecDepth 20000 in
theorem gX7_runRams_X5_receive : GoodIn wsX7_runRams (wsV RX7 290 RX5 yX5_receive wsX5_receive) := goodIn_app (goodIn_of _ (by decide +kernel)) ggX7_runRams_X5_receive
set_option maxRecDepth 20000 in
theorem ggX7_runRams_X1_loseAir : GoodIn wsX7_runRams wsX1_loseAir := goodIn_r _ [85, 13, 86, 87, 68, 88, 66, 67, 69, 35, 36, 37, 11, 38, 39, 40, 41, 42, 43, 44, 45, 46, 47, 48, 49, 50, 89, 90, 91, 92, 14, 15, 16, 117, 118, 119, 120, 121, 122] (by decide +kernel) (by decide +kernel)
set_option maxRecDepth 20000 in
theorem gX7_runRams_X1_loseAir : GoodIn wsX7_runRams (wsV RX7 293 RX1 yX1_loseAir wsX1_loseAir) := goodIn_app (goodIn_of _ (by decide +kernel)) ggX7_runRams_X1_loseAir
set_option maxRecDepth 20000 in
theorem ggX7_runRams_X5_spillOver : GoodIn wsX7_runRams wsX5_spillOver := goodIn_r _ [96, 79, 97, 98, 87, 68, 88, 99, 123, 124, 125, 126, 127, 128, 129, 130] (by decide +kernel) (by decide +kernel)
set_option maxRecDepth 20000 in
theorem gX7_runRams_X5_spillOver : GoodIn wsX7_runRams (wsV RX7 296 RX5 yX5_spillOver wsX5_spillOver) := goodIn_app (goodIn_of _ (by decide +kernel)) ggX7_runRams_X5_spillOver
theorem dX7_runRams_0 : decode cX7_runRams 0 = .ok (.aload_n 0, 1) := by decide +kernel
theorem dX7_runRams_1 : decode cX7_runRams 1 = .ok (.getfield 27, 3) := by decide +kernel
theorem dX7_runRams_4 : decode cX7_runRams 4 = .ok (.getfield 142, 3) := by decide +kernel
theorem dX7_runRams_7 : decode cX7_runRams 7 = .ok (.aload_n 0, 1) := by decide +kernel
theorem dX7_runRams_8 : decode cX7_runRams 8 = .ok (.getfield 66, 3) := by decide +kernel
theorem dX7_runRams_11 : decode cX7_runRams 11 = .ok (.iaload, 1) := by decide +kernel
theorem dX7_runRams_12 : decode cX7_runRams 12 = .ok (.istore_n 1, 1) := by decide +kernel
theorem dX7_runRams_13 : decode cX7_runRams 13 = .ok (.iconst 0, 1) := by decide +kernel
theorem dX7_runRams_14 : decode cX7_runRams 14 = .ok (.istore_n 2, 1) := by decide +kernel
theorem dX7_runRams_15 : decode cX7_runRams 15 = .ok (.iload_n 2, 1) := by decide +kernel
theorem dX7_runRams_16 : decode cX7_runRams 16 = .ok (.aload_n 0, 1) := by decide +kernel
theorem dX7_runRams_17 : decode cX7_runRams 17 = .ok (.getfield 15, 3) := by decide +kernel
theorem dX7_runRams_20 : decode cX7_runRams 20 = .ok (.if_icmp .ge 94, 3) := by decide +kernel
theorem dX7_runRams_23 : decode cX7_runRams 23 = .ok (.aload_n 0, 1) := by decide +kernel
theorem dX7_runRams_24 : decode cX7_runRams 24 = .ok (.getfield 11, 3) := by decide +kernel
theorem dX7_runRams_27 : decode cX7_runRams 27 = .ok (.iload_n 2, 1) := by decide +kernel
theorem dX7_runRams_28 : decode cX7_runRams 28 = .ok (.aaload, 1) := by decide +kernel
theorem dX7_runRams_29 : decode cX7_runRams 29 = .ok (.astore_n 3, 1) := by decide +kernel
theorem dX7_runRams_30 : decode cX7_runRams 30 = .ok (.aload_n 3, 1) := by decide +kernel
theorem dX7_runRams_31 : decode cX7_runRams 31 = .ok (.bipush 12, 2) := by decide +kernel
theorem dX7_runRams_33 : decode cX7_runRams 33 = .ok (.invokevirtual 91, 3) := by decide +kernel
theorem dX7_runRams_36 : decode cX7_runRams 36 = .ok (.ifCond .eq 72, 3) := by decide +kernel
theorem dX7_runRams_39 : decode cX7_runRams 39 = .ok (.aload_n 0, 1) := by decide +kernel
theorem dX7_runRams_40 : decode cX7_runRams 40 = .ok (.getfield 27, 3) := by decide +kernel
theorem dX7_runRams_43 : decode cX7_runRams 43 = .ok (.aload_n 3, 1) := by decide +kernel
theorem dX7_runRams_44 : decode cX7_runRams 44 = .ok (.aload_n 0, 1) := by decide +kernel
theorem dX7_runRams_45 : decode cX7_runRams 45 = .ok (.getfield 66, 3) := by decide +kernel
theorem dX7_runRams_48 : decode cX7_runRams 48 = .ok (.aload_n 0, 1) := by decide +kernel
theorem dX7_runRams_49 : decode cX7_runRams 49 = .ok (.getfield 72, 3) := by decide +kernel
theorem dX7_runRams_52 : decode cX7_runRams 52 = .ok (.invokevirtual 286, 3) := by decide +kernel
theorem dX7_runRams_55 : decode cX7_runRams 55 = .ok (.ifCond .eq 6, 3) := by decide +kernel
theorem dX7_runRams_58 : decode cX7_runRams 58 = .ok (.goto 50, 3) := by decide +kernel
theorem dX7_runRams_61 : decode cX7_runRams 61 = .ok (.aload_n 3, 1) := by decide +kernel
theorem dX7_runRams_62 : decode cX7_runRams 62 = .ok (.invokevirtual 132, 3) := by decide +kernel
theorem dX7_runRams_65 : decode cX7_runRams 65 = .ok (.istore 4, 2) := by decide +kernel
theorem dX7_runRams_67 : decode cX7_runRams 67 = .ok (.aload_n 3, 1) := by decide +kernel
theorem dX7_runRams_68 : decode cX7_runRams 68 = .ok (.invokevirtual 129, 3) := by decide +kernel
theorem dX7_runRams_71 : decode cX7_runRams 71 = .ok (.istore 5, 2) := by decide +kernel
theorem dX7_runRams_73 : decode cX7_runRams 73 = .ok (.iload 4, 2) := by decide +kernel
theorem dX7_runRams_75 : decode cX7_runRams 75 = .ok (.iload 5, 2) := by decide +kernel
theorem dX7_runRams_77 : decode cX7_runRams 77 = .ok (.iadd, 1) := by decide +kernel
theorem dX7_runRams_78 : decode cX7_runRams 78 = .ok (.iload_n 1, 1) := by decide +kernel
theorem dX7_runRams_79 : decode cX7_runRams 79 = .ok (.if_icmp .le 6, 3) := by decide +kernel
theorem dX7_runRams_82 : decode cX7_runRams 82 = .ok (.goto 26, 3) := by decide +kernel
theorem dX7_runRams_85 : decode cX7_runRams 85 = .ok (.iload_n 1, 1) := by decide +kernel
theorem dX7_runRams_86 : decode cX7_runRams 86 = .ok (.iload 4, 2) := by decide +kernel
theorem dX7_runRams_88 : decode cX7_runRams 88 = .ok (.iload 5, 2) := by decide +kernel
theorem dX7_runRams_90 : decode cX7_runRams 90 = .ok (.iadd, 1) := by decide +kernel
theorem dX7_runRams_91 : decode cX7_runRams 91 = .ok (.isub, 1) := by decide +kernel
theorem dX7_runRams_92 : decode cX7_runRams 92 = .ok (.istore_n 1, 1) := by decide +kernel
theorem dX7_runRams_93 : decode cX7_runRams 93 = .ok (.aload_n 0, 1) := by decide +kernel
theorem dX7_runRams_94 : decode cX7_runRams 94 = .ok (.getfield 48, 3) := by decide +kernel
theorem dX7_runRams_97 : decode cX7_runRams 97 = .ok (.iload 4, 2) := by decide +kernel
theorem dX7_runRams_99 : decode cX7_runRams 99 = .ok (.iload 5, 2) := by decide +kernel
theorem dX7_runRams_101 : decode cX7_runRams 101 = .ok (.invokevirtual 290, 3) := by decide +kernel
theorem dX7_runRams_104 : decode cX7_runRams 104 = .ok (.aload_n 3, 1) := by decide +kernel
theorem dX7_runRams_105 : decode cX7_runRams 105 = .ok (.invokevirtual 293, 3) := by decide +kernel
theorem dX7_runRams_108 : decode cX7_runRams 108 = .ok (.iinc 2 1, 3) := by decide +kernel
theorem dX7_runRams_111 : decode cX7_runRams 111 = .ok (.goto (-96), 3) := by decide +kernel
theorem dX7_runRams_114 : decode cX7_runRams 114 = .ok (.aload_n 0, 1) := by decide +kernel
theorem dX7_runRams_115 : decode cX7_runRams 115 = .ok (.getfield 48, 3) := by decide +kernel
theorem dX7_runRams_118 : decode cX7_runRams 118 = .ok (.invokevirtual 296, 3) := by decide +kernel
theorem dX7_runRams_121 : decode cX7_runRams 121 = .ok (.return_, 1) := by decide +kernel
theorem dX7_goToNextHour_0 : decode cX7_goToNextHour 0 = .ok (.aload_n 0, 1) := by decide +kernel
theorem dX7_goToNextHour_1 : decode cX7_goToNextHour 1 = .ok (.dup, 1) := by decide +kernel
theorem dX7_goToNextHour_2 : decode cX7_goToNextHour 2 = .ok (.getfield 72, 3) := by decide +kernel
theorem dX7_goToNextHour_5 : decode cX7_goToNextHour 5 = .ok (.iconst 1, 1) := by decide +kernel
theorem dX7_goToNextHour_6 : decode cX7_goToNextHour 6 = .ok (.iadd, 1) := by decide +kernel
theorem dX7_goToNextHour_7 : decode cX7_goToNextHour 7 = .ok (.putfield 72, 3) := by decide +kernel
theorem dX7_goToNextHour_10 : decode cX7_goToNextHour 10 = .ok (.aload_n 0, 1) := by decide +kernel
theorem dX7_goToNextHour_11 : decode cX7_goToNextHour 11 = .ok (.getfield 72, 3) := by decide +kernel
theorem dX7_goToNextHour_14 : decode cX7_goToNextHour 14 = .ok (.bipush 24, 2) := by decide +kernel
theorem dX7_goToNextHour_16 : decode cX7_goToNextHour 16 = .ok (.if_icmp .ne 18, 3) := by decide +kernel
theorem dX7_goToNextHour_19 : decode cX7_goToNextHour 19 = .ok (.aload_n 0, 1) := by decide +kernel
theorem dX7_goToNextHour_20 : decode cX7_goToNextHour 20 = .ok (.iconst 0, 1) := by decide +kernel
theorem dX7_goToNextHour_21 : decode cX7_goToNextHour 21 = .ok (.putfield 72, 3) := by decide +kernel
theorem dX7_goToNextHour_24 : decode cX7_goToNextHour 24 = .ok (.aload_n 0, 1) := by decide +kernel
theorem dX7_goToNextHour_25 : decode cX7_goToNextHour 25 = .ok (.dup, 1) := by decide +kernel
theorem dX7_goToNextHour_26 : decode cX7_goToNextHour 26 = .ok (.getfield 69, 3) := by decide +kernel
theorem dX7_goToNextHour_29 : decode cX7_goToNextHour 29 = .ok (.iconst 1, 1) := by decide +kernel
theorem dX7_goToNextHour_30 : decode cX7_goToNextHour 30 = .ok (.iadd, 1) := by decide +kernel
theorem dX7_goToNextHour_31 : decode cX7_goToNextHour 31 = .ok (.putfield 69, 3) := by decide +kernel
theorem dX7_goToNextHour_34 : decode cX7_goToNextHour 34 = .ok (.aload_n 0, 1) := by decide +kernel
theorem dX7_goToNextHour_35 : decode cX7_goToNextHour 35 = .ok (.getfield 69, 3) := by decide +kernel
theorem dX7_goToNextHour_38 : decode cX7_goToNextHour 38 = .ok (.bipush 30, 2) := by decide +kernel
theorem dX7_goToNextHour_40 : decode cX7_goToNextHour 40 = .ok (.if_icmp .ne 21, 3) := by decide +kernel
theorem dX7_goToNextHour_43 : decode cX7_goToNextHour 43 = .ok (.aload_n 0, 1) := by decide +kernel
theorem dX7_goToNextHour_44 : decode cX7_goToNextHour 44 = .ok (.iconst 0, 1) := by decide +kernel
theorem dX7_goToNextHour_45 : decode cX7_goToNextHour 45 = .ok (.putfield 69, 3) := by decide +kernel
theorem dX7_goToNextHour_48 : decode cX7_goToNextHour 48 = .ok (.aload_n 0, 1) := by decide +kernel
theorem dX7_goToNextHour_49 : decode cX7_goToNextHour 49 = .ok (.aload_n 0, 1) := by decide +kernel
theorem dX7_goToNextHour_50 : decode cX7_goToNextHour 50 = .ok (.getfield 66, 3) := by decide +kernel
theorem dX7_goToNextHour_53 : decode cX7_goToNextHour 53 = .ok (.iconst 1, 1) := by decide +kernel
theorem dX7_goToNextHour_54 : decode cX7_goToNextHour 54 = .ok (.iadd, 1) := by decide +kernel
theorem dX7_goToNextHour_55 : decode cX7_goToNextHour 55 = .ok (.bipush 12, 2) := by decide +kernel
theorem dX7_goToNextHour_57 : decode cX7_goToNextHour 57 = .ok (.irem, 1) := by decide +kernel
theorem dX7_goToNextHour_58 : decode cX7_goToNextHour 58 = .ok (.putfield 66, 3) := by decide +kernel
theorem dX7_goToNextHour_61 : decode cX7_goToNextHour 61 = .ok (.return_, 1) := by decide +kernel
set_option maxRecDepth 20000 in
theorem ggX7_tryAllCauses_X0_begin : GoodIn wsX7_tryAllCauses wsX0_begin := goodIn_r _ [9, 10, 11, 12, 13, 14, 15, 16, 122, 123, 124] (by decide +kernel) (by decide +kernel)
set_option maxRecDepth 20000 in
theorem gX7_tryAllCauses_X0_begin : GoodIn wsX7_tryAllCauses (wsV RX7 299 RX0 yX0_begin wsX0_begin) := goodIn_app (goodIn_of _ (by decide +kernel)) ggX7_tryAllCauses_X0_begin
set_option maxRecDepth 20000 in
theorem ggX7_tryAllCauses_X1_becomeLike : GoodIn wsX7_tryAllCauses wsX1_becomeLike := goodIn_r _ [21, 22, 23, 24, 25, 26, 27, 125, 126, 127, 128, 129, 130] (by decide +kernel) (by decide +kernel)
set_option maxRecDepth 20000 in
theorem gX7_tryAllCauses_X1_becomeLike : GoodIn wsX7_tryAllCauses (wsV RX7 145 RX1 yX1_becomeLike wsX1_becomeLike) := goodIn_app (goodIn_of _ (by decide +kernel)) ggX7_tryAllCauses_X1_becomeLike
set_option maxRecDepth 20000 in
theorem ggX7_tryAllCauses_X1_suffer : GoodIn wsX7_tryAllCauses wsX1_suffer := goodIn_r _ [31, 32, 33, 34, 20, 35, 22, 27, 36, 37, 38, 125, 126, 127, 128, 129, 130] (by decide +kernel) (by decide +kernel)
set_option maxRecDepth 20000 in
theorem gX7_tryAllCauses_X1_suffer : GoodIn wsX7_tryAllCauses (wsV RX7 257 RX1 yX1_suffer wsX1_suffer) := goodIn_app (goodIn_of _ (by decide +kernel)) ggX7_tryAllCauses_X1_suffer
set_option maxRecDepth 20000 in
theorem ggX7_tryAllCauses_X2_agreeWith : GoodIn wsX7_tryAllCauses wsX2_agreeWith := goodIn_r _ [43, 44, 45, 46, 47, 48, 20, 49, 50, 51, 52, 53, 54, 55, 56, 57, 58, 59, 27, 60, 61, 22, 62, 63, 64, 65, 66, 67, 68, 69, 70, 71, 72, 73, 74, 75, 76, 77, 78, 79, 80, 81, 82, 83, 84, 85, 86, 87, 88, 89, 90, 91, 92, 42, 93, 94, 95, 96, 97, 98, 99, 100, 101, 102, 103, 104, 131, 132, 133, 134, 135, 136, 125, 126, 127, 128, 129, 130] (by decide +kernel) (by decide +kernel)
set_option maxRecDepth 20000 in
theorem gX7_tryAllCauses_X2_agreeWith : GoodIn wsX7_tryAllCauses (wsV RX7 261 RX2 yX2_agreeWith wsX2_agreeWith) := goodIn_app (goodIn_of _ (by decide +kernel)) ggX7_tryAllCauses_X2_agreeWith
set_option maxRecDepth 20000 in
theorem ggX7_tryAllCauses_X0_admit : GoodIn wsX7_tryAllCauses wsX0_admit := goodIn_r _ [108, 11, 12, 10, 122, 123, 124] (by decide +kernel) (by decide +kernel)
set_option maxRecDepth 20000 in
theorem gX7_tryAllCauses_X0_admit : GoodIn wsX7_tryAllCauses (wsV RX7 302 RX0 yX0_admit wsX0_admit) := goodIn_app (goodIn_of _ (by decide +kernel)) ggX7_tryAllCauses_X0_admit
theorem dX7_tryAllCauses_0 : decode cX7_tryAllCauses 0 = .ok (.aload_n 0, 1) := by decide +kernel
theorem dX7_tryAllCauses_1 : decode cX7_tryAllCauses 1 = .ok (.getfield 62, 3) := by decide +kernel
theorem dX7_tryAllCauses_4 : decode cX7_tryAllCauses 4 = .ok (.invokevirtual 299, 3) := by decide +kernel
theorem dX7_tryAllCauses_7 : decode cX7_tryAllCauses 7 = .ok (.aload_n 0, 1) := by decide +kernel
theorem dX7_tryAllCauses_8 : decode cX7_tryAllCauses 8 = .ok (.getfield 20, 3) := by decide +kernel
theorem dX7_tryAllCauses_11 : decode cX7_tryAllCauses 11 = .ok (.aload_n 0, 1) := by decide +kernel
theorem dX7_tryAllCauses_12 : decode cX7_tryAllCauses 12 = .ok (.getfield 11, 3) := by decide +kernel
theorem dX7_tryAllCauses_15 : decode cX7_tryAllCauses 15 = .ok (.iload_n 1, 1) := by decide +kernel
theorem dX7_tryAllCauses_16 : decode cX7_tryAllCauses 16 = .ok (.aaload, 1) := by decide +kernel
theorem dX7_tryAllCauses_17 : decode cX7_tryAllCauses 17 = .ok (.invokevirtual 145, 3) := by decide +kernel
theorem dX7_tryAllCauses_20 : decode cX7_tryAllCauses 20 = .ok (.iconst 0, 1) := by decide +kernel
theorem dX7_tryAllCauses_21 : decode cX7_tryAllCauses 21 = .ok (.istore_n 2, 1) := by decide +kernel
theorem dX7_tryAllCauses_22 : decode cX7_tryAllCauses 22 = .ok (.iload_n 2, 1) := by decide +kernel
theorem dX7_tryAllCauses_23 : decode cX7_tryAllCauses 23 = .ok (.bipush 16, 2) := by decide +kernel
theorem dX7_tryAllCauses_25 : decode cX7_tryAllCauses 25 = .ok (.if_icmp .ge 64, 3) := by decide +kernel
theorem dX7_tryAllCauses_28 : decode cX7_tryAllCauses 28 = .ok (.iconst 0, 1) := by decide +kernel
theorem dX7_tryAllCauses_29 : decode cX7_tryAllCauses 29 = .ok (.istore_n 3, 1) := by decide +kernel
theorem dX7_tryAllCauses_30 : decode cX7_tryAllCauses 30 = .ok (.iload_n 3, 1) := by decide +kernel
theorem dX7_tryAllCauses_31 : decode cX7_tryAllCauses 31 = .ok (.bipush 16, 2) := by decide +kernel
theorem dX7_tryAllCauses_33 : decode cX7_tryAllCauses 33 = .ok (.if_icmp .ge 50, 3) := by decide +kernel
theorem dX7_tryAllCauses_36 : decode cX7_tryAllCauses 36 = .ok (.iload_n 2, 1) := by decide +kernel
theorem dX7_tryAllCauses_37 : decode cX7_tryAllCauses 37 = .ok (.bipush 16, 2) := by decide +kernel
theorem dX7_tryAllCauses_39 : decode cX7_tryAllCauses 39 = .ok (.iload_n 3, 1) := by decide +kernel
theorem dX7_tryAllCauses_40 : decode cX7_tryAllCauses 40 = .ok (.imul, 1) := by decide +kernel
theorem dX7_tryAllCauses_41 : decode cX7_tryAllCauses 41 = .ok (.iadd, 1) := by decide +kernel
theorem dX7_tryAllCauses_42 : decode cX7_tryAllCauses 42 = .ok (.istore 4, 2) := by decide +kernel
theorem dX7_tryAllCauses_44 : decode cX7_tryAllCauses 44 = .ok (.aload_n 0, 1) := by decide +kernel
theorem dX7_tryAllCauses_45 : decode cX7_tryAllCauses 45 = .ok (.getfield 20, 3) := by decide +kernel
theorem dX7_tryAllCauses_48 : decode cX7_tryAllCauses 48 = .ok (.iload 4, 2) := by decide +kernel
theorem dX7_tryAllCauses_50 : decode cX7_tryAllCauses 50 = .ok (.invokevirtual 257, 3) := by decide +kernel
theorem dX7_tryAllCauses_53 : decode cX7_tryAllCauses 53 = .ok (.aload_n 0, 1) := by decide +kernel
theorem dX7_tryAllCauses_54 : decode cX7_tryAllCauses 54 = .ok (.getfield 55, 3) := by decide +kernel
theorem dX7_tryAllCauses_57 : decode cX7_tryAllCauses 57 = .ok (.iload_n 1, 1) := by decide +kernel
theorem dX7_tryAllCauses_58 : decode cX7_tryAllCauses 58 = .ok (.aload_n 0, 1) := by decide +kernel
theorem dX7_tryAllCauses_59 : decode cX7_tryAllCauses 59 = .ok (.getfield 20, 3) := by decide +kernel
theorem dX7_tryAllCauses_62 : decode cX7_tryAllCauses 62 = .ok (.invokevirtual 261, 3) := by decide +kernel
theorem dX7_tryAllCauses_65 : decode cX7_tryAllCauses 65 = .ok (.ifCond .eq 12, 3) := by decide +kernel
theorem dX7_tryAllCauses_68 : decode cX7_tryAllCauses 68 = .ok (.aload_n 0, 1) := by decide +kernel
theorem dX7_tryAllCauses_69 : decode cX7_tryAllCauses 69 = .ok (.getfield 62, 3) := by decide +kernel
theorem dX7_tryAllCauses_72 : decode cX7_tryAllCauses 72 = .ok (.iload 4, 2) := by decide +kernel
theorem dX7_tryAllCauses_74 : decode cX7_tryAllCauses 74 = .ok (.invokevirtual 302, 3) := by decide +kernel
theorem dX7_tryAllCauses_77 : decode cX7_tryAllCauses 77 = .ok (.iinc 3 1, 3) := by decide +kernel
theorem dX7_tryAllCauses_80 : decode cX7_tryAllCauses 80 = .ok (.goto (-50), 3) := by decide +kernel
theorem dX7_tryAllCauses_83 : decode cX7_tryAllCauses 83 = .ok (.iinc 2 1, 3) := by decide +kernel
theorem dX7_tryAllCauses_86 : decode cX7_tryAllCauses 86 = .ok (.goto (-64), 3) := by decide +kernel
theorem dX7_tryAllCauses_89 : decode cX7_tryAllCauses 89 = .ok (.return_, 1) := by decide +kernel
end
section
theorem dX8_init_0 : decode cX8_init 0 = .ok (.aload_n 0, 1) := by decide +kernel
theorem dX8_init_1 : decode cX8_init 1 = .ok (.invokespecial 1, 3) := by decide +kernel
theorem dX8_init_4 : decode cX8_init 4 = .ok (.aload_n 0, 1) := by decide +kernel
theorem dX8_init_5 : decode cX8_init 5 = .ok (.bipush 52, 2) := by decide +kernel
theorem dX8_init_7 : decode cX8_init 7 = .ok (.newarray .int, 2) := by decide +kernel
theorem dX8_init_9 : decode cX8_init 9 = .ok (.putfield 7, 3) := by decide +kernel
theorem dX8_init_12 : decode cX8_init 12 = .ok (.aload_n 0, 1) := by decide +kernel
theorem dX8_init_13 : decode cX8_init 13 = .ok (.bipush 13, 2) := by decide +kernel
theorem dX8_init_15 : decode cX8_init 15 = .ok (.newarray .int, 2) := by decide +kernel
theorem dX8_init_17 : decode cX8_init 17 = .ok (.putfield 13, 3) := by decide +kernel
theorem dX8_init_20 : decode cX8_init 20 = .ok (.aload_n 0, 1) := by decide +kernel
theorem dX8_init_21 : decode cX8_init 21 = .ok (.bipush 12, 2) := by decide +kernel
theorem dX8_init_23 : decode cX8_init 23 = .ok (.newarray .int, 2) := by decide +kernel
theorem dX8_init_25 : decode cX8_init 25 = .ok (.putfield 16, 3) := by decide +kernel
theorem dX8_init_28 : decode cX8_init 28 = .ok (.aload_n 0, 1) := by decide +kernel
theorem dX8_init_29 : decode cX8_init 29 = .ok (.bipush 12, 2) := by decide +kernel
theorem dX8_init_31 : decode cX8_init 31 = .ok (.newarray .int, 2) := by decide +kernel
theorem dX8_init_33 : decode cX8_init 33 = .ok (.putfield 19, 3) := by decide +kernel
theorem dX8_init_36 : decode cX8_init 36 = .ok (.aload_n 0, 1) := by decide +kernel
theorem dX8_init_37 : decode cX8_init 37 = .ok (.bipush 6, 2) := by decide +kernel
theorem dX8_init_39 : decode cX8_init 39 = .ok (.newarray .int, 2) := by decide +kernel
theorem dX8_init_41 : decode cX8_init 41 = .ok (.putfield 22, 3) := by decide +kernel
theorem dX8_init_44 : decode cX8_init 44 = .ok (.aload_n 0, 1) := by decide +kernel
theorem dX8_init_45 : decode cX8_init 45 = .ok (.bipush 6, 2) := by decide +kernel
theorem dX8_init_47 : decode cX8_init 47 = .ok (.newarray .int, 2) := by decide +kernel
theorem dX8_init_49 : decode cX8_init 49 = .ok (.putfield 25, 3) := by decide +kernel
theorem dX8_init_52 : decode cX8_init 52 = .ok (.aload_n 0, 1) := by decide +kernel
theorem dX8_init_53 : decode cX8_init 53 = .ok (.ldc 28, 2) := by decide +kernel
theorem dX8_init_55 : decode cX8_init 55 = .ok (.putfield 29, 3) := by decide +kernel
theorem dX8_init_58 : decode cX8_init 58 = .ok (.aload_n 0, 1) := by decide +kernel
theorem dX8_init_59 : decode cX8_init 59 = .ok (.sipush 150, 3) := by decide +kernel
theorem dX8_init_62 : decode cX8_init 62 = .ok (.newarray .int, 2) := by decide +kernel
theorem dX8_init_64 : decode cX8_init 64 = .ok (.putfield 33, 3) := by decide +kernel
theorem dX8_init_67 : decode cX8_init 67 = .ok (.aload_n 0, 1) := by decide +kernel
theorem dX8_init_68 : decode cX8_init 68 = .ok (.bipush 48, 2) := by decide +kernel
theorem dX8_init_70 : decode cX8_init 70 = .ok (.newarray .int, 2) := by decide +kernel
theorem dX8_init_72 : decode cX8_init 72 = .ok (.putfield 36, 3) := by decide +kernel
theorem dX8_init_75 : decode cX8_init 75 = .ok (.aload_n 0, 1) := by decide +kernel
theorem dX8_init_76 : decode cX8_init 76 = .ok (.bipush 52, 2) := by decide +kernel
theorem dX8_init_78 : decode cX8_init 78 = .ok (.newarray .int, 2) := by decide +kernel
theorem dX8_init_80 : decode cX8_init 80 = .ok (.putfield 39, 3) := by decide +kernel
theorem dX8_init_83 : decode cX8_init 83 = .ok (.aload_n 0, 1) := by decide +kernel
theorem dX8_init_84 : decode cX8_init 84 = .ok (.bipush 11, 2) := by decide +kernel
theorem dX8_init_86 : decode cX8_init 86 = .ok (.newarray .long, 2) := by decide +kernel
theorem dX8_init_88 : decode cX8_init 88 = .ok (.putfield 42, 3) := by decide +kernel
theorem dX8_init_91 : decode cX8_init 91 = .ok (.aload_n 0, 1) := by decide +kernel
theorem dX8_init_92 : decode cX8_init 92 = .ok (.bipush 12, 2) := by decide +kernel
theorem dX8_init_94 : decode cX8_init 94 = .ok (.newarray .int, 2) := by decide +kernel
theorem dX8_init_96 : decode cX8_init 96 = .ok (.putfield 46, 3) := by decide +kernel
theorem dX8_init_99 : decode cX8_init 99 = .ok (.aload_n 0, 1) := by decide +kernel
theorem dX8_init_100 : decode cX8_init 100 = .ok (.bipush 12, 2) := by decide +kernel
theorem dX8_init_102 : decode cX8_init 102 = .ok (.newarray .int, 2) := by decide +kernel
theorem dX8_init_104 : decode cX8_init 104 = .ok (.putfield 49, 3) := by decide +kernel
theorem dX8_init_107 : decode cX8_init 107 = .ok (.aload_n 0, 1) := by decide +kernel
theorem dX8_init_108 : decode cX8_init 108 = .ok (.bipush 12, 2) := by decide +kernel
theorem dX8_init_110 : decode cX8_init 110 = .ok (.newarray .int, 2) := by decide +kernel
theorem dX8_init_112 : decode cX8_init 112 = .ok (.putfield 52, 3) := by decide +kernel
theorem dX8_init_115 : decode cX8_init 115 = .ok (.aload_n 0, 1) := by decide +kernel
theorem dX8_init_116 : decode cX8_init 116 = .ok (.bipush 20, 2) := by decide +kernel
theorem dX8_init_118 : decode cX8_init 118 = .ok (.putfield 55, 3) := by decide +kernel
theorem dX8_init_121 : decode cX8_init 121 = .ok (.aload_n 0, 1) := by decide +kernel
theorem dX8_init_122 : decode cX8_init 122 = .ok (.iconst 5, 1) := by decide +kernel
theorem dX8_init_123 : decode cX8_init 123 = .ok (.putfield 58, 3) := by decide +kernel
theorem dX8_init_126 : decode cX8_init 126 = .ok (.aload_n 0, 1) := by decide +kernel
theorem dX8_init_127 : decode cX8_init 127 = .ok (.iconst 4, 1) := by decide +kernel
theorem dX8_init_128 : decode cX8_init 128 = .ok (.newarray .int, 2) := by decide +kernel
theorem dX8_init_130 : decode cX8_init 130 = .ok (.putfield 61, 3) := by decide +kernel
theorem dX8_init_133 : decode cX8_init 133 = .ok (.iconst 0, 1) := by decide +kernel
theorem dX8_init_134 : decode cX8_init 134 = .ok (.istore_n 1, 1) := by decide +kernel
theorem dX8_init_135 : decode cX8_init 135 = .ok (.iload_n 1, 1) := by decide +kernel
theorem dX8_init_136 : decode cX8_init 136 = .ok (.bipush 12, 2) := by decide +kernel
theorem dX8_init_138 : decode cX8_init 138 = .ok (.if_icmp .ge 18, 3) := by decide +kernel
theorem dX8_init_141 : decode cX8_init 141 = .ok (.aload_n 0, 1) := by decide +kernel
theorem dX8_init_142 : decode cX8_init 142 = .ok (.getfield 16, 3) := by decide +kernel
theorem dX8_init_145 : decode cX8_init 145 = .ok (.iload_n 1, 1) := by decide +kernel
theorem dX8_init_146 : decode cX8_init 146 = .ok (.sipush 20000, 3) := by decide +kernel
theorem dX8_init_149 : decode cX8_init 149 = .ok (.iastore, 1) := by decide +kernel
theorem dX8_init_150 : decode cX8_init 150 = .ok (.iinc 1 1, 3) := by decide +kernel
theorem dX8_init_153 : decode cX8_init 153 = .ok (.goto (-18), 3) := by decide +kernel
theorem dX8_init_156 : decode cX8_init 156 = .ok (.return_, 1) := by decide +kernel
theorem dX8_in_0 : decode cX8_in 0 = .ok (.iload_n 0, 1) := by decide +kernel
theorem dX8_in_1 : decode cX8_in 1 = .ok (.iload_n 1, 1) := by decide +kernel
theorem dX8_in_2 : decode cX8_in 2 = .ok (.if_icmp .lt 12, 3) := by decide +kernel
theorem dX8_in_5 : decode cX8_in 5 = .ok (.iload_n 0, 1) := by decide +kernel
theorem dX8_in_6 : decode cX8_in 6 = .ok (.iload_n 2, 1) := by decide +kernel
theorem dX8_in_7 : decode cX8_in 7 = .ok (.if_icmp .gt 7, 3) := by decide +kernel
theorem dX8_in_10 : decode cX8_in 10 = .ok (.iconst 1, 1) := by decide +kernel
theorem dX8_in_11 : decode cX8_in 11 = .ok (.goto 4, 3) := by decide +kernel
theorem dX8_in_14 : decode cX8_in 14 = .ok (.iconst 0, 1) := by decide +kernel
theorem dX8_in_15 : decode cX8_in 15 = .ok (.ireturn, 1) := by decide +kernel
set_option maxRecDepth 20000 in
theorem ggX8_isRam_X8_in : GoodIn wsX8_isRam wsX8_in := goodIn_r _ [5] (by decide +kernel) (by decide +kernel)
set_option maxRecDepth 20000 in
theorem gX8_isRam_X8_in : GoodIn wsX8_isRam (va_wsS RX8 70 yX8_in wsX8_in) := goodIn_app (goodIn_of _ (by decide +kernel)) ggX8_isRam_X8_in
theorem dX8_isRam_0 : decode cX8_isRam 0 = .ok (.iload_n 1, 1) := by decide +kernel
theorem dX8_isRam_1 : decode cX8_isRam 1 = .ok (.iconst 0, 1) := by decide +kernel
theorem dX8_isRam_2 : decode cX8_isRam 2 = .ok (.aload_n 0, 1) := by decide +kernel
theorem dX8_isRam_3 : decode cX8_isRam 3 = .ok (.getfield 67, 3) := by decide +kernel
theorem dX8_isRam_6 : decode cX8_isRam 6 = .ok (.iconst 1, 1) := by decide +kernel
theorem dX8_isRam_7 : decode cX8_isRam 7 = .ok (.isub, 1) := by decide +kernel
theorem dX8_isRam_8 : decode cX8_isRam 8 = .ok (.invokestatic 70, 3) := by decide +kernel
theorem dX8_isRam_11 : decode cX8_isRam 11 = .ok (.ireturn, 1) := by decide +kernel
set_option maxRecDepth 20000 in
theorem ggX8_ram_X8_in : GoodIn wsX8_ram wsX8_in := goodIn_r _ [7] (by decide +kernel) (by decide +kernel)
set_option maxRecDepth 20000 in
theorem gX8_ram_X8_in : GoodIn wsX8_ram (va_wsS RX8 70 yX8_in wsX8_in) := goodIn_app (goodIn_of _ (by decide +kernel)) ggX8_ram_X8_in
theorem dX8_ram_0 : decode cX8_ram 0 = .ok (.aload_n 0, 1) := by decide +kernel
theorem dX8_ram_1 : decode cX8_ram 1 = .ok (.iconst 0, 1) := by decide +kernel
theorem dX8_ram_2 : decode cX8_ram 2 = .ok (.putfield 64, 3) := by decide +kernel
theorem dX8_ram_5 : decode cX8_ram 5 = .ok (.iload_n 1, 1) := by decide +kernel
theorem dX8_ram_6 : decode cX8_ram 6 = .ok (.iconst 5, 1) := by decide +kernel
theorem dX8_ram_7 : decode cX8_ram 7 = .ok (.sipush 200, 3) := by decide +kernel
theorem dX8_ram_10 : decode cX8_ram 10 = .ok (.invokestatic 70, 3) := by decide +kernel
theorem dX8_ram_13 : decode cX8_ram 13 = .ok (.ifCond .eq 39, 3) := by decide +kernel
theorem dX8_ram_16 : decode cX8_ram 16 = .ok (.iload_n 2, 1) := by decide +kernel
theorem dX8_ram_17 : decode cX8_ram 17 = .ok (.iload_n 1, 1) := by decide +kernel
theorem dX8_ram_18 : decode cX8_ram 18 = .ok (.iconst 1, 1) := by decide +kernel
theorem dX8_ram_19 : decode cX8_ram 19 = .ok (.iadd, 1) := by decide +kernel
theorem dX8_ram_20 : decode cX8_ram 20 = .ok (.sipush 1000, 3) := by decide +kernel
theorem dX8_ram_23 : decode cX8_ram 23 = .ok (.invokestatic 70, 3) := by decide +kernel
theorem dX8_ram_26 : decode cX8_ram 26 = .ok (.ifCond .eq 26, 3) := by decide +kernel
theorem dX8_ram_29 : decode cX8_ram 29 = .ok (.iload_n 3, 1) := by decide +kernel
theorem dX8_ram_30 : decode cX8_ram 30 = .ok (.bipush 20, 2) := by decide +kernel
theorem dX8_ram_32 : decode cX8_ram 32 = .ok (.sipush 900, 3) := by decide +kernel
theorem dX8_ram_35 : decode cX8_ram 35 = .ok (.invokestatic 70, 3) := by decide +kernel
theorem dX8_ram_38 : decode cX8_ram 38 = .ok (.ifCond .eq 14, 3) := by decide +kernel
theorem dX8_ram_41 : decode cX8_ram 41 = .ok (.iload 4, 2) := by decide +kernel
theorem dX8_ram_43 : decode cX8_ram 43 = .ok (.iconst 1, 1) := by decide +kernel
theorem dX8_ram_44 : decode cX8_ram 44 = .ok (.bipush 9, 2) := by decide +kernel
theorem dX8_ram_46 : decode cX8_ram 46 = .ok (.invokestatic 70, 3) := by decide +kernel
theorem dX8_ram_49 : decode cX8_ram 49 = .ok (.ifCond .ne 5, 3) := by decide +kernel
theorem dX8_ram_52 : decode cX8_ram 52 = .ok (.iconst (-1), 1) := by decide +kernel
theorem dX8_ram_53 : decode cX8_ram 53 = .ok (.ireturn, 1) := by decide +kernel
theorem dX8_ram_54 : decode cX8_ram 54 = .ok (.aload_n 0, 1) := by decide +kernel
theorem dX8_ram_55 : decode cX8_ram 55 = .ok (.getfield 67, 3) := by decide +kernel
theorem dX8_ram_58 : decode cX8_ram 58 = .ok (.iconst 4, 1) := by decide +kernel
theorem dX8_ram_59 : decode cX8_ram 59 = .ok (.if_icmp .ne 6, 3) := by decide +kernel
theorem dX8_ram_62 : decode cX8_ram 62 = .ok (.bipush (-3), 2) := by decide +kernel
theorem dX8_ram_64 : decode cX8_ram 64 = .ok (.ireturn, 1) := by decide +kernel
theorem dX8_ram_65 : decode cX8_ram 65 = .ok (.bipush 13, 2) := by decide +kernel
theorem dX8_ram_67 : decode cX8_ram 67 = .ok (.aload_n 0, 1) := by decide +kernel
theorem dX8_ram_68 : decode cX8_ram 68 = .ok (.getfield 67, 3) := by decide +kernel
theorem dX8_ram_71 : decode cX8_ram 71 = .ok (.imul, 1) := by decide +kernel
theorem dX8_ram_72 : decode cX8_ram 72 = .ok (.istore 5, 2) := by decide +kernel
theorem dX8_ram_74 : decode cX8_ram 74 = .ok (.iconst 0, 1) := by decide +kernel
theorem dX8_ram_75 : decode cX8_ram 75 = .ok (.istore 6, 2) := by decide +kernel
theorem dX8_ram_77 : decode cX8_ram 77 = .ok (.iload 6, 2) := by decide +kernel
theorem dX8_ram_79 : decode cX8_ram 79 = .ok (.bipush 13, 2) := by decide +kernel
theorem dX8_ram_81 : decode cX8_ram 81 = .ok (.if_icmp .ge 20, 3) := by decide +kernel
theorem dX8_ram_84 : decode cX8_ram 84 = .ok (.aload_n 0, 1) := by decide +kernel
theorem dX8_ram_85 : decode cX8_ram 85 = .ok (.getfield 7, 3) := by decide +kernel
theorem dX8_ram_88 : decode cX8_ram 88 = .ok (.iload 5, 2) := by decide +kernel
theorem dX8_ram_90 : decode cX8_ram 90 = .ok (.iload 6, 2) := by decide +kernel
theorem dX8_ram_92 : decode cX8_ram 92 = .ok (.iadd, 1) := by decide +kernel
theorem dX8_ram_93 : decode cX8_ram 93 = .ok (.iconst 0, 1) := by decide +kernel
theorem dX8_ram_94 : decode cX8_ram 94 = .ok (.iastore, 1) := by decide +kernel
theorem dX8_ram_95 : decode cX8_ram 95 = .ok (.iinc 6 1, 3) := by decide +kernel
theorem dX8_ram_98 : decode cX8_ram 98 = .ok (.goto (-21), 3) := by decide +kernel
theorem dX8_ram_101 : decode cX8_ram 101 = .ok (.aload_n 0, 1) := by decide +kernel
theorem dX8_ram_102 : decode cX8_ram 102 = .ok (.getfield 7, 3) := by decide +kernel
theorem dX8_ram_105 : decode cX8_ram 105 = .ok (.iload 5, 2) := by decide +kernel
theorem dX8_ram_107 : decode cX8_ram 107 = .ok (.iconst 0, 1) := by decide +kernel
theorem dX8_ram_108 : decode cX8_ram 108 = .ok (.iadd, 1) := by decide +kernel
theorem dX8_ram_109 : decode cX8_ram 109 = .ok (.iload_n 1, 1) := by decide +kernel
theorem dX8_ram_110 : decode cX8_ram 110 = .ok (.iastore, 1) := by decide +kernel
theorem dX8_ram_111 : decode cX8_ram 111 = .ok (.aload_n 0, 1) := by decide +kernel
theorem dX8_ram_112 : decode cX8_ram 112 = .ok (.getfield 7, 3) := by decide +kernel
theorem dX8_ram_115 : decode cX8_ram 115 = .ok (.iload 5, 2) := by decide +kernel
theorem dX8_ram_117 : decode cX8_ram 117 = .ok (.iconst 1, 1) := by decide +kernel
theorem dX8_ram_118 : decode cX8_ram 118 = .ok (.iadd, 1) := by decide +kernel
theorem dX8_ram_119 : decode cX8_ram 119 = .ok (.iload_n 2, 1) := by decide +kernel
theorem dX8_ram_120 : decode cX8_ram 120 = .ok (.iastore, 1) := by decide +kernel
theorem dX8_ram_121 : decode cX8_ram 121 = .ok (.aload_n 0, 1) := by decide +kernel
theorem dX8_ram_122 : decode cX8_ram 122 = .ok (.getfield 7, 3) := by decide +kernel
theorem dX8_ram_125 : decode cX8_ram 125 = .ok (.iload 5, 2) := by decide +kernel
theorem dX8_ram_127 : decode cX8_ram 127 = .ok (.iconst 2, 1) := by decide +kernel
theorem dX8_ram_128 : decode cX8_ram 128 = .ok (.iadd, 1) := by decide +kernel
theorem dX8_ram_129 : decode cX8_ram 129 = .ok (.iload_n 3, 1) := by decide +kernel
theorem dX8_ram_130 : decode cX8_ram 130 = .ok (.iastore, 1) := by decide +kernel
theorem dX8_ram_131 : decode cX8_ram 131 = .ok (.aload_n 0, 1) := by decide +kernel
theorem dX8_ram_132 : decode cX8_ram 132 = .ok (.getfield 7, 3) := by decide +kernel
theorem dX8_ram_135 : decode cX8_ram 135 = .ok (.iload 5, 2) := by decide +kernel
theorem dX8_ram_137 : decode cX8_ram 137 = .ok (.iconst 3, 1) := by decide +kernel
theorem dX8_ram_138 : decode cX8_ram 138 = .ok (.iadd, 1) := by decide +kernel
theorem dX8_ram_139 : decode cX8_ram 139 = .ok (.iload 4, 2) := by decide +kernel
theorem dX8_ram_141 : decode cX8_ram 141 = .ok (.iastore, 1) := by decide +kernel
theorem dX8_ram_142 : decode cX8_ram 142 = .ok (.aload_n 0, 1) := by decide +kernel
theorem dX8_ram_143 : decode cX8_ram 143 = .ok (.getfield 7, 3) := by decide +kernel
theorem dX8_ram_146 : decode cX8_ram 146 = .ok (.iload 5, 2) := by decide +kernel
theorem dX8_ram_148 : decode cX8_ram 148 = .ok (.iconst 4, 1) := by decide +kernel
theorem dX8_ram_149 : decode cX8_ram 149 = .ok (.iadd, 1) := by decide +kernel
theorem dX8_ram_150 : decode cX8_ram 150 = .ok (.bipush 60, 2) := by decide +kernel
theorem dX8_ram_152 : decode cX8_ram 152 = .ok (.iastore, 1) := by decide +kernel
theorem dX8_ram_153 : decode cX8_ram 153 = .ok (.aload_n 0, 1) := by decide +kernel
theorem dX8_ram_154 : decode cX8_ram 154 = .ok (.getfield 7, 3) := by decide +kernel
theorem dX8_ram_157 : decode cX8_ram 157 = .ok (.iload 5, 2) := by decide +kernel
theorem dX8_ram_159 : decode cX8_ram 159 = .ok (.iconst 5, 1) := by decide +kernel
theorem dX8_ram_160 : decode cX8_ram 160 = .ok (.iadd, 1) := by decide +kernel
theorem dX8_ram_161 : decode cX8_ram 161 = .ok (.iconst 4, 1) := by decide +kernel
theorem dX8_ram_162 : decode cX8_ram 162 = .ok (.iastore, 1) := by decide +kernel
theorem dX8_ram_163 : decode cX8_ram 163 = .ok (.aload_n 0, 1) := by decide +kernel
theorem dX8_ram_164 : decode cX8_ram 164 = .ok (.getfield 7, 3) := by decide +kernel
theorem dX8_ram_167 : decode cX8_ram 167 = .ok (.iload 5, 2) := by decide +kernel
theorem dX8_ram_169 : decode cX8_ram 169 = .ok (.bipush 6, 2) := by decide +kernel
theorem dX8_ram_171 : decode cX8_ram 171 = .ok (.iadd, 1) := by decide +kernel
theorem dX8_ram_172 : decode cX8_ram 172 = .ok (.bipush 100, 2) := by decide +kernel
theorem dX8_ram_174 : decode cX8_ram 174 = .ok (.iastore, 1) := by decide +kernel
theorem dX8_ram_175 : decode cX8_ram 175 = .ok (.aload_n 0, 1) := by decide +kernel
theorem dX8_ram_176 : decode cX8_ram 176 = .ok (.getfield 7, 3) := by decide +kernel
theorem dX8_ram_179 : decode cX8_ram 179 = .ok (.iload 5, 2) := by decide +kernel
theorem dX8_ram_181 : decode cX8_ram 181 = .ok (.bipush 12, 2) := by decide +kernel
theorem dX8_ram_183 : decode cX8_ram 183 = .ok (.iadd, 1) := by decide +kernel
theorem dX8_ram_184 : decode cX8_ram 184 = .ok (.iconst 1, 1) := by decide +kernel
theorem dX8_ram_185 : decode cX8_ram 185 = .ok (.iastore, 1) := by decide +kernel
theorem dX8_ram_186 : decode cX8_ram 186 = .ok (.aload_n 0, 1) := by decide +kernel
theorem dX8_ram_187 : decode cX8_ram 187 = .ok (.dup, 1) := by decide +kernel
theorem dX8_ram_188 : decode cX8_ram 188 = .ok (.getfield 67, 3) := by decide +kernel
theorem dX8_ram_191 : decode cX8_ram 191 = .ok (.iconst 1, 1) := by decide +kernel
theorem dX8_ram_192 : decode cX8_ram 192 = .ok (.iadd, 1) := by decide +kernel
theorem dX8_ram_193 : decode cX8_ram 193 = .ok (.putfield 67, 3) := by decide +kernel
theorem dX8_ram_196 : decode cX8_ram 196 = .ok (.aload_n 0, 1) := by decide +kernel
theorem dX8_ram_197 : decode cX8_ram 197 = .ok (.getfield 67, 3) := by decide +kernel
theorem dX8_ram_200 : decode cX8_ram 200 = .ok (.iconst 1, 1) := by decide +kernel
theorem dX8_ram_201 : decode cX8_ram 201 = .ok (.isub, 1) := by decide +kernel
theorem dX8_ram_202 : decode cX8_ram 202 = .ok (.ireturn, 1) := by decide +kernel
set_option maxRecDepth 20000 in
theorem ggX8_isValue_X8_in : GoodIn wsX8_isValue wsX8_in := goodIn_r _ [5] (by decide +kernel) (by decide +kernel)
set_option maxRecDepth 20000 in
theorem gX8_isValue_X8_in : GoodIn wsX8_isValue (va_wsS RX8 70 yX8_in wsX8_in) := goodIn_app (goodIn_of _ (by decide +kernel)) ggX8_isValue_X8_in
theorem dX8_isValue_0 : decode cX8_isValue 0 = .ok (.iload_n 2, 1) := by decide +kernel
theorem dX8_isValue_1 : decode cX8_isValue 1 = .ok (.tableswitch 163 0 10 #[59, 88, 106, 116, 124, 133, 141, 149, 149, 149, 156], 59) := by decide +kernel
theorem dX8_isValue_60 : decode cX8_isValue 60 = .ok (.iload_n 3, 1) := by decide +kernel
theorem dX8_isValue_61 : decode cX8_isValue 61 = .ok (.iconst 5, 1) := by decide +kernel
theorem dX8_isValue_62 : decode cX8_isValue 62 = .ok (.sipush 200, 3) := by decide +kernel
theorem dX8_isValue_65 : decode cX8_isValue 65 = .ok (.invokestatic 70, 3) := by decide +kernel
theorem dX8_isValue_68 : decode cX8_isValue 68 = .ok (.ifCond .eq 19, 3) := by decide +kernel
theorem dX8_isValue_71 : decode cX8_isValue 71 = .ok (.iload_n 3, 1) := by decide +kernel
theorem dX8_isValue_72 : decode cX8_isValue 72 = .ok (.aload_n 0, 1) := by decide +kernel
theorem dX8_isValue_73 : decode cX8_isValue 73 = .ok (.getfield 7, 3) := by decide +kernel
theorem dX8_isValue_76 : decode cX8_isValue 76 = .ok (.iload_n 1, 1) := by decide +kernel
theorem dX8_isValue_77 : decode cX8_isValue 77 = .ok (.iconst 1, 1) := by decide +kernel
theorem dX8_isValue_78 : decode cX8_isValue 78 = .ok (.iadd, 1) := by decide +kernel
theorem dX8_isValue_79 : decode cX8_isValue 79 = .ok (.iaload, 1) := by decide +kernel
theorem dX8_isValue_80 : decode cX8_isValue 80 = .ok (.if_icmp .ge 7, 3) := by decide +kernel
theorem dX8_isValue_83 : decode cX8_isValue 83 = .ok (.iconst 1, 1) := by decide +kernel
theorem dX8_isValue_84 : decode cX8_isValue 84 = .ok (.goto 4, 3) := by decide +kernel
theorem dX8_isValue_87 : decode cX8_isValue 87 = .ok (.iconst 0, 1) := by decide +kernel
theorem dX8_isValue_88 : decode cX8_isValue 88 = .ok (.ireturn, 1) := by decide +kernel
theorem dX8_isValue_89 : decode cX8_isValue 89 = .ok (.iload_n 3, 1) := by decide +kernel
theorem dX8_isValue_90 : decode cX8_isValue 90 = .ok (.aload_n 0, 1) := by decide +kernel
theorem dX8_isValue_91 : decode cX8_isValue 91 = .ok (.getfield 7, 3) := by decide +kernel
theorem dX8_isValue_94 : decode cX8_isValue 94 = .ok (.iload_n 1, 1) := by decide +kernel
theorem dX8_isValue_95 : decode cX8_isValue 95 = .ok (.iconst 0, 1) := by decide +kernel
theorem dX8_isValue_96 : decode cX8_isValue 96 = .ok (.iadd, 1) := by decide +kernel
theorem dX8_isValue_97 : decode cX8_isValue 97 = .ok (.iaload, 1) := by decide +kernel
theorem dX8_isValue_98 : decode cX8_isValue 98 = .ok (.iconst 1, 1) := by decide +kernel
theorem dX8_isValue_99 : decode cX8_isValue 99 = .ok (.iadd, 1) := by decide +kernel
theorem dX8_isValue_100 : decode cX8_isValue 100 = .ok (.sipush 1000, 3) := by decide +kernel
theorem dX8_isValue_103 : decode cX8_isValue 103 = .ok (.invokestatic 70, 3) := by decide +kernel
theorem dX8_isValue_106 : decode cX8_isValue 106 = .ok (.ireturn, 1) := by decide +kernel
theorem dX8_isValue_107 : decode cX8_isValue 107 = .ok (.iload_n 3, 1) := by decide +kernel
theorem dX8_isValue_108 : decode cX8_isValue 108 = .ok (.bipush 20, 2) := by decide +kernel
theorem dX8_isValue_110 : decode cX8_isValue 110 = .ok (.sipush 900, 3) := by decide +kernel
theorem dX8_isValue_113 : decode cX8_isValue 113 = .ok (.invokestatic 70, 3) := by decide +kernel
theorem dX8_isValue_116 : decode cX8_isValue 116 = .ok (.ireturn, 1) := by decide +kernel
theorem dX8_isValue_117 : decode cX8_isValue 117 = .ok (.iload_n 3, 1) := by decide +kernel
theorem dX8_isValue_118 : decode cX8_isValue 118 = .ok (.iconst 1, 1) := by decide +kernel
theorem dX8_isValue_119 : decode cX8_isValue 119 = .ok (.bipush 9, 2) := by decide +kernel
theorem dX8_isValue_121 : decode cX8_isValue 121 = .ok (.invokestatic 70, 3) := by decide +kernel
theorem dX8_isValue_124 : decode cX8_isValue 124 = .ok (.ireturn, 1) := by decide +kernel
theorem dX8_isValue_125 : decode cX8_isValue 125 = .ok (.iload_n 3, 1) := by decide +kernel
theorem dX8_isValue_126 : decode cX8_isValue 126 = .ok (.iconst 5, 1) := by decide +kernel
theorem dX8_isValue_127 : decode cX8_isValue 127 = .ok (.sipush 400, 3) := by decide +kernel
theorem dX8_isValue_130 : decode cX8_isValue 130 = .ok (.invokestatic 70, 3) := by decide +kernel
theorem dX8_isValue_133 : decode cX8_isValue 133 = .ok (.ireturn, 1) := by decide +kernel
theorem dX8_isValue_134 : decode cX8_isValue 134 = .ok (.iload_n 3, 1) := by decide +kernel
theorem dX8_isValue_135 : decode cX8_isValue 135 = .ok (.iconst 1, 1) := by decide +kernel
theorem dX8_isValue_136 : decode cX8_isValue 136 = .ok (.bipush 9, 2) := by decide +kernel
theorem dX8_isValue_138 : decode cX8_isValue 138 = .ok (.invokestatic 70, 3) := by decide +kernel
theorem dX8_isValue_141 : decode cX8_isValue 141 = .ok (.ireturn, 1) := by decide +kernel
theorem dX8_isValue_142 : decode cX8_isValue 142 = .ok (.iload_n 3, 1) := by decide +kernel
theorem dX8_isValue_143 : decode cX8_isValue 143 = .ok (.iconst 0, 1) := by decide +kernel
theorem dX8_isValue_144 : decode cX8_isValue 144 = .ok (.bipush 100, 2) := by decide +kernel
theorem dX8_isValue_146 : decode cX8_isValue 146 = .ok (.invokestatic 70, 3) := by decide +kernel
theorem dX8_isValue_149 : decode cX8_isValue 149 = .ok (.ireturn, 1) := by decide +kernel
theorem dX8_isValue_150 : decode cX8_isValue 150 = .ok (.iload_n 3, 1) := by decide +kernel
theorem dX8_isValue_151 : decode cX8_isValue 151 = .ok (.iconst 0, 1) := by decide +kernel
theorem dX8_isValue_152 : decode cX8_isValue 152 = .ok (.iconst 3, 1) := by decide +kernel
theorem dX8_isValue_153 : decode cX8_isValue 153 = .ok (.invokestatic 70, 3) := by decide +kernel
theorem dX8_isValue_156 : decode cX8_isValue 156 = .ok (.ireturn, 1) := by decide +kernel
theorem dX8_isValue_157 : decode cX8_isValue 157 = .ok (.iload_n 3, 1) := by decide +kernel
theorem dX8_isValue_158 : decode cX8_isValue 158 = .ok (.iconst 0, 1) := by decide +kernel
theorem dX8_isValue_159 : decode cX8_isValue 159 = .ok (.iconst 2, 1) := by decide +kernel
theorem dX8_isValue_160 : decode cX8_isValue 160 = .ok (.invokestatic 70, 3) := by decide +kernel
theorem dX8_isValue_163 : decode cX8_isValue 163 = .ok (.ireturn, 1) := by decide +kernel
theorem dX8_isValue_164 : decode cX8_isValue 164 = .ok (.iload_n 3, 1) := by decide +kernel
theorem dX8_isValue_165 : decode cX8_isValue 165 = .ok (.iconst 0, 1) := by decide +kernel
theorem dX8_isValue_166 : decode cX8_isValue 166 = .ok (.iconst 1, 1) := by decide +kernel
theorem dX8_isValue_167 : decode cX8_isValue 167 = .ok (.invokestatic 70, 3) := by decide +kernel
theorem dX8_isValue_170 : decode cX8_isValue 170 = .ok (.ireturn, 1) := by decide +kernel
set_option maxRecDepth 20000 in
theorem ggX8_set_X8_isRam : GoodIn wsX8_set wsX8_isRam := goodIn_r _ [7, 8, 9, 10, 6, 11, 16, 17, 18, 19, 20, 21, 22, 23, 24, 25, 26, 27, 28, 29, 30, 31, 32, 33, 34, 35, 36, 37, 38, 39, 40, 41, 42, 43, 44, 45, 46, 47, 48, 49, 50, 51, 52, 53] (by decide +kernel) (by decide +kernel)
set_option maxRecDepth 20000 in
theorem gX8_set_X8_isRam : GoodIn wsX8_set (wsV RX8 74 RX8 yX8_isRam wsX8_isRam) := goodIn_app (goodIn_of _ (by decide +kernel)) ggX8_set_X8_isRam
set_option maxRecDepth 20000 in
theorem ggX8_set_X8_in : GoodIn wsX8_set wsX8_in := goodIn_r _ [11] (by decide +kernel) (by decide +kernel)
set_option maxRecDepth 20000 in
theorem gX8_set_X8_in : GoodIn wsX8_set (va_wsS RX8 70 yX8_in wsX8_in) := goodIn_app (goodIn_of _ (by decide +kernel)) ggX8_set_X8_in
set_option maxRecDepth 20000 in
theorem ggX8_set_X8_isValue : GoodIn wsX8_set wsX8_isValue := goodIn_r _ [15, 2, 9, 10, 6, 11, 16, 17, 18, 19, 20, 21, 22, 23, 24, 25, 26, 27, 28, 29, 30, 31, 32, 33, 34, 35, 36, 37, 38, 39, 40, 41, 42, 43, 44, 45, 46, 47, 48, 49, 50, 51, 52, 53] (by decide +kernel) (by decide +kernel)
set_option maxRecDepth 20000 in
theorem gX8_set_X8_isValue : GoodIn wsX8_set (wsV RX8 78 RX8 yX8_isValue wsX8_isValue) := goodIn_app (goodIn_of _ (by decide +kernel)) ggX8_set_X8_isValue
theorem dX8_set_0 : decode cX8_set 0 = .ok (.aload_n 0, 1) := by decide +kernel
theorem dX8_set_1 : decode cX8_set 1 = .ok (.iconst 0, 1) := by decide +kernel
theorem dX8_set_2 : decode cX8_set 2 = .ok (.putfield 64, 3) := by decide +kernel
theorem dX8_set_5 : decode cX8_set 5 = .ok (.aload_n 0, 1) := by decide +kernel
theorem dX8_set_6 : decode cX8_set 6 = .ok (.iload_n 1, 1) := by decide +kernel
theorem dX8_set_7 : decode cX8_set 7 = .ok (.invokevirtual 74, 3) := by decide +kernel
theorem dX8_set_10 : decode cX8_set 10 = .ok (.ifCond .eq 26, 3) := by decide +kernel
theorem dX8_set_13 : decode cX8_set 13 = .ok (.iload_n 2, 1) := by decide +kernel
theorem dX8_set_14 : decode cX8_set 14 = .ok (.iconst 0, 1) := by decide +kernel
theorem dX8_set_15 : decode cX8_set 15 = .ok (.bipush 12, 2) := by decide +kernel
theorem dX8_set_17 : decode cX8_set 17 = .ok (.invokestatic 70, 3) := by decide +kernel
theorem dX8_set_20 : decode cX8_set 20 = .ok (.ifCond .eq 16, 3) := by decide +kernel
theorem dX8_set_23 : decode cX8_set 23 = .ok (.aload_n 0, 1) := by decide +kernel
theorem dX8_set_24 : decode cX8_set 24 = .ok (.bipush 13, 2) := by decide +kernel
theorem dX8_set_26 : decode cX8_set 26 = .ok (.iload_n 1, 1) := by decide +kernel
theorem dX8_set_27 : decode cX8_set 27 = .ok (.imul, 1) := by decide +kernel
theorem dX8_set_28 : decode cX8_set 28 = .ok (.iload_n 2, 1) := by decide +kernel
theorem dX8_set_29 : decode cX8_set 29 = .ok (.iload_n 3, 1) := by decide +kernel
theorem dX8_set_30 : decode cX8_set 30 = .ok (.invokevirtual 78, 3) := by decide +kernel
theorem dX8_set_33 : decode cX8_set 33 = .ok (.ifCond .ne 5, 3) := by decide +kernel
theorem dX8_set_36 : decode cX8_set 36 = .ok (.iconst (-1), 1) := by decide +kernel
theorem dX8_set_37 : decode cX8_set 37 = .ok (.ireturn, 1) := by decide +kernel
theorem dX8_set_38 : decode cX8_set 38 = .ok (.aload_n 0, 1) := by decide +kernel
theorem dX8_set_39 : decode cX8_set 39 = .ok (.getfield 7, 3) := by decide +kernel
theorem dX8_set_42 : decode cX8_set 42 = .ok (.bipush 13, 2) := by decide +kernel
theorem dX8_set_44 : decode cX8_set 44 = .ok (.iload_n 1, 1) := by decide +kernel
theorem dX8_set_45 : decode cX8_set 45 = .ok (.imul, 1) := by decide +kernel
theorem dX8_set_46 : decode cX8_set 46 = .ok (.iload_n 2, 1) := by decide +kernel
theorem dX8_set_47 : decode cX8_set 47 = .ok (.iadd, 1) := by decide +kernel
theorem dX8_set_48 : decode cX8_set 48 = .ok (.iaload, 1) := by decide +kernel
theorem dX8_set_49 : decode cX8_set 49 = .ok (.istore 4, 2) := by decide +kernel
theorem dX8_set_51 : decode cX8_set 51 = .ok (.aload_n 0, 1) := by decide +kernel
theorem dX8_set_52 : decode cX8_set 52 = .ok (.getfield 7, 3) := by decide +kernel
theorem dX8_set_55 : decode cX8_set 55 = .ok (.bipush 13, 2) := by decide +kernel
theorem dX8_set_57 : decode cX8_set 57 = .ok (.iload_n 1, 1) := by decide +kernel
theorem dX8_set_58 : decode cX8_set 58 = .ok (.imul, 1) := by decide +kernel
theorem dX8_set_59 : decode cX8_set 59 = .ok (.iload_n 2, 1) := by decide +kernel
theorem dX8_set_60 : decode cX8_set 60 = .ok (.iadd, 1) := by decide +kernel
theorem dX8_set_61 : decode cX8_set 61 = .ok (.iload_n 3, 1) := by decide +kernel
theorem dX8_set_62 : decode cX8_set 62 = .ok (.iastore, 1) := by decide +kernel
theorem dX8_set_63 : decode cX8_set 63 = .ok (.iload 4, 2) := by decide +kernel
theorem dX8_set_65 : decode cX8_set 65 = .ok (.ireturn, 1) := by decide +kernel
set_option maxRecDepth 20000 in
theorem ggX8_about_X8_isRam : GoodIn wsX8_about wsX8_isRam := goodIn_r _ [7, 8, 9, 10, 6, 11, 12, 13, 14, 15, 16, 17, 18, 19, 20, 21, 22, 23, 24, 25, 26, 27, 28, 29, 30, 31, 32, 33, 34, 35, 36, 37, 38, 39, 40, 41, 42, 43, 44, 45, 46, 47, 48, 49] (by decide +kernel) (by decide +kernel)
set_option maxRecDepth 20000 in
theorem gX8_about_X8_isRam : GoodIn wsX8_about (wsV RX8 74 RX8 yX8_isRam wsX8_isRam) := goodIn_app (goodIn_of _ (by decide +kernel)) ggX8_about_X8_isRam
set_option maxRecDepth 20000 in
theorem ggX8_about_X8_in : GoodIn wsX8_about wsX8_in := goodIn_r _ [11] (by decide +kernel) (by decide +kernel)
set_option maxRecDepth 20000 in
theorem gX8_about_X8_in : GoodIn wsX8_about (va_wsS RX8 70 yX8_in wsX8_in) := goodIn_app (goodIn_of _ (by decide +kernel)) ggX8_about_X8_in
theorem dX8_about_0 : decode cX8_about 0 = .ok (.aload_n 0, 1) := by decide +kernel
theorem dX8_about_1 : decode cX8_about 1 = .ok (.iconst 0, 1) := by decide +kernel
theorem dX8_about_2 : decode cX8_about 2 = .ok (.putfield 64, 3) := by decide +kernel
theorem dX8_about_5 : decode cX8_about 5 = .ok (.aload_n 0, 1) := by decide +kernel
theorem dX8_about_6 : decode cX8_about 6 = .ok (.iload_n 1, 1) := by decide +kernel
theorem dX8_about_7 : decode cX8_about 7 = .ok (.invokevirtual 74, 3) := by decide +kernel
theorem dX8_about_10 : decode cX8_about 10 = .ok (.ifCond .eq 27, 3) := by decide +kernel
theorem dX8_about_13 : decode cX8_about 13 = .ok (.iload_n 2, 1) := by decide +kernel
theorem dX8_about_14 : decode cX8_about 14 = .ok (.iconst 0, 1) := by decide +kernel
theorem dX8_about_15 : decode cX8_about 15 = .ok (.bipush 12, 2) := by decide +kernel
theorem dX8_about_17 : decode cX8_about 17 = .ok (.invokestatic 70, 3) := by decide +kernel
theorem dX8_about_20 : decode cX8_about 20 = .ok (.ifCond .eq 17, 3) := by decide +kernel
theorem dX8_about_23 : decode cX8_about 23 = .ok (.aload_n 0, 1) := by decide +kernel
theorem dX8_about_24 : decode cX8_about 24 = .ok (.getfield 7, 3) := by decide +kernel
theorem dX8_about_27 : decode cX8_about 27 = .ok (.bipush 13, 2) := by decide +kernel
theorem dX8_about_29 : decode cX8_about 29 = .ok (.iload_n 1, 1) := by decide +kernel
theorem dX8_about_30 : decode cX8_about 30 = .ok (.imul, 1) := by decide +kernel
theorem dX8_about_31 : decode cX8_about 31 = .ok (.iload_n 2, 1) := by decide +kernel
theorem dX8_about_32 : decode cX8_about 32 = .ok (.iadd, 1) := by decide +kernel
theorem dX8_about_33 : decode cX8_about 33 = .ok (.iaload, 1) := by decide +kernel
theorem dX8_about_34 : decode cX8_about 34 = .ok (.goto 4, 3) := by decide +kernel
theorem dX8_about_37 : decode cX8_about 37 = .ok (.iconst (-1), 1) := by decide +kernel
theorem dX8_about_38 : decode cX8_about 38 = .ok (.ireturn, 1) := by decide +kernel
theorem dX8_takes_0 : decode cX8_takes 0 = .ok (.iconst 0, 1) := by decide +kernel
theorem dX8_takes_1 : decode cX8_takes 1 = .ok (.istore_n 2, 1) := by decide +kernel
theorem dX8_takes_2 : decode cX8_takes 2 = .ok (.iload_n 2, 1) := by decide +kernel
theorem dX8_takes_3 : decode cX8_takes 3 = .ok (.bipush 13, 2) := by decide +kernel
theorem dX8_takes_5 : decode cX8_takes 5 = .ok (.if_icmp .ge 26, 3) := by decide +kernel
theorem dX8_takes_8 : decode cX8_takes 8 = .ok (.aload_n 0, 1) := by decide +kernel
theorem dX8_takes_9 : decode cX8_takes 9 = .ok (.getfield 13, 3) := by decide +kernel
theorem dX8_takes_12 : decode cX8_takes 12 = .ok (.iload_n 2, 1) := by decide +kernel
theorem dX8_takes_13 : decode cX8_takes 13 = .ok (.aload_n 0, 1) := by decide +kernel
theorem dX8_takes_14 : decode cX8_takes 14 = .ok (.getfield 7, 3) := by decide +kernel
theorem dX8_takes_17 : decode cX8_takes 17 = .ok (.bipush 13, 2) := by decide +kernel
theorem dX8_takes_19 : decode cX8_takes 19 = .ok (.iload_n 1, 1) := by decide +kernel
theorem dX8_takes_20 : decode cX8_takes 20 = .ok (.imul, 1) := by decide +kernel
theorem dX8_takes_21 : decode cX8_takes 21 = .ok (.iload_n 2, 1) := by decide +kernel
theorem dX8_takes_22 : decode cX8_takes 22 = .ok (.iadd, 1) := by decide +kernel
theorem dX8_takes_23 : decode cX8_takes 23 = .ok (.iaload, 1) := by decide +kernel
theorem dX8_takes_24 : decode cX8_takes 24 = .ok (.iastore, 1) := by decide +kernel
theorem dX8_takes_25 : decode cX8_takes 25 = .ok (.iinc 2 1, 3) := by decide +kernel
theorem dX8_takes_28 : decode cX8_takes 28 = .ok (.goto (-26), 3) := by decide +kernel
theorem dX8_takes_31 : decode cX8_takes 31 = .ok (.return_, 1) := by decide +kernel
theorem dX8_workOf_0 : decode cX8_workOf 0 = .ok (.bipush 40, 2) := by decide +kernel
theorem dX8_workOf_2 : decode cX8_workOf 2 = .ok (.aload_n 0, 1) := by decide +kernel
theorem dX8_workOf_3 : decode cX8_workOf 3 = .ok (.getfield 13, 3) := by decide +kernel
theorem dX8_workOf_6 : decode cX8_workOf 6 = .ok (.bipush 6, 2) := by decide +kernel
theorem dX8_workOf_8 : decode cX8_workOf 8 = .ok (.iaload, 1) := by decide +kernel
theorem dX8_workOf_9 : decode cX8_workOf 9 = .ok (.iconst 4, 1) := by decide +kernel
theorem dX8_workOf_10 : decode cX8_workOf 10 = .ok (.idiv, 1) := by decide +kernel
theorem dX8_workOf_11 : decode cX8_workOf 11 = .ok (.iadd, 1) := by decide +kernel
theorem dX8_workOf_12 : decode cX8_workOf 12 = .ok (.iconst 3, 1) := by decide +kernel
theorem dX8_workOf_13 : decode cX8_workOf 13 = .ok (.aload_n 0, 1) := by decide +kernel
theorem dX8_workOf_14 : decode cX8_workOf 14 = .ok (.getfield 13, 3) := by decide +kernel
theorem dX8_workOf_17 : decode cX8_workOf 17 = .ok (.bipush 7, 2) := by decide +kernel
theorem dX8_workOf_19 : decode cX8_workOf 19 = .ok (.iaload, 1) := by decide +kernel
theorem dX8_workOf_20 : decode cX8_workOf 20 = .ok (.imul, 1) := by decide +kernel
theorem dX8_workOf_21 : decode cX8_workOf 21 = .ok (.isub, 1) := by decide +kernel
theorem dX8_workOf_22 : decode cX8_workOf 22 = .ok (.istore_n 2, 1) := by decide +kernel
theorem dX8_workOf_23 : decode cX8_workOf 23 = .ok (.iload_n 1, 1) := by decide +kernel
theorem dX8_workOf_24 : decode cX8_workOf 24 = .ok (.ifCond .le 22, 3) := by decide +kernel
theorem dX8_workOf_27 : decode cX8_workOf 27 = .ok (.iload_n 2, 1) := by decide +kernel
theorem dX8_workOf_28 : decode cX8_workOf 28 = .ok (.bipush 8, 2) := by decide +kernel
theorem dX8_workOf_30 : decode cX8_workOf 30 = .ok (.iadd, 1) := by decide +kernel
theorem dX8_workOf_31 : decode cX8_workOf 31 = .ok (.bipush 80, 2) := by decide +kernel
theorem dX8_workOf_33 : decode cX8_workOf 33 = .ok (.if_icmp .le 8, 3) := by decide +kernel
theorem dX8_workOf_36 : decode cX8_workOf 36 = .ok (.bipush 80, 2) := by decide +kernel
theorem dX8_workOf_38 : decode cX8_workOf 38 = .ok (.goto 7, 3) := by decide +kernel
theorem dX8_workOf_41 : decode cX8_workOf 41 = .ok (.iload_n 2, 1) := by decide +kernel
theorem dX8_workOf_42 : decode cX8_workOf 42 = .ok (.bipush 8, 2) := by decide +kernel
theorem dX8_workOf_44 : decode cX8_workOf 44 = .ok (.iadd, 1) := by decide +kernel
theorem dX8_workOf_45 : decode cX8_workOf 45 = .ok (.istore_n 2, 1) := by decide +kernel
theorem dX8_workOf_46 : decode cX8_workOf 46 = .ok (.iload_n 1, 1) := by decide +kernel
theorem dX8_workOf_47 : decode cX8_workOf 47 = .ok (.iconst 1, 1) := by decide +kernel
theorem dX8_workOf_48 : decode cX8_workOf 48 = .ok (.if_icmp .le 35, 3) := by decide +kernel
theorem dX8_workOf_51 : decode cX8_workOf 51 = .ok (.iload_n 2, 1) := by decide +kernel
theorem dX8_workOf_52 : decode cX8_workOf 52 = .ok (.iload_n 2, 1) := by decide +kernel
theorem dX8_workOf_53 : decode cX8_workOf 53 = .ok (.bipush 10, 2) := by decide +kernel
theorem dX8_workOf_55 : decode cX8_workOf 55 = .ok (.idiv, 1) := by decide +kernel
theorem dX8_workOf_56 : decode cX8_workOf 56 = .ok (.iadd, 1) := by decide +kernel
theorem dX8_workOf_57 : decode cX8_workOf 57 = .ok (.istore_n 2, 1) := by decide +kernel
theorem dX8_workOf_58 : decode cX8_workOf 58 = .ok (.iload_n 2, 1) := by decide +kernel
theorem dX8_workOf_59 : decode cX8_workOf 59 = .ok (.bipush 85, 2) := by decide +kernel
theorem dX8_workOf_61 : decode cX8_workOf 61 = .ok (.if_icmp .le 8, 3) := by decide +kernel
theorem dX8_workOf_64 : decode cX8_workOf 64 = .ok (.bipush 85, 2) := by decide +kernel
theorem dX8_workOf_66 : decode cX8_workOf 66 = .ok (.goto 4, 3) := by decide +kernel
theorem dX8_workOf_69 : decode cX8_workOf 69 = .ok (.iload_n 2, 1) := by decide +kernel
theorem dX8_workOf_70 : decode cX8_workOf 70 = .ok (.istore_n 2, 1) := by decide +kernel
theorem dX8_workOf_71 : decode cX8_workOf 71 = .ok (.iload_n 2, 1) := by decide +kernel
theorem dX8_workOf_72 : decode cX8_workOf 72 = .ok (.iconst 2, 1) := by decide +kernel
theorem dX8_workOf_73 : decode cX8_workOf 73 = .ok (.aload_n 0, 1) := by decide +kernel
theorem dX8_workOf_74 : decode cX8_workOf 74 = .ok (.getfield 13, 3) := by decide +kernel
theorem dX8_workOf_77 : decode cX8_workOf 77 = .ok (.bipush 8, 2) := by decide +kernel
theorem dX8_workOf_79 : decode cX8_workOf 79 = .ok (.iaload, 1) := by decide +kernel
theorem dX8_workOf_80 : decode cX8_workOf 80 = .ok (.imul, 1) := by decide +kernel
theorem dX8_workOf_81 : decode cX8_workOf 81 = .ok (.isub, 1) := by decide +kernel
theorem dX8_workOf_82 : decode cX8_workOf 82 = .ok (.istore_n 2, 1) := by decide +kernel
theorem dX8_workOf_83 : decode cX8_workOf 83 = .ok (.iload_n 2, 1) := by decide +kernel
theorem dX8_workOf_84 : decode cX8_workOf 84 = .ok (.ireturn, 1) := by decide +kernel
set_option maxRecDepth 20000 in
theorem ggX8_work_X8_in : GoodIn wsX8_work wsX8_in := goodIn_r _ [8] (by decide +kernel) (by decide +kernel)
set_option maxRecDepth 20000 in
theorem gX8_work_X8_in : GoodIn wsX8_work (va_wsS RX8 70 yX8_in wsX8_in) := goodIn_app (goodIn_of _ (by decide +kernel)) ggX8_work_X8_in
set_option maxRecDepth 20000 in
theorem ggX8_work_X8_isRam : GoodIn wsX8_work wsX8_isRam := goodIn_r _ [12, 13, 5, 6, 7, 8, 24, 25, 26, 27, 28, 29, 30, 31, 32, 33, 34, 35, 36, 37, 38, 39, 40, 41, 42, 43, 44, 45, 46, 47, 48, 49, 50, 51, 52, 53, 54, 55, 56, 57, 58, 59, 60, 61] (by decide +kernel) (by decide +kernel)
set_option maxRecDepth 20000 in
theorem gX8_work_X8_isRam : GoodIn wsX8_work (wsV RX8 74 RX8 yX8_isRam wsX8_isRam) := goodIn_app (goodIn_of _ (by decide +kernel)) ggX8_work_X8_isRam
set_option maxRecDepth 20000 in
theorem ggX8_work_X8_takes : GoodIn wsX8_work wsX8_takes := goodIn_r _ [17, 18, 19, 24, 25, 26, 27, 28, 29, 30, 31, 32, 33, 34, 35, 36, 37, 38, 39, 40, 41, 42, 43, 44, 45, 46, 47, 48, 49, 50, 51, 52, 53, 54, 55, 56, 57, 58, 59, 60, 61] (by decide +kernel) (by decide +kernel)
set_option maxRecDepth 20000 in
theorem gX8_work_X8_takes : GoodIn wsX8_work (wsV RX8 89 RX8 yX8_takes wsX8_takes) := goodIn_app (goodIn_of _ (by decide +kernel)) ggX8_work_X8_takes
set_option maxRecDepth 20000 in
theorem ggX8_work_X8_workOf : GoodIn wsX8_work wsX8_workOf := goodIn_r _ [23, 18, 24, 25, 26, 27, 28, 29, 30, 31, 32, 33, 34, 35, 36, 37, 38, 39, 40, 41, 42, 43, 44, 45, 46, 47, 48, 49, 50, 51, 52, 53, 54, 55, 56, 57, 58, 59, 60, 61] (by decide +kernel) (by decide +kernel)
set_option maxRecDepth 20000 in
theorem gX8_work_X8_workOf : GoodIn wsX8_work (wsV RX8 93 RX8 yX8_workOf wsX8_workOf) := goodIn_app (goodIn_of _ (by decide +kernel)) ggX8_work_X8_workOf
theorem dX8_work_0 : decode cX8_work 0 = .ok (.aload_n 0, 1) := by decide +kernel
theorem dX8_work_1 : decode cX8_work 1 = .ok (.iconst 0, 1) := by decide +kernel
theorem dX8_work_2 : decode cX8_work 2 = .ok (.putfield 64, 3) := by decide +kernel
theorem dX8_work_5 : decode cX8_work 5 = .ok (.iload_n 1, 1) := by decide +kernel
theorem dX8_work_6 : decode cX8_work 6 = .ok (.iconst 0, 1) := by decide +kernel
theorem dX8_work_7 : decode cX8_work 7 = .ok (.iconst 2, 1) := by decide +kernel
theorem dX8_work_8 : decode cX8_work 8 = .ok (.invokestatic 70, 3) := by decide +kernel
theorem dX8_work_11 : decode cX8_work 11 = .ok (.ifCond .eq 11, 3) := by decide +kernel
theorem dX8_work_14 : decode cX8_work 14 = .ok (.aload_n 0, 1) := by decide +kernel
theorem dX8_work_15 : decode cX8_work 15 = .ok (.iload_n 2, 1) := by decide +kernel
theorem dX8_work_16 : decode cX8_work 16 = .ok (.invokevirtual 74, 3) := by decide +kernel
theorem dX8_work_19 : decode cX8_work 19 = .ok (.ifCond .ne 5, 3) := by decide +kernel
theorem dX8_work_22 : decode cX8_work 22 = .ok (.iconst (-1), 1) := by decide +kernel
theorem dX8_work_23 : decode cX8_work 23 = .ok (.ireturn, 1) := by decide +kernel
theorem dX8_work_24 : decode cX8_work 24 = .ok (.aload_n 0, 1) := by decide +kernel
theorem dX8_work_25 : decode cX8_work 25 = .ok (.dup, 1) := by decide +kernel
theorem dX8_work_26 : decode cX8_work 26 = .ok (.getfield 81, 3) := by decide +kernel
theorem dX8_work_29 : decode cX8_work 29 = .ok (.iload_n 1, 1) := by decide +kernel
theorem dX8_work_30 : decode cX8_work 30 = .ok (.ifCond .ne 7, 3) := by decide +kernel
theorem dX8_work_33 : decode cX8_work 33 = .ok (.lconst 1, 1) := by decide +kernel
theorem dX8_work_34 : decode cX8_work 34 = .ok (.goto 17, 3) := by decide +kernel
theorem dX8_work_37 : decode cX8_work 37 = .ok (.iload_n 1, 1) := by decide +kernel
theorem dX8_work_38 : decode cX8_work 38 = .ok (.iconst 1, 1) := by decide +kernel
theorem dX8_work_39 : decode cX8_work 39 = .ok (.if_icmp .ne 9, 3) := by decide +kernel
theorem dX8_work_42 : decode cX8_work 42 = .ok (.ldc2_w 85, 3) := by decide +kernel
theorem dX8_work_45 : decode cX8_work 45 = .ok (.goto 6, 3) := by decide +kernel
theorem dX8_work_48 : decode cX8_work 48 = .ok (.ldc2_w 87, 3) := by decide +kernel
theorem dX8_work_51 : decode cX8_work 51 = .ok (.ladd, 1) := by decide +kernel
theorem dX8_work_52 : decode cX8_work 52 = .ok (.putfield 81, 3) := by decide +kernel
theorem dX8_work_55 : decode cX8_work 55 = .ok (.aload_n 0, 1) := by decide +kernel
theorem dX8_work_56 : decode cX8_work 56 = .ok (.iload_n 2, 1) := by decide +kernel
theorem dX8_work_57 : decode cX8_work 57 = .ok (.invokevirtual 89, 3) := by decide +kernel
theorem dX8_work_60 : decode cX8_work 60 = .ok (.aload_n 0, 1) := by decide +kernel
theorem dX8_work_61 : decode cX8_work 61 = .ok (.iload_n 1, 1) := by decide +kernel
theorem dX8_work_62 : decode cX8_work 62 = .ok (.invokevirtual 93, 3) := by decide +kernel
theorem dX8_work_65 : decode cX8_work 65 = .ok (.ireturn, 1) := by decide +kernel
set_option maxRecDepth 20000 in
theorem ggX8_beats_X8_workOf : GoodIn wsX8_beats wsX8_workOf := goodIn_r _ [15, 1, 16, 17, 18, 19, 20, 21, 22, 23, 24, 25, 26, 27, 28, 29, 30, 31, 32, 33, 34, 35, 36, 37, 38, 39, 40, 41, 42, 43, 44, 45, 46, 47, 48, 49, 50, 51, 52, 53] (by decide +kernel) (by decide +kernel)
set_option maxRecDepth 20000 in
theorem gX8_beats_X8_workOf : GoodIn wsX8_beats (wsV RX8 93 RX8 yX8_workOf wsX8_workOf) := goodIn_app (goodIn_of _ (by decide +kernel)) ggX8_beats_X8_workOf
theorem dX8_beats_0 : decode cX8_beats 0 = .ok (.sipush 200, 3) := by decide +kernel
theorem dX8_beats_3 : decode cX8_beats 3 = .ok (.aload_n 0, 1) := by decide +kernel
theorem dX8_beats_4 : decode cX8_beats 4 = .ok (.getfield 13, 3) := by decide +kernel
theorem dX8_beats_7 : decode cX8_beats 7 = .ok (.iconst 0, 1) := by decide +kernel
theorem dX8_beats_8 : decode cX8_beats 8 = .ok (.iaload, 1) := by decide +kernel
theorem dX8_beats_9 : decode cX8_beats 9 = .ok (.imul, 1) := by decide +kernel
theorem dX8_beats_10 : decode cX8_beats 10 = .ok (.aload_n 0, 1) := by decide +kernel
theorem dX8_beats_11 : decode cX8_beats 11 = .ok (.getfield 13, 3) := by decide +kernel
theorem dX8_beats_14 : decode cX8_beats 14 = .ok (.iconst 2, 1) := by decide +kernel
theorem dX8_beats_15 : decode cX8_beats 15 = .ok (.iaload, 1) := by decide +kernel
theorem dX8_beats_16 : decode cX8_beats 16 = .ok (.idiv, 1) := by decide +kernel
theorem dX8_beats_17 : decode cX8_beats 17 = .ok (.istore_n 1, 1) := by decide +kernel
theorem dX8_beats_18 : decode cX8_beats 18 = .ok (.aload_n 0, 1) := by decide +kernel
theorem dX8_beats_19 : decode cX8_beats 19 = .ok (.getfield 13, 3) := by decide +kernel
theorem dX8_beats_22 : decode cX8_beats 22 = .ok (.iconst 5, 1) := by decide +kernel
theorem dX8_beats_23 : decode cX8_beats 23 = .ok (.iaload, 1) := by decide +kernel
theorem dX8_beats_24 : decode cX8_beats 24 = .ok (.aload_n 0, 1) := by decide +kernel
theorem dX8_beats_25 : decode cX8_beats 25 = .ok (.getfield 13, 3) := by decide +kernel
theorem dX8_beats_28 : decode cX8_beats 28 = .ok (.bipush 7, 2) := by decide +kernel
theorem dX8_beats_30 : decode cX8_beats 30 = .ok (.iaload, 1) := by decide +kernel
theorem dX8_beats_31 : decode cX8_beats 31 = .ok (.iadd, 1) := by decide +kernel
theorem dX8_beats_32 : decode cX8_beats 32 = .ok (.istore_n 2, 1) := by decide +kernel
theorem dX8_beats_33 : decode cX8_beats 33 = .ok (.aload_n 0, 1) := by decide +kernel
theorem dX8_beats_34 : decode cX8_beats 34 = .ok (.lconst 0, 1) := by decide +kernel
theorem dX8_beats_35 : decode cX8_beats 35 = .ok (.putfield 97, 3) := by decide +kernel
theorem dX8_beats_38 : decode cX8_beats 38 = .ok (.aload_n 0, 1) := by decide +kernel
theorem dX8_beats_39 : decode cX8_beats 39 = .ok (.lconst 0, 1) := by decide +kernel
theorem dX8_beats_40 : decode cX8_beats 40 = .ok (.putfield 100, 3) := by decide +kernel
theorem dX8_beats_43 : decode cX8_beats 43 = .ok (.aload_n 0, 1) := by decide +kernel
theorem dX8_beats_44 : decode cX8_beats 44 = .ok (.lconst 0, 1) := by decide +kernel
theorem dX8_beats_45 : decode cX8_beats 45 = .ok (.putfield 103, 3) := by decide +kernel
theorem dX8_beats_48 : decode cX8_beats 48 = .ok (.aload_n 0, 1) := by decide +kernel
theorem dX8_beats_49 : decode cX8_beats 49 = .ok (.bipush (-9), 2) := by decide +kernel
theorem dX8_beats_51 : decode cX8_beats 51 = .ok (.putfield 106, 3) := by decide +kernel
theorem dX8_beats_54 : decode cX8_beats 54 = .ok (.aload_n 0, 1) := by decide +kernel
theorem dX8_beats_55 : decode cX8_beats 55 = .ok (.bipush (-9), 2) := by decide +kernel
theorem dX8_beats_57 : decode cX8_beats 57 = .ok (.putfield 109, 3) := by decide +kernel
theorem dX8_beats_60 : decode cX8_beats 60 = .ok (.iconst 1, 1) := by decide +kernel
theorem dX8_beats_61 : decode cX8_beats 61 = .ok (.istore_n 3, 1) := by decide +kernel
theorem dX8_beats_62 : decode cX8_beats 62 = .ok (.iload_n 3, 1) := by decide +kernel
theorem dX8_beats_63 : decode cX8_beats 63 = .ok (.sipush 400, 3) := by decide +kernel
theorem dX8_beats_66 : decode cX8_beats 66 = .ok (.if_icmp .gt 223, 3) := by decide +kernel
theorem dX8_beats_69 : decode cX8_beats 69 = .ok (.aload_n 0, 1) := by decide +kernel
theorem dX8_beats_70 : decode cX8_beats 70 = .ok (.getfield 97, 3) := by decide +kernel
theorem dX8_beats_73 : decode cX8_beats 73 = .ok (.lstore 4, 2) := by decide +kernel
theorem dX8_beats_75 : decode cX8_beats 75 = .ok (.aload_n 0, 1) := by decide +kernel
theorem dX8_beats_76 : decode cX8_beats 76 = .ok (.lload 4, 2) := by decide +kernel
theorem dX8_beats_78 : decode cX8_beats 78 = .ok (.iload_n 1, 1) := by decide +kernel
theorem dX8_beats_79 : decode cX8_beats 79 = .ok (.i2l, 1) := by decide +kernel
theorem dX8_beats_80 : decode cX8_beats 80 = .ok (.ladd, 1) := by decide +kernel
theorem dX8_beats_81 : decode cX8_beats 81 = .ok (.lload 4, 2) := by decide +kernel
theorem dX8_beats_83 : decode cX8_beats 83 = .ok (.iconst 3, 1) := by decide +kernel
theorem dX8_beats_84 : decode cX8_beats 84 = .ok (.aload_n 0, 1) := by decide +kernel
theorem dX8_beats_85 : decode cX8_beats 85 = .ok (.getfield 13, 3) := by decide +kernel
theorem dX8_beats_88 : decode cX8_beats 88 = .ok (.bipush 8, 2) := by decide +kernel
theorem dX8_beats_90 : decode cX8_beats 90 = .ok (.iaload, 1) := by decide +kernel
theorem dX8_beats_91 : decode cX8_beats 91 = .ok (.iadd, 1) := by decide +kernel
theorem dX8_beats_92 : decode cX8_beats 92 = .ok (.i2l, 1) := by decide +kernel
theorem dX8_beats_93 : decode cX8_beats 93 = .ok (.lmul, 1) := by decide +kernel
theorem dX8_beats_94 : decode cX8_beats 94 = .ok (.ldc2_w 112, 3) := by decide +kernel
theorem dX8_beats_97 : decode cX8_beats 97 = .ok (.ldiv, 1) := by decide +kernel
theorem dX8_beats_98 : decode cX8_beats 98 = .ok (.lsub, 1) := by decide +kernel
theorem dX8_beats_99 : decode cX8_beats 99 = .ok (.putfield 97, 3) := by decide +kernel
theorem dX8_beats_102 : decode cX8_beats 102 = .ok (.aload_n 0, 1) := by decide +kernel
theorem dX8_beats_103 : decode cX8_beats 103 = .ok (.dup, 1) := by decide +kernel
theorem dX8_beats_104 : decode cX8_beats 104 = .ok (.getfield 100, 3) := by decide +kernel
theorem dX8_beats_107 : decode cX8_beats 107 = .ok (.aload_n 0, 1) := by decide +kernel
theorem dX8_beats_108 : decode cX8_beats 108 = .ok (.getfield 97, 3) := by decide +kernel
theorem dX8_beats_111 : decode cX8_beats 111 = .ok (.aload_n 0, 1) := by decide +kernel
theorem dX8_beats_112 : decode cX8_beats 112 = .ok (.getfield 13, 3) := by decide +kernel
theorem dX8_beats_115 : decode cX8_beats 115 = .ok (.iconst 3, 1) := by decide +kernel
theorem dX8_beats_116 : decode cX8_beats 116 = .ok (.iaload, 1) := by decide +kernel
theorem dX8_beats_117 : decode cX8_beats 117 = .ok (.i2l, 1) := by decide +kernel
theorem dX8_beats_118 : decode cX8_beats 118 = .ok (.lmul, 1) := by decide +kernel
theorem dX8_beats_119 : decode cX8_beats 119 = .ok (.iload_n 2, 1) := by decide +kernel
theorem dX8_beats_120 : decode cX8_beats 120 = .ok (.i2l, 1) := by decide +kernel
theorem dX8_beats_121 : decode cX8_beats 121 = .ok (.lmul, 1) := by decide +kernel
theorem dX8_beats_122 : decode cX8_beats 122 = .ok (.ldc2_w 112, 3) := by decide +kernel
theorem dX8_beats_125 : decode cX8_beats 125 = .ok (.ldiv, 1) := by decide +kernel
theorem dX8_beats_126 : decode cX8_beats 126 = .ok (.ladd, 1) := by decide +kernel
theorem dX8_beats_127 : decode cX8_beats 127 = .ok (.putfield 100, 3) := by decide +kernel
theorem dX8_beats_130 : decode cX8_beats 130 = .ok (.aload_n 0, 1) := by decide +kernel
theorem dX8_beats_131 : decode cX8_beats 131 = .ok (.getfield 97, 3) := by decide +kernel
theorem dX8_beats_134 : decode cX8_beats 134 = .ok (.aload_n 0, 1) := by decide +kernel
theorem dX8_beats_135 : decode cX8_beats 135 = .ok (.getfield 97, 3) := by decide +kernel
theorem dX8_beats_138 : decode cX8_beats 138 = .ok (.lmul, 1) := by decide +kernel
theorem dX8_beats_139 : decode cX8_beats 139 = .ok (.ldc2_w 114, 3) := by decide +kernel
theorem dX8_beats_142 : decode cX8_beats 142 = .ok (.ldiv, 1) := by decide +kernel
theorem dX8_beats_143 : decode cX8_beats 143 = .ok (.aload_n 0, 1) := by decide +kernel
theorem dX8_beats_144 : decode cX8_beats 144 = .ok (.getfield 13, 3) := by decide +kernel
theorem dX8_beats_147 : decode cX8_beats 147 = .ok (.iconst 4, 1) := by decide +kernel
theorem dX8_beats_148 : decode cX8_beats 148 = .ok (.iaload, 1) := by decide +kernel
theorem dX8_beats_149 : decode cX8_beats 149 = .ok (.i2l, 1) := by decide +kernel
theorem dX8_beats_150 : decode cX8_beats 150 = .ok (.iload_n 2, 1) := by decide +kernel
theorem dX8_beats_151 : decode cX8_beats 151 = .ok (.i2l, 1) := by decide +kernel
theorem dX8_beats_152 : decode cX8_beats 152 = .ok (.lmul, 1) := by decide +kernel
theorem dX8_beats_153 : decode cX8_beats 153 = .ok (.lcmp, 1) := by decide +kernel
theorem dX8_beats_154 : decode cX8_beats 154 = .ok (.ifCond .lt 117, 3) := by decide +kernel
theorem dX8_beats_157 : decode cX8_beats 157 = .ok (.aload_n 0, 1) := by decide +kernel
theorem dX8_beats_158 : decode cX8_beats 158 = .ok (.iload_n 3, 1) := by decide +kernel
theorem dX8_beats_159 : decode cX8_beats 159 = .ok (.putfield 106, 3) := by decide +kernel
theorem dX8_beats_162 : decode cX8_beats 162 = .ok (.aload_n 0, 1) := by decide +kernel
theorem dX8_beats_163 : decode cX8_beats 163 = .ok (.iload_n 3, 1) := by decide +kernel
theorem dX8_beats_164 : decode cX8_beats 164 = .ok (.iconst 4, 1) := by decide +kernel
theorem dX8_beats_165 : decode cX8_beats 165 = .ok (.iadd, 1) := by decide +kernel
theorem dX8_beats_166 : decode cX8_beats 166 = .ok (.aload_n 0, 1) := by decide +kernel
theorem dX8_beats_167 : decode cX8_beats 167 = .ok (.getfield 13, 3) := by decide +kernel
theorem dX8_beats_170 : decode cX8_beats 170 = .ok (.iconst 1, 1) := by decide +kernel
theorem dX8_beats_171 : decode cX8_beats 171 = .ok (.iaload, 1) := by decide +kernel
theorem dX8_beats_172 : decode cX8_beats 172 = .ok (.sipush 200, 3) := by decide +kernel
theorem dX8_beats_175 : decode cX8_beats 175 = .ok (.idiv, 1) := by decide +kernel
theorem dX8_beats_176 : decode cX8_beats 176 = .ok (.iadd, 1) := by decide +kernel
theorem dX8_beats_177 : decode cX8_beats 177 = .ok (.putfield 109, 3) := by decide +kernel
theorem dX8_beats_180 : decode cX8_beats 180 = .ok (.aload_n 0, 1) := by decide +kernel
theorem dX8_beats_181 : decode cX8_beats 181 = .ok (.getfield 97, 3) := by decide +kernel
theorem dX8_beats_184 : decode cX8_beats 184 = .ok (.aload_n 0, 1) := by decide +kernel
theorem dX8_beats_185 : decode cX8_beats 185 = .ok (.getfield 13, 3) := by decide +kernel
theorem dX8_beats_188 : decode cX8_beats 188 = .ok (.iconst 1, 1) := by decide +kernel
theorem dX8_beats_189 : decode cX8_beats 189 = .ok (.iaload, 1) := by decide +kernel
theorem dX8_beats_190 : decode cX8_beats 190 = .ok (.bipush 20, 2) := by decide +kernel
theorem dX8_beats_192 : decode cX8_beats 192 = .ok (.idiv, 1) := by decide +kernel
theorem dX8_beats_193 : decode cX8_beats 193 = .ok (.i2l, 1) := by decide +kernel
theorem dX8_beats_194 : decode cX8_beats 194 = .ok (.lcmp, 1) := by decide +kernel
theorem dX8_beats_195 : decode cX8_beats 195 = .ok (.ifCond .lt 74, 3) := by decide +kernel
theorem dX8_beats_198 : decode cX8_beats 198 = .ok (.aload_n 0, 1) := by decide +kernel
theorem dX8_beats_199 : decode cX8_beats 199 = .ok (.aload_n 0, 1) := by decide +kernel
theorem dX8_beats_200 : decode cX8_beats 200 = .ok (.getfield 100, 3) := by decide +kernel
theorem dX8_beats_203 : decode cX8_beats 203 = .ok (.aload_n 0, 1) := by decide +kernel
theorem dX8_beats_204 : decode cX8_beats 204 = .ok (.getfield 13, 3) := by decide +kernel
theorem dX8_beats_207 : decode cX8_beats 207 = .ok (.iconst 0, 1) := by decide +kernel
theorem dX8_beats_208 : decode cX8_beats 208 = .ok (.iaload, 1) := by decide +kernel
theorem dX8_beats_209 : decode cX8_beats 209 = .ok (.i2l, 1) := by decide +kernel
theorem dX8_beats_210 : decode cX8_beats 210 = .ok (.lmul, 1) := by decide +kernel
theorem dX8_beats_211 : decode cX8_beats 211 = .ok (.aload_n 0, 1) := by decide +kernel
theorem dX8_beats_212 : decode cX8_beats 212 = .ok (.aload_n 0, 1) := by decide +kernel
theorem dX8_beats_213 : decode cX8_beats 213 = .ok (.getfield 13, 3) := by decide +kernel
theorem dX8_beats_216 : decode cX8_beats 216 = .ok (.bipush 10, 2) := by decide +kernel
theorem dX8_beats_218 : decode cX8_beats 218 = .ok (.iaload, 1) := by decide +kernel
theorem dX8_beats_219 : decode cX8_beats 219 = .ok (.invokevirtual 93, 3) := by decide +kernel
theorem dX8_beats_222 : decode cX8_beats 222 = .ok (.i2l, 1) := by decide +kernel
theorem dX8_beats_223 : decode cX8_beats 223 = .ok (.lmul, 1) := by decide +kernel
theorem dX8_beats_224 : decode cX8_beats 224 = .ok (.ldc2_w 112, 3) := by decide +kernel
theorem dX8_beats_227 : decode cX8_beats 227 = .ok (.aload_n 0, 1) := by decide +kernel
theorem dX8_beats_228 : decode cX8_beats 228 = .ok (.getfield 13, 3) := by decide +kernel
theorem dX8_beats_231 : decode cX8_beats 231 = .ok (.iconst 1, 1) := by decide +kernel
theorem dX8_beats_232 : decode cX8_beats 232 = .ok (.iaload, 1) := by decide +kernel
theorem dX8_beats_233 : decode cX8_beats 233 = .ok (.i2l, 1) := by decide +kernel
theorem dX8_beats_234 : decode cX8_beats 234 = .ok (.lmul, 1) := by decide +kernel
theorem dX8_beats_235 : decode cX8_beats 235 = .ok (.ldiv, 1) := by decide +kernel
theorem dX8_beats_236 : decode cX8_beats 236 = .ok (.putfield 103, 3) := by decide +kernel
theorem dX8_beats_239 : decode cX8_beats 239 = .ok (.aload_n 0, 1) := by decide +kernel
theorem dX8_beats_240 : decode cX8_beats 240 = .ok (.dup, 1) := by decide +kernel
theorem dX8_beats_241 : decode cX8_beats 241 = .ok (.getfield 103, 3) := by decide +kernel
theorem dX8_beats_244 : decode cX8_beats 244 = .ok (.aload_n 0, 1) := by decide +kernel
theorem dX8_beats_245 : decode cX8_beats 245 = .ok (.getfield 13, 3) := by decide +kernel
theorem dX8_beats_248 : decode cX8_beats 248 = .ok (.bipush 9, 2) := by decide +kernel
theorem dX8_beats_250 : decode cX8_beats 250 = .ok (.iaload, 1) := by decide +kernel
theorem dX8_beats_251 : decode cX8_beats 251 = .ok (.i2l, 1) := by decide +kernel
theorem dX8_beats_252 : decode cX8_beats 252 = .ok (.aload_n 0, 1) := by decide +kernel
theorem dX8_beats_253 : decode cX8_beats 253 = .ok (.getfield 103, 3) := by decide +kernel
theorem dX8_beats_256 : decode cX8_beats 256 = .ok (.lmul, 1) := by decide +kernel
theorem dX8_beats_257 : decode cX8_beats 257 = .ok (.ldc2_w 116, 3) := by decide +kernel
theorem dX8_beats_260 : decode cX8_beats 260 = .ok (.ladd, 1) := by decide +kernel
theorem dX8_beats_261 : decode cX8_beats 261 = .ok (.ldc2_w 118, 3) := by decide +kernel
theorem dX8_beats_264 : decode cX8_beats 264 = .ok (.ldiv, 1) := by decide +kernel
theorem dX8_beats_265 : decode cX8_beats 265 = .ok (.lsub, 1) := by decide +kernel
theorem dX8_beats_266 : decode cX8_beats 266 = .ok (.putfield 103, 3) := by decide +kernel
theorem dX8_beats_269 : decode cX8_beats 269 = .ok (.iconst 1, 1) := by decide +kernel
theorem dX8_beats_270 : decode cX8_beats 270 = .ok (.ireturn, 1) := by decide +kernel
theorem dX8_beats_271 : decode cX8_beats 271 = .ok (.aload_n 0, 1) := by decide +kernel
theorem dX8_beats_272 : decode cX8_beats 272 = .ok (.getfield 97, 3) := by decide +kernel
theorem dX8_beats_275 : decode cX8_beats 275 = .ok (.lload 4, 2) := by decide +kernel
theorem dX8_beats_277 : decode cX8_beats 277 = .ok (.lcmp, 1) := by decide +kernel
theorem dX8_beats_278 : decode cX8_beats 278 = .ok (.ifCond .gt 5, 3) := by decide +kernel
theorem dX8_beats_281 : decode cX8_beats 281 = .ok (.iconst 0, 1) := by decide +kernel
theorem dX8_beats_282 : decode cX8_beats 282 = .ok (.ireturn, 1) := by decide +kernel
theorem dX8_beats_283 : decode cX8_beats 283 = .ok (.iinc 3 1, 3) := by decide +kernel
theorem dX8_beats_286 : decode cX8_beats 286 = .ok (.goto (-224), 3) := by decide +kernel
theorem dX8_beats_289 : decode cX8_beats 289 = .ok (.iconst 0, 1) := by decide +kernel
theorem dX8_beats_290 : decode cX8_beats 290 = .ok (.ireturn, 1) := by decide +kernel
set_option maxRecDepth 20000 in
theorem ggX8_beat_X8_isRam : GoodIn wsX8_beat wsX8_isRam := goodIn_r _ [11, 12, 13, 14, 10, 15, 34, 35, 36, 37, 38, 39, 40, 41, 42, 43, 44, 45, 46, 47, 48, 49, 50, 51, 52, 53, 54, 55, 56, 57, 58, 59, 60, 61, 62, 63, 64, 65, 66, 67, 68, 69, 70, 71] (by decide +kernel) (by decide +kernel)
set_option maxRecDepth 20000 in
theorem gX8_beat_X8_isRam : GoodIn wsX8_beat (wsV RX8 74 RX8 yX8_isRam wsX8_isRam) := goodIn_app (goodIn_of _ (by decide +kernel)) ggX8_beat_X8_isRam
set_option maxRecDepth 20000 in
theorem ggX8_beat_X8_in : GoodIn wsX8_beat wsX8_in := goodIn_r _ [15] (by decide +kernel) (by decide +kernel)
set_option maxRecDepth 20000 in
theorem gX8_beat_X8_in : GoodIn wsX8_beat (va_wsS RX8 70 yX8_in wsX8_in) := goodIn_app (goodIn_of _ (by decide +kernel)) ggX8_beat_X8_in
set_option maxRecDepth 20000 in
theorem ggX8_beat_X8_takes : GoodIn wsX8_beat wsX8_takes := goodIn_r _ [19, 20, 21, 34, 35, 36, 37, 38, 39, 40, 41, 42, 43, 44, 45, 46, 47, 48, 49, 50, 51, 52, 53, 54, 55, 56, 57, 58, 59, 60, 61, 62, 63, 64, 65, 66, 67, 68, 69, 70, 71] (by decide +kernel) (by decide +kernel)
set_option maxRecDepth 20000 in
theorem gX8_beat_X8_takes : GoodIn wsX8_beat (wsV RX8 89 RX8 yX8_takes wsX8_takes) := goodIn_app (goodIn_of _ (by decide +kernel)) ggX8_beat_X8_takes
set_option maxRecDepth 20000 in
theorem ggX8_beat_X8_beats : GoodIn wsX8_beat wsX8_beats := goodIn_r _ [25, 20, 3, 4, 5, 2, 6, 26, 27, 28, 29, 30, 31, 32, 10, 33, 34, 35, 36, 37, 38, 39, 40, 41, 42, 43, 44, 45, 46, 47, 48, 49, 50, 51, 52, 53, 54, 55, 56, 57, 58, 59, 60, 61, 62, 63, 64, 65, 66, 67, 68, 69, 70, 71] (by decide +kernel) (by decide +kernel)
set_option maxRecDepth 20000 in
theorem gX8_beat_X8_beats : GoodIn wsX8_beat (wsV RX8 120 RX8 yX8_beats wsX8_beats) := goodIn_app (goodIn_of _ (by decide +kernel)) ggX8_beat_X8_beats
theorem dX8_beat_0 : decode cX8_beat 0 = .ok (.aload_n 0, 1) := by decide +kernel
theorem dX8_beat_1 : decode cX8_beat 1 = .ok (.iconst 0, 1) := by decide +kernel
theorem dX8_beat_2 : decode cX8_beat 2 = .ok (.putfield 64, 3) := by decide +kernel
theorem dX8_beat_5 : decode cX8_beat 5 = .ok (.aload_n 0, 1) := by decide +kernel
theorem dX8_beat_6 : decode cX8_beat 6 = .ok (.iload_n 1, 1) := by decide +kernel
theorem dX8_beat_7 : decode cX8_beat 7 = .ok (.invokevirtual 74, 3) := by decide +kernel
theorem dX8_beat_10 : decode cX8_beat 10 = .ok (.ifCond .eq 12, 3) := by decide +kernel
theorem dX8_beat_13 : decode cX8_beat 13 = .ok (.iload_n 2, 1) := by decide +kernel
theorem dX8_beat_14 : decode cX8_beat 14 = .ok (.iconst 0, 1) := by decide +kernel
theorem dX8_beat_15 : decode cX8_beat 15 = .ok (.iconst 4, 1) := by decide +kernel
theorem dX8_beat_16 : decode cX8_beat 16 = .ok (.invokestatic 70, 3) := by decide +kernel
theorem dX8_beat_19 : decode cX8_beat 19 = .ok (.ifCond .ne 5, 3) := by decide +kernel
theorem dX8_beat_22 : decode cX8_beat 22 = .ok (.iconst (-1), 1) := by decide +kernel
theorem dX8_beat_23 : decode cX8_beat 23 = .ok (.ireturn, 1) := by decide +kernel
theorem dX8_beat_24 : decode cX8_beat 24 = .ok (.aload_n 0, 1) := by decide +kernel
theorem dX8_beat_25 : decode cX8_beat 25 = .ok (.iload_n 1, 1) := by decide +kernel
theorem dX8_beat_26 : decode cX8_beat 26 = .ok (.invokevirtual 89, 3) := by decide +kernel
theorem dX8_beat_29 : decode cX8_beat 29 = .ok (.aload_n 0, 1) := by decide +kernel
theorem dX8_beat_30 : decode cX8_beat 30 = .ok (.invokevirtual 120, 3) := by decide +kernel
theorem dX8_beat_33 : decode cX8_beat 33 = .ok (.ifCond .ne 6, 3) := by decide +kernel
theorem dX8_beat_36 : decode cX8_beat 36 = .ok (.bipush (-9), 2) := by decide +kernel
theorem dX8_beat_38 : decode cX8_beat 38 = .ok (.ireturn, 1) := by decide +kernel
theorem dX8_beat_39 : decode cX8_beat 39 = .ok (.iload_n 2, 1) := by decide +kernel
theorem dX8_beat_40 : decode cX8_beat 40 = .ok (.ifCond .ne 10, 3) := by decide +kernel
theorem dX8_beat_43 : decode cX8_beat 43 = .ok (.aload_n 0, 1) := by decide +kernel
theorem dX8_beat_44 : decode cX8_beat 44 = .ok (.getfield 106, 3) := by decide +kernel
theorem dX8_beat_47 : decode cX8_beat 47 = .ok (.goto 46, 3) := by decide +kernel
theorem dX8_beat_50 : decode cX8_beat 50 = .ok (.iload_n 2, 1) := by decide +kernel
theorem dX8_beat_51 : decode cX8_beat 51 = .ok (.iconst 1, 1) := by decide +kernel
theorem dX8_beat_52 : decode cX8_beat 52 = .ok (.if_icmp .ne 11, 3) := by decide +kernel
theorem dX8_beat_55 : decode cX8_beat 55 = .ok (.aload_n 0, 1) := by decide +kernel
theorem dX8_beat_56 : decode cX8_beat 56 = .ok (.getfield 97, 3) := by decide +kernel
theorem dX8_beat_59 : decode cX8_beat 59 = .ok (.l2i, 1) := by decide +kernel
theorem dX8_beat_60 : decode cX8_beat 60 = .ok (.goto 33, 3) := by decide +kernel
theorem dX8_beat_63 : decode cX8_beat 63 = .ok (.iload_n 2, 1) := by decide +kernel
theorem dX8_beat_64 : decode cX8_beat 64 = .ok (.iconst 2, 1) := by decide +kernel
theorem dX8_beat_65 : decode cX8_beat 65 = .ok (.if_icmp .ne 11, 3) := by decide +kernel
theorem dX8_beat_68 : decode cX8_beat 68 = .ok (.aload_n 0, 1) := by decide +kernel
theorem dX8_beat_69 : decode cX8_beat 69 = .ok (.getfield 100, 3) := by decide +kernel
theorem dX8_beat_72 : decode cX8_beat 72 = .ok (.l2i, 1) := by decide +kernel
theorem dX8_beat_73 : decode cX8_beat 73 = .ok (.goto 20, 3) := by decide +kernel
theorem dX8_beat_76 : decode cX8_beat 76 = .ok (.iload_n 2, 1) := by decide +kernel
theorem dX8_beat_77 : decode cX8_beat 77 = .ok (.iconst 3, 1) := by decide +kernel
theorem dX8_beat_78 : decode cX8_beat 78 = .ok (.if_icmp .ne 11, 3) := by decide +kernel
theorem dX8_beat_81 : decode cX8_beat 81 = .ok (.aload_n 0, 1) := by decide +kernel
theorem dX8_beat_82 : decode cX8_beat 82 = .ok (.getfield 103, 3) := by decide +kernel
theorem dX8_beat_85 : decode cX8_beat 85 = .ok (.l2i, 1) := by decide +kernel
theorem dX8_beat_86 : decode cX8_beat 86 = .ok (.goto 7, 3) := by decide +kernel
theorem dX8_beat_89 : decode cX8_beat 89 = .ok (.aload_n 0, 1) := by decide +kernel
theorem dX8_beat_90 : decode cX8_beat 90 = .ok (.getfield 109, 3) := by decide +kernel
theorem dX8_beat_93 : decode cX8_beat 93 = .ok (.ireturn, 1) := by decide +kernel
set_option maxRecDepth 20000 in
theorem ggX8_hourOf_X8_beats : GoodIn wsX8_hourOf wsX8_beats := goodIn_r _ [9, 1, 10, 3, 4, 11, 2, 12, 13, 14, 15, 16, 17, 18, 8, 19, 20, 21, 22, 23, 24, 25, 26, 27, 28, 29, 30, 31, 32, 33, 34, 35, 36, 37, 38, 39, 40, 41, 42, 43, 44, 45, 46, 47, 48, 49, 50, 51, 52, 53, 54, 55, 56, 57] (by decide +kernel) (by decide +kernel)
set_option maxRecDepth 20000 in
theorem gX8_hourOf_X8_beats : GoodIn wsX8_hourOf (wsV RX8 120 RX8 yX8_beats wsX8_beats) := goodIn_app (goodIn_of _ (by decide +kernel)) ggX8_hourOf_X8_beats
theorem dX8_hourOf_0 : decode cX8_hourOf 0 = .ok (.aload_n 0, 1) := by decide +kernel
theorem dX8_hourOf_1 : decode cX8_hourOf 1 = .ok (.invokevirtual 120, 3) := by decide +kernel
theorem dX8_hourOf_4 : decode cX8_hourOf 4 = .ok (.ifCond .ne 54, 3) := by decide +kernel
theorem dX8_hourOf_7 : decode cX8_hourOf 7 = .ok (.bipush 36, 2) := by decide +kernel
theorem dX8_hourOf_9 : decode cX8_hourOf 9 = .ok (.aload_n 0, 1) := by decide +kernel
theorem dX8_hourOf_10 : decode cX8_hourOf 10 = .ok (.getfield 13, 3) := by decide +kernel
theorem dX8_hourOf_13 : decode cX8_hourOf 13 = .ok (.iconst 3, 1) := by decide +kernel
theorem dX8_hourOf_14 : decode cX8_hourOf 14 = .ok (.iaload, 1) := by decide +kernel
theorem dX8_hourOf_15 : decode cX8_hourOf 15 = .ok (.imul, 1) := by decide +kernel
theorem dX8_hourOf_16 : decode cX8_hourOf 16 = .ok (.aload_n 0, 1) := by decide +kernel
theorem dX8_hourOf_17 : decode cX8_hourOf 17 = .ok (.getfield 13, 3) := by decide +kernel
theorem dX8_hourOf_20 : decode cX8_hourOf 20 = .ok (.iconst 5, 1) := by decide +kernel
theorem dX8_hourOf_21 : decode cX8_hourOf 21 = .ok (.iaload, 1) := by decide +kernel
theorem dX8_hourOf_22 : decode cX8_hourOf 22 = .ok (.aload_n 0, 1) := by decide +kernel
theorem dX8_hourOf_23 : decode cX8_hourOf 23 = .ok (.getfield 13, 3) := by decide +kernel
theorem dX8_hourOf_26 : decode cX8_hourOf 26 = .ok (.bipush 7, 2) := by decide +kernel
theorem dX8_hourOf_28 : decode cX8_hourOf 28 = .ok (.iaload, 1) := by decide +kernel
theorem dX8_hourOf_29 : decode cX8_hourOf 29 = .ok (.iadd, 1) := by decide +kernel
theorem dX8_hourOf_30 : decode cX8_hourOf 30 = .ok (.imul, 1) := by decide +kernel
theorem dX8_hourOf_31 : decode cX8_hourOf 31 = .ok (.aload_n 0, 1) := by decide +kernel
theorem dX8_hourOf_32 : decode cX8_hourOf 32 = .ok (.getfield 13, 3) := by decide +kernel
theorem dX8_hourOf_35 : decode cX8_hourOf 35 = .ok (.iconst 0, 1) := by decide +kernel
theorem dX8_hourOf_36 : decode cX8_hourOf 36 = .ok (.iaload, 1) := by decide +kernel
theorem dX8_hourOf_37 : decode cX8_hourOf 37 = .ok (.imul, 1) := by decide +kernel
theorem dX8_hourOf_38 : decode cX8_hourOf 38 = .ok (.bipush 10, 2) := by decide +kernel
theorem dX8_hourOf_40 : decode cX8_hourOf 40 = .ok (.idiv, 1) := by decide +kernel
theorem dX8_hourOf_41 : decode cX8_hourOf 41 = .ok (.istore_n 2, 1) := by decide +kernel
theorem dX8_hourOf_42 : decode cX8_hourOf 42 = .ok (.iload_n 1, 1) := by decide +kernel
theorem dX8_hourOf_43 : decode cX8_hourOf 43 = .ok (.iconst 1, 1) := by decide +kernel
theorem dX8_hourOf_44 : decode cX8_hourOf 44 = .ok (.if_icmp .eq 8, 3) := by decide +kernel
theorem dX8_hourOf_47 : decode cX8_hourOf 47 = .ok (.iload_n 1, 1) := by decide +kernel
theorem dX8_hourOf_48 : decode cX8_hourOf 48 = .ok (.iconst 3, 1) := by decide +kernel
theorem dX8_hourOf_49 : decode cX8_hourOf 49 = .ok (.if_icmp .ne 7, 3) := by decide +kernel
theorem dX8_hourOf_52 : decode cX8_hourOf 52 = .ok (.iload_n 2, 1) := by decide +kernel
theorem dX8_hourOf_53 : decode cX8_hourOf 53 = .ok (.goto 4, 3) := by decide +kernel
theorem dX8_hourOf_56 : decode cX8_hourOf 56 = .ok (.iconst 0, 1) := by decide +kernel
theorem dX8_hourOf_57 : decode cX8_hourOf 57 = .ok (.ireturn, 1) := by decide +kernel
theorem dX8_hourOf_58 : decode cX8_hourOf 58 = .ok (.sipush 3600, 3) := by decide +kernel
theorem dX8_hourOf_61 : decode cX8_hourOf 61 = .ok (.aload_n 0, 1) := by decide +kernel
theorem dX8_hourOf_62 : decode cX8_hourOf 62 = .ok (.getfield 109, 3) := by decide +kernel
theorem dX8_hourOf_65 : decode cX8_hourOf 65 = .ok (.idiv, 1) := by decide +kernel
theorem dX8_hourOf_66 : decode cX8_hourOf 66 = .ok (.istore_n 2, 1) := by decide +kernel
theorem dX8_hourOf_67 : decode cX8_hourOf 67 = .ok (.iload_n 1, 1) := by decide +kernel
theorem dX8_hourOf_68 : decode cX8_hourOf 68 = .ok (.ifCond .ne 8, 3) := by decide +kernel
theorem dX8_hourOf_71 : decode cX8_hourOf 71 = .ok (.iload_n 2, 1) := by decide +kernel
theorem dX8_hourOf_72 : decode cX8_hourOf 72 = .ok (.i2l, 1) := by decide +kernel
theorem dX8_hourOf_73 : decode cX8_hourOf 73 = .ok (.goto 45, 3) := by decide +kernel
theorem dX8_hourOf_76 : decode cX8_hourOf 76 = .ok (.iload_n 1, 1) := by decide +kernel
theorem dX8_hourOf_77 : decode cX8_hourOf 77 = .ok (.iconst 1, 1) := by decide +kernel
theorem dX8_hourOf_78 : decode cX8_hourOf 78 = .ok (.if_icmp .ne 13, 3) := by decide +kernel
theorem dX8_hourOf_81 : decode cX8_hourOf 81 = .ok (.iload_n 2, 1) := by decide +kernel
theorem dX8_hourOf_82 : decode cX8_hourOf 82 = .ok (.i2l, 1) := by decide +kernel
theorem dX8_hourOf_83 : decode cX8_hourOf 83 = .ok (.aload_n 0, 1) := by decide +kernel
theorem dX8_hourOf_84 : decode cX8_hourOf 84 = .ok (.getfield 100, 3) := by decide +kernel
theorem dX8_hourOf_87 : decode cX8_hourOf 87 = .ok (.lmul, 1) := by decide +kernel
theorem dX8_hourOf_88 : decode cX8_hourOf 88 = .ok (.goto 30, 3) := by decide +kernel
theorem dX8_hourOf_91 : decode cX8_hourOf 91 = .ok (.iload_n 1, 1) := by decide +kernel
theorem dX8_hourOf_92 : decode cX8_hourOf 92 = .ok (.iconst 2, 1) := by decide +kernel
theorem dX8_hourOf_93 : decode cX8_hourOf 93 = .ok (.if_icmp .ne 13, 3) := by decide +kernel
theorem dX8_hourOf_96 : decode cX8_hourOf 96 = .ok (.iload_n 2, 1) := by decide +kernel
theorem dX8_hourOf_97 : decode cX8_hourOf 97 = .ok (.i2l, 1) := by decide +kernel
theorem dX8_hourOf_98 : decode cX8_hourOf 98 = .ok (.aload_n 0, 1) := by decide +kernel
theorem dX8_hourOf_99 : decode cX8_hourOf 99 = .ok (.getfield 103, 3) := by decide +kernel
theorem dX8_hourOf_102 : decode cX8_hourOf 102 = .ok (.lmul, 1) := by decide +kernel
theorem dX8_hourOf_103 : decode cX8_hourOf 103 = .ok (.goto 15, 3) := by decide +kernel
theorem dX8_hourOf_106 : decode cX8_hourOf 106 = .ok (.iload_n 2, 1) := by decide +kernel
theorem dX8_hourOf_107 : decode cX8_hourOf 107 = .ok (.i2l, 1) := by decide +kernel
theorem dX8_hourOf_108 : decode cX8_hourOf 108 = .ok (.aload_n 0, 1) := by decide +kernel
theorem dX8_hourOf_109 : decode cX8_hourOf 109 = .ok (.getfield 100, 3) := by decide +kernel
theorem dX8_hourOf_112 : decode cX8_hourOf 112 = .ok (.aload_n 0, 1) := by decide +kernel
theorem dX8_hourOf_113 : decode cX8_hourOf 113 = .ok (.getfield 103, 3) := by decide +kernel
theorem dX8_hourOf_116 : decode cX8_hourOf 116 = .ok (.ladd, 1) := by decide +kernel
theorem dX8_hourOf_117 : decode cX8_hourOf 117 = .ok (.lmul, 1) := by decide +kernel
theorem dX8_hourOf_118 : decode cX8_hourOf 118 = .ok (.l2i, 1) := by decide +kernel
theorem dX8_hourOf_119 : decode cX8_hourOf 119 = .ok (.ireturn, 1) := by decide +kernel
set_option maxRecDepth 20000 in
theorem ggX8_hourly_X8_isRam : GoodIn wsX8_hourly wsX8_isRam := goodIn_r _ [6, 7, 8, 9, 5, 10, 38, 39, 40, 41, 42, 43, 44, 45, 46, 47, 48, 49, 50, 51, 52, 53, 54, 55, 56, 57, 58, 59, 60, 61, 62, 63, 64, 65, 66, 67, 68, 69, 70, 71, 72, 73, 74, 75] (by decide +kernel) (by decide +kernel)
set_option maxRecDepth 20000 in
theorem gX8_hourly_X8_isRam : GoodIn wsX8_hourly (wsV RX8 74 RX8 yX8_isRam wsX8_isRam) := goodIn_app (goodIn_of _ (by decide +kernel)) ggX8_hourly_X8_isRam
set_option maxRecDepth 20000 in
theorem ggX8_hourly_X8_in : GoodIn wsX8_hourly wsX8_in := goodIn_r _ [10] (by decide +kernel) (by decide +kernel)
set_option maxRecDepth 20000 in
theorem gX8_hourly_X8_in : GoodIn wsX8_hourly (va_wsS RX8 70 yX8_in wsX8_in) := goodIn_app (goodIn_of _ (by decide +kernel)) ggX8_hourly_X8_in
set_option maxRecDepth 20000 in
theorem ggX8_hourly_X8_takes : GoodIn wsX8_hourly wsX8_takes := goodIn_r _ [14, 15, 16, 38, 39, 40, 41, 42, 43, 44, 45, 46, 47, 48, 49, 50, 51, 52, 53, 54, 55, 56, 57, 58, 59, 60, 61, 62, 63, 64, 65, 66, 67, 68, 69, 70, 71, 72, 73, 74, 75] (by decide +kernel) (by decide +kernel)
set_option maxRecDepth 20000 in
theorem gX8_hourly_X8_takes : GoodIn wsX8_hourly (wsV RX8 89 RX8 yX8_takes wsX8_takes) := goodIn_app (goodIn_of _ (by decide +kernel)) ggX8_hourly_X8_takes
set_option maxRecDepth 20000 in
theorem ggX8_hourly_X8_hourOf : GoodIn wsX8_hourly wsX8_hourOf := goodIn_r _ [20, 15, 21, 22, 23, 24, 25, 26, 5, 27, 28, 29, 30, 31, 32, 33, 34, 35, 36, 37, 38, 39, 40, 41, 42, 43, 44, 45, 46, 47, 48, 49, 50, 51, 52, 53, 54, 55, 56, 57, 58, 59, 60, 61, 62, 63, 64, 65, 66, 67, 68, 69, 70, 71, 72, 73, 74, 75] (by decide +kernel) (by decide +kernel)
set_option maxRecDepth 20000 in
theorem gX8_hourly_X8_hourOf : GoodIn wsX8_hourly (wsV RX8 124 RX8 yX8_hourOf wsX8_hourOf) := goodIn_app (goodIn_of _ (by decide +kernel)) ggX8_hourly_X8_hourOf
theorem dX8_hourly_0 : decode cX8_hourly 0 = .ok (.aload_n 0, 1) := by decide +kernel
theorem dX8_hourly_1 : decode cX8_hourly 1 = .ok (.iconst 0, 1) := by decide +kernel
theorem dX8_hourly_2 : decode cX8_hourly 2 = .ok (.putfield 64, 3) := by decide +kernel
theorem dX8_hourly_5 : decode cX8_hourly 5 = .ok (.aload_n 0, 1) := by decide +kernel
theorem dX8_hourly_6 : decode cX8_hourly 6 = .ok (.iload_n 1, 1) := by decide +kernel
theorem dX8_hourly_7 : decode cX8_hourly 7 = .ok (.invokevirtual 74, 3) := by decide +kernel
theorem dX8_hourly_10 : decode cX8_hourly 10 = .ok (.ifCond .eq 12, 3) := by decide +kernel
theorem dX8_hourly_13 : decode cX8_hourly 13 = .ok (.iload_n 2, 1) := by decide +kernel
theorem dX8_hourly_14 : decode cX8_hourly 14 = .ok (.iconst 0, 1) := by decide +kernel
theorem dX8_hourly_15 : decode cX8_hourly 15 = .ok (.iconst 3, 1) := by decide +kernel
theorem dX8_hourly_16 : decode cX8_hourly 16 = .ok (.invokestatic 70, 3) := by decide +kernel
theorem dX8_hourly_19 : decode cX8_hourly 19 = .ok (.ifCond .ne 5, 3) := by decide +kernel
theorem dX8_hourly_22 : decode cX8_hourly 22 = .ok (.iconst (-1), 1) := by decide +kernel
theorem dX8_hourly_23 : decode cX8_hourly 23 = .ok (.ireturn, 1) := by decide +kernel
theorem dX8_hourly_24 : decode cX8_hourly 24 = .ok (.aload_n 0, 1) := by decide +kernel
theorem dX8_hourly_25 : decode cX8_hourly 25 = .ok (.iload_n 1, 1) := by decide +kernel
theorem dX8_hourly_26 : decode cX8_hourly 26 = .ok (.invokevirtual 89, 3) := by decide +kernel
theorem dX8_hourly_29 : decode cX8_hourly 29 = .ok (.aload_n 0, 1) := by decide +kernel
theorem dX8_hourly_30 : decode cX8_hourly 30 = .ok (.iload_n 2, 1) := by decide +kernel
theorem dX8_hourly_31 : decode cX8_hourly 31 = .ok (.invokevirtual 124, 3) := by decide +kernel
theorem dX8_hourly_34 : decode cX8_hourly 34 = .ok (.ireturn, 1) := by decide +kernel
set_option maxRecDepth 20000 in
theorem ggX8_isMonth_X8_in : GoodIn wsX8_isMonth wsX8_in := goodIn_r _ [4] (by decide +kernel) (by decide +kernel)
set_option maxRecDepth 20000 in
theorem gX8_isMonth_X8_in : GoodIn wsX8_isMonth (va_wsS RX8 70 yX8_in wsX8_in) := goodIn_app (goodIn_of _ (by decide +kernel)) ggX8_isMonth_X8_in
theorem dX8_isMonth_0 : decode cX8_isMonth 0 = .ok (.iload_n 0, 1) := by decide +kernel
theorem dX8_isMonth_1 : decode cX8_isMonth 1 = .ok (.iconst 0, 1) := by decide +kernel
theorem dX8_isMonth_2 : decode cX8_isMonth 2 = .ok (.bipush 11, 2) := by decide +kernel
theorem dX8_isMonth_4 : decode cX8_isMonth 4 = .ok (.invokestatic 70, 3) := by decide +kernel
theorem dX8_isMonth_7 : decode cX8_isMonth 7 = .ok (.ireturn, 1) := by decide +kernel
set_option maxRecDepth 20000 in
theorem ggX8_spring_X8_isMonth : GoodIn wsX8_spring wsX8_isMonth := goodIn_r _ [7, 8, 9, 6, 10] (by decide +kernel) (by decide +kernel)
set_option maxRecDepth 20000 in
theorem gX8_spring_X8_isMonth : GoodIn wsX8_spring (va_wsS RX8 127 yX8_isMonth wsX8_isMonth) := goodIn_app (goodIn_of _ (by decide +kernel)) ggX8_spring_X8_isMonth
set_option maxRecDepth 20000 in
theorem ggX8_spring_X8_in : GoodIn wsX8_spring wsX8_in := goodIn_r _ [10] (by decide +kernel) (by decide +kernel)
set_option maxRecDepth 20000 in
theorem gX8_spring_X8_in : GoodIn wsX8_spring (va_wsS RX8 70 yX8_in wsX8_in) := goodIn_app (goodIn_of _ (by decide +kernel)) ggX8_spring_X8_in
theorem dX8_spring_0 : decode cX8_spring 0 = .ok (.aload_n 0, 1) := by decide +kernel
theorem dX8_spring_1 : decode cX8_spring 1 = .ok (.iconst 0, 1) := by decide +kernel
theorem dX8_spring_2 : decode cX8_spring 2 = .ok (.putfield 64, 3) := by decide +kernel
theorem dX8_spring_5 : decode cX8_spring 5 = .ok (.iload_n 1, 1) := by decide +kernel
theorem dX8_spring_6 : decode cX8_spring 6 = .ok (.invokestatic 127, 3) := by decide +kernel
theorem dX8_spring_9 : decode cX8_spring 9 = .ok (.ifCond .eq 13, 3) := by decide +kernel
theorem dX8_spring_12 : decode cX8_spring 12 = .ok (.iload_n 2, 1) := by decide +kernel
theorem dX8_spring_13 : decode cX8_spring 13 = .ok (.iconst 0, 1) := by decide +kernel
theorem dX8_spring_14 : decode cX8_spring 14 = .ok (.ldc 130, 2) := by decide +kernel
theorem dX8_spring_16 : decode cX8_spring 16 = .ok (.invokestatic 70, 3) := by decide +kernel
theorem dX8_spring_19 : decode cX8_spring 19 = .ok (.ifCond .ne 5, 3) := by decide +kernel
theorem dX8_spring_22 : decode cX8_spring 22 = .ok (.iconst (-1), 1) := by decide +kernel
theorem dX8_spring_23 : decode cX8_spring 23 = .ok (.ireturn, 1) := by decide +kernel
theorem dX8_spring_24 : decode cX8_spring 24 = .ok (.aload_n 0, 1) := by decide +kernel
theorem dX8_spring_25 : decode cX8_spring 25 = .ok (.getfield 16, 3) := by decide +kernel
theorem dX8_spring_28 : decode cX8_spring 28 = .ok (.iload_n 1, 1) := by decide +kernel
theorem dX8_spring_29 : decode cX8_spring 29 = .ok (.iaload, 1) := by decide +kernel
theorem dX8_spring_30 : decode cX8_spring 30 = .ok (.istore_n 3, 1) := by decide +kernel
theorem dX8_spring_31 : decode cX8_spring 31 = .ok (.aload_n 0, 1) := by decide +kernel
theorem dX8_spring_32 : decode cX8_spring 32 = .ok (.getfield 16, 3) := by decide +kernel
theorem dX8_spring_35 : decode cX8_spring 35 = .ok (.iload_n 1, 1) := by decide +kernel
theorem dX8_spring_36 : decode cX8_spring 36 = .ok (.iload_n 2, 1) := by decide +kernel
theorem dX8_spring_37 : decode cX8_spring 37 = .ok (.iastore, 1) := by decide +kernel
theorem dX8_spring_38 : decode cX8_spring 38 = .ok (.iload_n 3, 1) := by decide +kernel
theorem dX8_spring_39 : decode cX8_spring 39 = .ok (.ireturn, 1) := by decide +kernel
set_option maxRecDepth 20000 in
theorem ggX8_tuned_X8_isRam : GoodIn wsX8_tuned wsX8_isRam := goodIn_r _ [12, 13, 14, 15, 11, 16, 39, 40, 41, 42, 43, 44, 45, 46, 47, 48, 49, 50, 51, 52, 53, 54, 55, 56, 57, 58, 59, 60, 61, 62, 63, 64, 65, 66, 67, 68, 69, 70, 71, 72, 73, 74, 75, 76] (by decide +kernel) (by decide +kernel)
set_option maxRecDepth 20000 in
theorem gX8_tuned_X8_isRam : GoodIn wsX8_tuned (wsV RX8 74 RX8 yX8_isRam wsX8_isRam) := goodIn_app (goodIn_of _ (by decide +kernel)) ggX8_tuned_X8_isRam
set_option maxRecDepth 20000 in
theorem ggX8_tuned_X8_isMonth : GoodIn wsX8_tuned wsX8_isMonth := goodIn_r _ [19, 14, 15, 11, 16] (by decide +kernel) (by decide +kernel)
set_option maxRecDepth 20000 in
theorem gX8_tuned_X8_isMonth : GoodIn wsX8_tuned (va_wsS RX8 127 yX8_isMonth wsX8_isMonth) := goodIn_app (goodIn_of _ (by decide +kernel)) ggX8_tuned_X8_isMonth
set_option maxRecDepth 20000 in
theorem ggX8_tuned_X8_in : GoodIn wsX8_tuned wsX8_in := goodIn_r _ [16] (by decide +kernel) (by decide +kernel)
set_option maxRecDepth 20000 in
theorem gX8_tuned_X8_in : GoodIn wsX8_tuned (va_wsS RX8 70 yX8_in wsX8_in) := goodIn_app (goodIn_of _ (by decide +kernel)) ggX8_tuned_X8_in
set_option maxRecDepth 20000 in
theorem ggX8_tuned_X8_takes : GoodIn wsX8_tuned wsX8_takes := goodIn_r _ [23, 3, 24, 39, 40, 41, 42, 43, 44, 45, 46, 47, 48, 49, 50, 51, 52, 53, 54, 55, 56, 57, 58, 59, 60, 61, 62, 63, 64, 65, 66, 67, 68, 69, 70, 71, 72, 73, 74, 75, 76] (by decide +kernel) (by decide +kernel)
set_option maxRecDepth 20000 in
theorem gX8_tuned_X8_takes : GoodIn wsX8_tuned (wsV RX8 89 RX8 yX8_takes wsX8_takes) := goodIn_app (goodIn_of _ (by decide +kernel)) ggX8_tuned_X8_takes
set_option maxRecDepth 20000 in
theorem ggX8_tuned_X8_beats : GoodIn wsX8_tuned wsX8_beats := goodIn_r _ [28, 3, 29, 6, 4, 30, 5, 31, 32, 33, 34, 35, 36, 37, 11, 38, 39, 40, 41, 42, 43, 44, 45, 46, 47, 48, 49, 50, 51, 52, 53, 54, 55, 56, 57, 58, 59, 60, 61, 62, 63, 64, 65, 66, 67, 68, 69, 70, 71, 72, 73, 74, 75, 76] (by decide +kernel) (by decide +kernel)
set_option maxRecDepth 20000 in
theorem gX8_tuned_X8_beats : GoodIn wsX8_tuned (wsV RX8 120 RX8 yX8_beats wsX8_beats) := goodIn_app (goodIn_of _ (by decide +kernel)) ggX8_tuned_X8_beats
theorem dX8_tuned_0 : decode cX8_tuned 0 = .ok (.aload_n 0, 1) := by decide +kernel
theorem dX8_tuned_1 : decode cX8_tuned 1 = .ok (.iconst 0, 1) := by decide +kernel
theorem dX8_tuned_2 : decode cX8_tuned 2 = .ok (.putfield 64, 3) := by decide +kernel
theorem dX8_tuned_5 : decode cX8_tuned 5 = .ok (.aload_n 0, 1) := by decide +kernel
theorem dX8_tuned_6 : decode cX8_tuned 6 = .ok (.iload_n 1, 1) := by decide +kernel
theorem dX8_tuned_7 : decode cX8_tuned 7 = .ok (.invokevirtual 74, 3) := by decide +kernel
theorem dX8_tuned_10 : decode cX8_tuned 10 = .ok (.ifCond .eq 29, 3) := by decide +kernel
theorem dX8_tuned_13 : decode cX8_tuned 13 = .ok (.iload_n 2, 1) := by decide +kernel
theorem dX8_tuned_14 : decode cX8_tuned 14 = .ok (.invokestatic 127, 3) := by decide +kernel
theorem dX8_tuned_17 : decode cX8_tuned 17 = .ok (.ifCond .eq 22, 3) := by decide +kernel
theorem dX8_tuned_20 : decode cX8_tuned 20 = .ok (.iload_n 3, 1) := by decide +kernel
theorem dX8_tuned_21 : decode cX8_tuned 21 = .ok (.iconst 0, 1) := by decide +kernel
theorem dX8_tuned_22 : decode cX8_tuned 22 = .ok (.iconst 1, 1) := by decide +kernel
theorem dX8_tuned_23 : decode cX8_tuned 23 = .ok (.invokestatic 70, 3) := by decide +kernel
theorem dX8_tuned_26 : decode cX8_tuned 26 = .ok (.ifCond .eq 13, 3) := by decide +kernel
theorem dX8_tuned_29 : decode cX8_tuned 29 = .ok (.iload 4, 2) := by decide +kernel
theorem dX8_tuned_31 : decode cX8_tuned 31 = .ok (.iconst 0, 1) := by decide +kernel
theorem dX8_tuned_32 : decode cX8_tuned 32 = .ok (.iconst 2, 1) := by decide +kernel
theorem dX8_tuned_33 : decode cX8_tuned 33 = .ok (.invokestatic 70, 3) := by decide +kernel
theorem dX8_tuned_36 : decode cX8_tuned 36 = .ok (.ifCond .ne 5, 3) := by decide +kernel
theorem dX8_tuned_39 : decode cX8_tuned 39 = .ok (.iconst (-1), 1) := by decide +kernel
theorem dX8_tuned_40 : decode cX8_tuned 40 = .ok (.ireturn, 1) := by decide +kernel
theorem dX8_tuned_41 : decode cX8_tuned 41 = .ok (.aload_n 0, 1) := by decide +kernel
theorem dX8_tuned_42 : decode cX8_tuned 42 = .ok (.iload_n 1, 1) := by decide +kernel
theorem dX8_tuned_43 : decode cX8_tuned 43 = .ok (.invokevirtual 89, 3) := by decide +kernel
theorem dX8_tuned_46 : decode cX8_tuned 46 = .ok (.bipush (-9), 2) := by decide +kernel
theorem dX8_tuned_48 : decode cX8_tuned 48 = .ok (.istore 5, 2) := by decide +kernel
theorem dX8_tuned_50 : decode cX8_tuned 50 = .ok (.bipush (-9), 2) := by decide +kernel
theorem dX8_tuned_52 : decode cX8_tuned 52 = .ok (.istore 6, 2) := by decide +kernel
theorem dX8_tuned_54 : decode cX8_tuned 54 = .ok (.ldc2_w 131, 3) := by decide +kernel
theorem dX8_tuned_57 : decode cX8_tuned 57 = .ok (.lstore 7, 2) := by decide +kernel
theorem dX8_tuned_59 : decode cX8_tuned 59 = .ok (.lconst 0, 1) := by decide +kernel
theorem dX8_tuned_60 : decode cX8_tuned 60 = .ok (.lstore 9, 2) := by decide +kernel
theorem dX8_tuned_62 : decode cX8_tuned 62 = .ok (.iconst 5, 1) := by decide +kernel
theorem dX8_tuned_63 : decode cX8_tuned 63 = .ok (.istore 11, 2) := by decide +kernel
theorem dX8_tuned_65 : decode cX8_tuned 65 = .ok (.iload 11, 2) := by decide +kernel
theorem dX8_tuned_67 : decode cX8_tuned 67 = .ok (.sipush 400, 3) := by decide +kernel
theorem dX8_tuned_70 : decode cX8_tuned 70 = .ok (.if_icmp .gt 187, 3) := by decide +kernel
theorem dX8_tuned_73 : decode cX8_tuned 73 = .ok (.iconst 1, 1) := by decide +kernel
theorem dX8_tuned_74 : decode cX8_tuned 74 = .ok (.istore 12, 2) := by decide +kernel
theorem dX8_tuned_76 : decode cX8_tuned 76 = .ok (.iload 12, 2) := by decide +kernel
theorem dX8_tuned_78 : decode cX8_tuned 78 = .ok (.bipush 10, 2) := by decide +kernel
theorem dX8_tuned_80 : decode cX8_tuned 80 = .ok (.if_icmp .ge 171, 3) := by decide +kernel
theorem dX8_tuned_83 : decode cX8_tuned 83 = .ok (.aload_n 0, 1) := by decide +kernel
theorem dX8_tuned_84 : decode cX8_tuned 84 = .ok (.getfield 13, 3) := by decide +kernel
theorem dX8_tuned_87 : decode cX8_tuned 87 = .ok (.iconst 4, 1) := by decide +kernel
theorem dX8_tuned_88 : decode cX8_tuned 88 = .ok (.iload 11, 2) := by decide +kernel
theorem dX8_tuned_90 : decode cX8_tuned 90 = .ok (.iastore, 1) := by decide +kernel
theorem dX8_tuned_91 : decode cX8_tuned 91 = .ok (.aload_n 0, 1) := by decide +kernel
theorem dX8_tuned_92 : decode cX8_tuned 92 = .ok (.getfield 13, 3) := by decide +kernel
theorem dX8_tuned_95 : decode cX8_tuned 95 = .ok (.iconst 5, 1) := by decide +kernel
theorem dX8_tuned_96 : decode cX8_tuned 96 = .ok (.iload 12, 2) := by decide +kernel
theorem dX8_tuned_98 : decode cX8_tuned 98 = .ok (.iastore, 1) := by decide +kernel
theorem dX8_tuned_99 : decode cX8_tuned 99 = .ok (.aload_n 0, 1) := by decide +kernel
theorem dX8_tuned_100 : decode cX8_tuned 100 = .ok (.invokevirtual 120, 3) := by decide +kernel
theorem dX8_tuned_103 : decode cX8_tuned 103 = .ok (.ifCond .eq 142, 3) := by decide +kernel
theorem dX8_tuned_106 : decode cX8_tuned 106 = .ok (.aload_n 0, 1) := by decide +kernel
theorem dX8_tuned_107 : decode cX8_tuned 107 = .ok (.getfield 103, 3) := by decide +kernel
theorem dX8_tuned_110 : decode cX8_tuned 110 = .ok (.lconst 0, 1) := by decide +kernel
theorem dX8_tuned_111 : decode cX8_tuned 111 = .ok (.lcmp, 1) := by decide +kernel
theorem dX8_tuned_112 : decode cX8_tuned 112 = .ok (.ifCond .le 133, 3) := by decide +kernel
theorem dX8_tuned_115 : decode cX8_tuned 115 = .ok (.sipush 3600, 3) := by decide +kernel
theorem dX8_tuned_118 : decode cX8_tuned 118 = .ok (.aload_n 0, 1) := by decide +kernel
theorem dX8_tuned_119 : decode cX8_tuned 119 = .ok (.getfield 109, 3) := by decide +kernel
theorem dX8_tuned_122 : decode cX8_tuned 122 = .ok (.idiv, 1) := by decide +kernel
theorem dX8_tuned_123 : decode cX8_tuned 123 = .ok (.i2l, 1) := by decide +kernel
theorem dX8_tuned_124 : decode cX8_tuned 124 = .ok (.lstore 13, 2) := by decide +kernel
theorem dX8_tuned_126 : decode cX8_tuned 126 = .ok (.iload 5, 2) := by decide +kernel
theorem dX8_tuned_128 : decode cX8_tuned 128 = .ok (.bipush (-9), 2) := by decide +kernel
theorem dX8_tuned_130 : decode cX8_tuned 130 = .ok (.if_icmp .eq 47, 3) := by decide +kernel
theorem dX8_tuned_133 : decode cX8_tuned 133 = .ok (.iload_n 3, 1) := by decide +kernel
theorem dX8_tuned_134 : decode cX8_tuned 134 = .ok (.ifCond .ne 19, 3) := by decide +kernel
theorem dX8_tuned_137 : decode cX8_tuned 137 = .ok (.lload 13, 2) := by decide +kernel
theorem dX8_tuned_139 : decode cX8_tuned 139 = .ok (.aload_n 0, 1) := by decide +kernel
theorem dX8_tuned_140 : decode cX8_tuned 140 = .ok (.getfield 103, 3) := by decide +kernel
theorem dX8_tuned_143 : decode cX8_tuned 143 = .ok (.lmul, 1) := by decide +kernel
theorem dX8_tuned_144 : decode cX8_tuned 144 = .ok (.lload 7, 2) := by decide +kernel
theorem dX8_tuned_146 : decode cX8_tuned 146 = .ok (.lcmp, 1) := by decide +kernel
theorem dX8_tuned_147 : decode cX8_tuned 147 = .ok (.ifCond .le 34, 3) := by decide +kernel
theorem dX8_tuned_150 : decode cX8_tuned 150 = .ok (.goto 27, 3) := by decide +kernel
theorem dX8_tuned_153 : decode cX8_tuned 153 = .ok (.lload 13, 2) := by decide +kernel
theorem dX8_tuned_155 : decode cX8_tuned 155 = .ok (.aload_n 0, 1) := by decide +kernel
theorem dX8_tuned_156 : decode cX8_tuned 156 = .ok (.getfield 100, 3) := by decide +kernel
theorem dX8_tuned_159 : decode cX8_tuned 159 = .ok (.lmul, 1) := by decide +kernel
theorem dX8_tuned_160 : decode cX8_tuned 160 = .ok (.lload 7, 2) := by decide +kernel
theorem dX8_tuned_162 : decode cX8_tuned 162 = .ok (.lmul, 1) := by decide +kernel
theorem dX8_tuned_163 : decode cX8_tuned 163 = .ok (.lload 9, 2) := by decide +kernel
theorem dX8_tuned_165 : decode cX8_tuned 165 = .ok (.lload 13, 2) := by decide +kernel
theorem dX8_tuned_167 : decode cX8_tuned 167 = .ok (.lmul, 1) := by decide +kernel
theorem dX8_tuned_168 : decode cX8_tuned 168 = .ok (.aload_n 0, 1) := by decide +kernel
theorem dX8_tuned_169 : decode cX8_tuned 169 = .ok (.getfield 103, 3) := by decide +kernel
theorem dX8_tuned_172 : decode cX8_tuned 172 = .ok (.lmul, 1) := by decide +kernel
theorem dX8_tuned_173 : decode cX8_tuned 173 = .ok (.lcmp, 1) := by decide +kernel
theorem dX8_tuned_174 : decode cX8_tuned 174 = .ok (.ifCond .ge 7, 3) := by decide +kernel
theorem dX8_tuned_177 : decode cX8_tuned 177 = .ok (.iconst 1, 1) := by decide +kernel
theorem dX8_tuned_178 : decode cX8_tuned 178 = .ok (.goto 4, 3) := by decide +kernel
theorem dX8_tuned_181 : decode cX8_tuned 181 = .ok (.iconst 0, 1) := by decide +kernel
theorem dX8_tuned_182 : decode cX8_tuned 182 = .ok (.istore 15, 2) := by decide +kernel
theorem dX8_tuned_184 : decode cX8_tuned 184 = .ok (.lload 13, 2) := by decide +kernel
theorem dX8_tuned_186 : decode cX8_tuned 186 = .ok (.aload_n 0, 1) := by decide +kernel
theorem dX8_tuned_187 : decode cX8_tuned 187 = .ok (.getfield 100, 3) := by decide +kernel
theorem dX8_tuned_190 : decode cX8_tuned 190 = .ok (.aload_n 0, 1) := by decide +kernel
theorem dX8_tuned_191 : decode cX8_tuned 191 = .ok (.getfield 103, 3) := by decide +kernel
theorem dX8_tuned_194 : decode cX8_tuned 194 = .ok (.ladd, 1) := by decide +kernel
theorem dX8_tuned_195 : decode cX8_tuned 195 = .ok (.lmul, 1) := by decide +kernel
theorem dX8_tuned_196 : decode cX8_tuned 196 = .ok (.aload_n 0, 1) := by decide +kernel
theorem dX8_tuned_197 : decode cX8_tuned 197 = .ok (.getfield 16, 3) := by decide +kernel
theorem dX8_tuned_200 : decode cX8_tuned 200 = .ok (.iload_n 2, 1) := by decide +kernel
theorem dX8_tuned_201 : decode cX8_tuned 201 = .ok (.iaload, 1) := by decide +kernel
theorem dX8_tuned_202 : decode cX8_tuned 202 = .ok (.i2l, 1) := by decide +kernel
theorem dX8_tuned_203 : decode cX8_tuned 203 = .ok (.lcmp, 1) := by decide +kernel
theorem dX8_tuned_204 : decode cX8_tuned 204 = .ok (.ifCond .gt 41, 3) := by decide +kernel
theorem dX8_tuned_207 : decode cX8_tuned 207 = .ok (.lload 13, 2) := by decide +kernel
theorem dX8_tuned_209 : decode cX8_tuned 209 = .ok (.lconst 0, 1) := by decide +kernel
theorem dX8_tuned_210 : decode cX8_tuned 210 = .ok (.lcmp, 1) := by decide +kernel
theorem dX8_tuned_211 : decode cX8_tuned 211 = .ok (.ifCond .le 34, 3) := by decide +kernel
theorem dX8_tuned_214 : decode cX8_tuned 214 = .ok (.iload 15, 2) := by decide +kernel
theorem dX8_tuned_216 : decode cX8_tuned 216 = .ok (.ifCond .eq 29, 3) := by decide +kernel
theorem dX8_tuned_219 : decode cX8_tuned 219 = .ok (.iload 11, 2) := by decide +kernel
theorem dX8_tuned_221 : decode cX8_tuned 221 = .ok (.istore 5, 2) := by decide +kernel
theorem dX8_tuned_223 : decode cX8_tuned 223 = .ok (.iload 12, 2) := by decide +kernel
theorem dX8_tuned_225 : decode cX8_tuned 225 = .ok (.istore 6, 2) := by decide +kernel
theorem dX8_tuned_227 : decode cX8_tuned 227 = .ok (.lload 13, 2) := by decide +kernel
theorem dX8_tuned_229 : decode cX8_tuned 229 = .ok (.aload_n 0, 1) := by decide +kernel
theorem dX8_tuned_230 : decode cX8_tuned 230 = .ok (.getfield 103, 3) := by decide +kernel
theorem dX8_tuned_233 : decode cX8_tuned 233 = .ok (.lmul, 1) := by decide +kernel
theorem dX8_tuned_234 : decode cX8_tuned 234 = .ok (.lstore 7, 2) := by decide +kernel
theorem dX8_tuned_236 : decode cX8_tuned 236 = .ok (.lload 13, 2) := by decide +kernel
theorem dX8_tuned_238 : decode cX8_tuned 238 = .ok (.aload_n 0, 1) := by decide +kernel
theorem dX8_tuned_239 : decode cX8_tuned 239 = .ok (.getfield 100, 3) := by decide +kernel
theorem dX8_tuned_242 : decode cX8_tuned 242 = .ok (.lmul, 1) := by decide +kernel
theorem dX8_tuned_243 : decode cX8_tuned 243 = .ok (.lstore 9, 2) := by decide +kernel
theorem dX8_tuned_245 : decode cX8_tuned 245 = .ok (.iinc 12 1, 3) := by decide +kernel
theorem dX8_tuned_248 : decode cX8_tuned 248 = .ok (.goto (-172), 3) := by decide +kernel
theorem dX8_tuned_251 : decode cX8_tuned 251 = .ok (.iinc 11 5, 3) := by decide +kernel
theorem dX8_tuned_254 : decode cX8_tuned 254 = .ok (.goto (-189), 3) := by decide +kernel
theorem dX8_tuned_257 : decode cX8_tuned 257 = .ok (.iload 4, 2) := by decide +kernel
theorem dX8_tuned_259 : decode cX8_tuned 259 = .ok (.ifCond .ne 8, 3) := by decide +kernel
theorem dX8_tuned_262 : decode cX8_tuned 262 = .ok (.iload 5, 2) := by decide +kernel
theorem dX8_tuned_264 : decode cX8_tuned 264 = .ok (.goto 17, 3) := by decide +kernel
theorem dX8_tuned_267 : decode cX8_tuned 267 = .ok (.iload 4, 2) := by decide +kernel
theorem dX8_tuned_269 : decode cX8_tuned 269 = .ok (.iconst 1, 1) := by decide +kernel
theorem dX8_tuned_270 : decode cX8_tuned 270 = .ok (.if_icmp .ne 8, 3) := by decide +kernel
theorem dX8_tuned_273 : decode cX8_tuned 273 = .ok (.iload 6, 2) := by decide +kernel
theorem dX8_tuned_275 : decode cX8_tuned 275 = .ok (.goto 6, 3) := by decide +kernel
theorem dX8_tuned_278 : decode cX8_tuned 278 = .ok (.lload 7, 2) := by decide +kernel
theorem dX8_tuned_280 : decode cX8_tuned 280 = .ok (.l2i, 1) := by decide +kernel
theorem dX8_tuned_281 : decode cX8_tuned 281 = .ok (.ireturn, 1) := by decide +kernel
set_option maxRecDepth 20000 in
theorem ggX8_tune_X8_in : GoodIn wsX8_tune wsX8_in := goodIn_r _ [8] (by decide +kernel) (by decide +kernel)
set_option maxRecDepth 20000 in
theorem gX8_tune_X8_in : GoodIn wsX8_tune (va_wsS RX8 70 yX8_in wsX8_in) := goodIn_app (goodIn_of _ (by decide +kernel)) ggX8_tune_X8_in
theorem dX8_tune_0 : decode cX8_tune 0 = .ok (.aload_n 0, 1) := by decide +kernel
theorem dX8_tune_1 : decode cX8_tune 1 = .ok (.iconst 0, 1) := by decide +kernel
theorem dX8_tune_2 : decode cX8_tune 2 = .ok (.putfield 64, 3) := by decide +kernel
theorem dX8_tune_5 : decode cX8_tune 5 = .ok (.iload_n 1, 1) := by decide +kernel
theorem dX8_tune_6 : decode cX8_tune 6 = .ok (.iconst 5, 1) := by decide +kernel
theorem dX8_tune_7 : decode cX8_tune 7 = .ok (.sipush 400, 3) := by decide +kernel
theorem dX8_tune_10 : decode cX8_tune 10 = .ok (.invokestatic 70, 3) := by decide +kernel
theorem dX8_tune_13 : decode cX8_tune 13 = .ok (.ifCond .eq 13, 3) := by decide +kernel
theorem dX8_tune_16 : decode cX8_tune 16 = .ok (.iload_n 2, 1) := by decide +kernel
theorem dX8_tune_17 : decode cX8_tune 17 = .ok (.iconst 1, 1) := by decide +kernel
theorem dX8_tune_18 : decode cX8_tune 18 = .ok (.bipush 9, 2) := by decide +kernel
theorem dX8_tune_20 : decode cX8_tune 20 = .ok (.invokestatic 70, 3) := by decide +kernel
theorem dX8_tune_23 : decode cX8_tune 23 = .ok (.ifCond .ne 5, 3) := by decide +kernel
theorem dX8_tune_26 : decode cX8_tune 26 = .ok (.iconst (-1), 1) := by decide +kernel
theorem dX8_tune_27 : decode cX8_tune 27 = .ok (.ireturn, 1) := by decide +kernel
theorem dX8_tune_28 : decode cX8_tune 28 = .ok (.aload_n 0, 1) := by decide +kernel
theorem dX8_tune_29 : decode cX8_tune 29 = .ok (.getfield 133, 3) := by decide +kernel
theorem dX8_tune_32 : decode cX8_tune 32 = .ok (.bipush 6, 2) := by decide +kernel
theorem dX8_tune_34 : decode cX8_tune 34 = .ok (.if_icmp .ne 6, 3) := by decide +kernel
theorem dX8_tune_37 : decode cX8_tune 37 = .ok (.bipush (-3), 2) := by decide +kernel
theorem dX8_tune_39 : decode cX8_tune 39 = .ok (.ireturn, 1) := by decide +kernel
theorem dX8_tune_40 : decode cX8_tune 40 = .ok (.aload_n 0, 1) := by decide +kernel
theorem dX8_tune_41 : decode cX8_tune 41 = .ok (.getfield 22, 3) := by decide +kernel
theorem dX8_tune_44 : decode cX8_tune 44 = .ok (.aload_n 0, 1) := by decide +kernel
theorem dX8_tune_45 : decode cX8_tune 45 = .ok (.getfield 133, 3) := by decide +kernel
theorem dX8_tune_48 : decode cX8_tune 48 = .ok (.iload_n 1, 1) := by decide +kernel
theorem dX8_tune_49 : decode cX8_tune 49 = .ok (.iastore, 1) := by decide +kernel
theorem dX8_tune_50 : decode cX8_tune 50 = .ok (.aload_n 0, 1) := by decide +kernel
theorem dX8_tune_51 : decode cX8_tune 51 = .ok (.getfield 25, 3) := by decide +kernel
theorem dX8_tune_54 : decode cX8_tune 54 = .ok (.aload_n 0, 1) := by decide +kernel
theorem dX8_tune_55 : decode cX8_tune 55 = .ok (.getfield 133, 3) := by decide +kernel
theorem dX8_tune_58 : decode cX8_tune 58 = .ok (.iload_n 2, 1) := by decide +kernel
theorem dX8_tune_59 : decode cX8_tune 59 = .ok (.iastore, 1) := by decide +kernel
theorem dX8_tune_60 : decode cX8_tune 60 = .ok (.aload_n 0, 1) := by decide +kernel
theorem dX8_tune_61 : decode cX8_tune 61 = .ok (.dup, 1) := by decide +kernel
theorem dX8_tune_62 : decode cX8_tune 62 = .ok (.getfield 133, 3) := by decide +kernel
theorem dX8_tune_65 : decode cX8_tune 65 = .ok (.iconst 1, 1) := by decide +kernel
theorem dX8_tune_66 : decode cX8_tune 66 = .ok (.iadd, 1) := by decide +kernel
theorem dX8_tune_67 : decode cX8_tune 67 = .ok (.putfield 133, 3) := by decide +kernel
theorem dX8_tune_70 : decode cX8_tune 70 = .ok (.aload_n 0, 1) := by decide +kernel
theorem dX8_tune_71 : decode cX8_tune 71 = .ok (.getfield 133, 3) := by decide +kernel
theorem dX8_tune_74 : decode cX8_tune 74 = .ok (.iconst 1, 1) := by decide +kernel
theorem dX8_tune_75 : decode cX8_tune 75 = .ok (.isub, 1) := by decide +kernel
theorem dX8_tune_76 : decode cX8_tune 76 = .ok (.ireturn, 1) := by decide +kernel
theorem dX8_forget_0 : decode cX8_forget 0 = .ok (.aload_n 0, 1) := by decide +kernel
theorem dX8_forget_1 : decode cX8_forget 1 = .ok (.iconst 0, 1) := by decide +kernel
theorem dX8_forget_2 : decode cX8_forget 2 = .ok (.putfield 64, 3) := by decide +kernel
theorem dX8_forget_5 : decode cX8_forget 5 = .ok (.aload_n 0, 1) := by decide +kernel
theorem dX8_forget_6 : decode cX8_forget 6 = .ok (.getfield 133, 3) := by decide +kernel
theorem dX8_forget_9 : decode cX8_forget 9 = .ok (.istore_n 1, 1) := by decide +kernel
theorem dX8_forget_10 : decode cX8_forget 10 = .ok (.aload_n 0, 1) := by decide +kernel
theorem dX8_forget_11 : decode cX8_forget 11 = .ok (.iconst 0, 1) := by decide +kernel
theorem dX8_forget_12 : decode cX8_forget 12 = .ok (.putfield 133, 3) := by decide +kernel
theorem dX8_forget_15 : decode cX8_forget 15 = .ok (.iload_n 1, 1) := by decide +kernel
theorem dX8_forget_16 : decode cX8_forget 16 = .ok (.ireturn, 1) := by decide +kernel
theorem dX8_numbers_0 : decode cX8_numbers 0 = .ok (.iconst 1, 1) := by decide +kernel
theorem dX8_numbers_1 : decode cX8_numbers 1 = .ok (.istore_n 1, 1) := by decide +kernel
theorem dX8_numbers_2 : decode cX8_numbers 2 = .ok (.iconst 0, 1) := by decide +kernel
theorem dX8_numbers_3 : decode cX8_numbers 3 = .ok (.istore_n 2, 1) := by decide +kernel
theorem dX8_numbers_4 : decode cX8_numbers 4 = .ok (.iload_n 2, 1) := by decide +kernel
theorem dX8_numbers_5 : decode cX8_numbers 5 = .ok (.aload_n 0, 1) := by decide +kernel
theorem dX8_numbers_6 : decode cX8_numbers 6 = .ok (.getfield 67, 3) := by decide +kernel
theorem dX8_numbers_9 : decode cX8_numbers 9 = .ok (.if_icmp .ge 14, 3) := by decide +kernel
theorem dX8_numbers_12 : decode cX8_numbers 12 = .ok (.iload_n 1, 1) := by decide +kernel
theorem dX8_numbers_13 : decode cX8_numbers 13 = .ok (.bipush 7, 2) := by decide +kernel
theorem dX8_numbers_15 : decode cX8_numbers 15 = .ok (.imul, 1) := by decide +kernel
theorem dX8_numbers_16 : decode cX8_numbers 16 = .ok (.istore_n 1, 1) := by decide +kernel
theorem dX8_numbers_17 : decode cX8_numbers 17 = .ok (.iinc 2 1, 3) := by decide +kernel
theorem dX8_numbers_20 : decode cX8_numbers 20 = .ok (.goto (-16), 3) := by decide +kernel
theorem dX8_numbers_23 : decode cX8_numbers 23 = .ok (.iload_n 1, 1) := by decide +kernel
theorem dX8_numbers_24 : decode cX8_numbers 24 = .ok (.ireturn, 1) := by decide +kernel
set_option maxRecDepth 20000 in
theorem ggX8_side_X8_isMonth : GoodIn wsX8_side wsX8_isMonth := goodIn_r _ [15, 16, 17, 14, 18] (by decide +kernel) (by decide +kernel)
set_option maxRecDepth 20000 in
theorem gX8_side_X8_isMonth : GoodIn wsX8_side (va_wsS RX8 127 yX8_isMonth wsX8_isMonth) := goodIn_app (goodIn_of _ (by decide +kernel)) ggX8_side_X8_isMonth
set_option maxRecDepth 20000 in
theorem ggX8_side_X8_in : GoodIn wsX8_side wsX8_in := goodIn_r _ [18] (by decide +kernel) (by decide +kernel)
set_option maxRecDepth 20000 in
theorem gX8_side_X8_in : GoodIn wsX8_side (va_wsS RX8 70 yX8_in wsX8_in) := goodIn_app (goodIn_of _ (by decide +kernel)) ggX8_side_X8_in
set_option maxRecDepth 20000 in
theorem ggX8_side_X8_numbers : GoodIn wsX8_side wsX8_numbers := goodIn_r _ [22, 3, 42, 43, 44, 45, 46, 47, 48, 49, 50, 51, 52, 53, 54, 55, 56, 57, 58, 59, 60, 61, 62, 63, 64, 65, 66, 67, 68, 69, 70, 71, 72, 73, 74, 75, 76, 77, 78, 79] (by decide +kernel) (by decide +kernel)
set_option maxRecDepth 20000 in
theorem gX8_side_X8_numbers : GoodIn wsX8_side (wsV RX8 138 RX8 yX8_numbers wsX8_numbers) := goodIn_app (goodIn_of _ (by decide +kernel)) ggX8_side_X8_numbers
set_option maxRecDepth 20000 in
theorem ggX8_side_X8_takes : GoodIn wsX8_side wsX8_takes := goodIn_r _ [26, 5, 27, 42, 43, 44, 45, 46, 47, 48, 49, 50, 51, 52, 53, 54, 55, 56, 57, 58, 59, 60, 61, 62, 63, 64, 65, 66, 67, 68, 69, 70, 71, 72, 73, 74, 75, 76, 77, 78, 79] (by decide +kernel) (by decide +kernel)
set_option maxRecDepth 20000 in
theorem gX8_side_X8_takes : GoodIn wsX8_side (wsV RX8 89 RX8 yX8_takes wsX8_takes) := goodIn_app (goodIn_of _ (by decide +kernel)) ggX8_side_X8_takes
set_option maxRecDepth 20000 in
theorem ggX8_side_X8_beats : GoodIn wsX8_side wsX8_beats := goodIn_r _ [31, 5, 32, 10, 9, 33, 8, 34, 35, 36, 37, 38, 39, 40, 14, 41, 42, 43, 44, 45, 46, 47, 48, 49, 50, 51, 52, 53, 54, 55, 56, 57, 58, 59, 60, 61, 62, 63, 64, 65, 66, 67, 68, 69, 70, 71, 72, 73, 74, 75, 76, 77, 78, 79] (by decide +kernel) (by decide +kernel)
set_option maxRecDepth 20000 in
theorem gX8_side_X8_beats : GoodIn wsX8_side (wsV RX8 120 RX8 yX8_beats wsX8_beats) := goodIn_app (goodIn_of _ (by decide +kernel)) ggX8_side_X8_beats
theorem dX8_side_0 : decode cX8_side 0 = .ok (.aload_n 0, 1) := by decide +kernel
theorem dX8_side_1 : decode cX8_side 1 = .ok (.iconst 0, 1) := by decide +kernel
theorem dX8_side_2 : decode cX8_side 2 = .ok (.putfield 64, 3) := by decide +kernel
theorem dX8_side_5 : decode cX8_side 5 = .ok (.iload_n 1, 1) := by decide +kernel
theorem dX8_side_6 : decode cX8_side 6 = .ok (.invokestatic 127, 3) := by decide +kernel
theorem dX8_side_9 : decode cX8_side 9 = .ok (.ifCond .eq 12, 3) := by decide +kernel
theorem dX8_side_12 : decode cX8_side 12 = .ok (.iload_n 2, 1) := by decide +kernel
theorem dX8_side_13 : decode cX8_side 13 = .ok (.iconst 0, 1) := by decide +kernel
theorem dX8_side_14 : decode cX8_side 14 = .ok (.iconst 1, 1) := by decide +kernel
theorem dX8_side_15 : decode cX8_side 15 = .ok (.invokestatic 70, 3) := by decide +kernel
theorem dX8_side_18 : decode cX8_side 18 = .ok (.ifCond .ne 5, 3) := by decide +kernel
theorem dX8_side_21 : decode cX8_side 21 = .ok (.iconst (-1), 1) := by decide +kernel
theorem dX8_side_22 : decode cX8_side 22 = .ok (.ireturn, 1) := by decide +kernel
theorem dX8_side_23 : decode cX8_side 23 = .ok (.iconst 0, 1) := by decide +kernel
theorem dX8_side_24 : decode cX8_side 24 = .ok (.istore_n 3, 1) := by decide +kernel
theorem dX8_side_25 : decode cX8_side 25 = .ok (.ldc2_w 136, 3) := by decide +kernel
theorem dX8_side_28 : decode cX8_side 28 = .ok (.lstore 4, 2) := by decide +kernel
theorem dX8_side_30 : decode cX8_side 30 = .ok (.iconst 0, 1) := by decide +kernel
theorem dX8_side_31 : decode cX8_side 31 = .ok (.istore 6, 2) := by decide +kernel
theorem dX8_side_33 : decode cX8_side 33 = .ok (.iload 6, 2) := by decide +kernel
theorem dX8_side_35 : decode cX8_side 35 = .ok (.aload_n 0, 1) := by decide +kernel
theorem dX8_side_36 : decode cX8_side 36 = .ok (.invokevirtual 138, 3) := by decide +kernel
theorem dX8_side_39 : decode cX8_side 39 = .ok (.if_icmp .ge 234, 3) := by decide +kernel
theorem dX8_side_42 : decode cX8_side 42 = .ok (.iload 6, 2) := by decide +kernel
theorem dX8_side_44 : decode cX8_side 44 = .ok (.istore 7, 2) := by decide +kernel
theorem dX8_side_46 : decode cX8_side 46 = .ok (.lconst 0, 1) := by decide +kernel
theorem dX8_side_47 : decode cX8_side 47 = .ok (.lstore 8, 2) := by decide +kernel
theorem dX8_side_49 : decode cX8_side 49 = .ok (.lconst 0, 1) := by decide +kernel
theorem dX8_side_50 : decode cX8_side 50 = .ok (.lstore 10, 2) := by decide +kernel
theorem dX8_side_52 : decode cX8_side 52 = .ok (.iconst 1, 1) := by decide +kernel
theorem dX8_side_53 : decode cX8_side 53 = .ok (.istore 12, 2) := by decide +kernel
theorem dX8_side_55 : decode cX8_side 55 = .ok (.iconst 0, 1) := by decide +kernel
theorem dX8_side_56 : decode cX8_side 56 = .ok (.istore 13, 2) := by decide +kernel
theorem dX8_side_58 : decode cX8_side 58 = .ok (.iload 13, 2) := by decide +kernel
theorem dX8_side_60 : decode cX8_side 60 = .ok (.aload_n 0, 1) := by decide +kernel
theorem dX8_side_61 : decode cX8_side 61 = .ok (.getfield 67, 3) := by decide +kernel
theorem dX8_side_64 : decode cX8_side 64 = .ok (.if_icmp .ge 170, 3) := by decide +kernel
theorem dX8_side_67 : decode cX8_side 67 = .ok (.iload 12, 2) := by decide +kernel
theorem dX8_side_69 : decode cX8_side 69 = .ok (.ifCond .eq 165, 3) := by decide +kernel
theorem dX8_side_72 : decode cX8_side 72 = .ok (.iload 7, 2) := by decide +kernel
theorem dX8_side_74 : decode cX8_side 74 = .ok (.bipush 7, 2) := by decide +kernel
theorem dX8_side_76 : decode cX8_side 76 = .ok (.irem, 1) := by decide +kernel
theorem dX8_side_77 : decode cX8_side 77 = .ok (.istore 14, 2) := by decide +kernel
theorem dX8_side_79 : decode cX8_side 79 = .ok (.iload 7, 2) := by decide +kernel
theorem dX8_side_81 : decode cX8_side 81 = .ok (.bipush 7, 2) := by decide +kernel
theorem dX8_side_83 : decode cX8_side 83 = .ok (.idiv, 1) := by decide +kernel
theorem dX8_side_84 : decode cX8_side 84 = .ok (.istore 7, 2) := by decide +kernel
theorem dX8_side_86 : decode cX8_side 86 = .ok (.iload 14, 2) := by decide +kernel
theorem dX8_side_88 : decode cX8_side 88 = .ok (.ifCond .le 140, 3) := by decide +kernel
theorem dX8_side_91 : decode cX8_side 91 = .ok (.iload 14, 2) := by decide +kernel
theorem dX8_side_93 : decode cX8_side 93 = .ok (.aload_n 0, 1) := by decide +kernel
theorem dX8_side_94 : decode cX8_side 94 = .ok (.getfield 133, 3) := by decide +kernel
theorem dX8_side_97 : decode cX8_side 97 = .ok (.if_icmp .gt 7, 3) := by decide +kernel
theorem dX8_side_100 : decode cX8_side 100 = .ok (.iconst 1, 1) := by decide +kernel
theorem dX8_side_101 : decode cX8_side 101 = .ok (.goto 4, 3) := by decide +kernel
theorem dX8_side_104 : decode cX8_side 104 = .ok (.iconst 0, 1) := by decide +kernel
theorem dX8_side_105 : decode cX8_side 105 = .ok (.istore 12, 2) := by decide +kernel
theorem dX8_side_107 : decode cX8_side 107 = .ok (.aload_n 0, 1) := by decide +kernel
theorem dX8_side_108 : decode cX8_side 108 = .ok (.iload 13, 2) := by decide +kernel
theorem dX8_side_110 : decode cX8_side 110 = .ok (.invokevirtual 89, 3) := by decide +kernel
theorem dX8_side_113 : decode cX8_side 113 = .ok (.aload_n 0, 1) := by decide +kernel
theorem dX8_side_114 : decode cX8_side 114 = .ok (.getfield 13, 3) := by decide +kernel
theorem dX8_side_117 : decode cX8_side 117 = .ok (.iconst 4, 1) := by decide +kernel
theorem dX8_side_118 : decode cX8_side 118 = .ok (.iload 12, 2) := by decide +kernel
theorem dX8_side_120 : decode cX8_side 120 = .ok (.ifCond .eq 15, 3) := by decide +kernel
theorem dX8_side_123 : decode cX8_side 123 = .ok (.aload_n 0, 1) := by decide +kernel
theorem dX8_side_124 : decode cX8_side 124 = .ok (.getfield 22, 3) := by decide +kernel
theorem dX8_side_127 : decode cX8_side 127 = .ok (.iload 14, 2) := by decide +kernel
theorem dX8_side_129 : decode cX8_side 129 = .ok (.iconst 1, 1) := by decide +kernel
theorem dX8_side_130 : decode cX8_side 130 = .ok (.isub, 1) := by decide +kernel
theorem dX8_side_131 : decode cX8_side 131 = .ok (.iaload, 1) := by decide +kernel
theorem dX8_side_132 : decode cX8_side 132 = .ok (.goto 4, 3) := by decide +kernel
theorem dX8_side_135 : decode cX8_side 135 = .ok (.iconst 5, 1) := by decide +kernel
theorem dX8_side_136 : decode cX8_side 136 = .ok (.iastore, 1) := by decide +kernel
theorem dX8_side_137 : decode cX8_side 137 = .ok (.aload_n 0, 1) := by decide +kernel
theorem dX8_side_138 : decode cX8_side 138 = .ok (.getfield 13, 3) := by decide +kernel
theorem dX8_side_141 : decode cX8_side 141 = .ok (.iconst 5, 1) := by decide +kernel
theorem dX8_side_142 : decode cX8_side 142 = .ok (.iload 12, 2) := by decide +kernel
theorem dX8_side_144 : decode cX8_side 144 = .ok (.ifCond .eq 15, 3) := by decide +kernel
theorem dX8_side_147 : decode cX8_side 147 = .ok (.aload_n 0, 1) := by decide +kernel
theorem dX8_side_148 : decode cX8_side 148 = .ok (.getfield 25, 3) := by decide +kernel
theorem dX8_side_151 : decode cX8_side 151 = .ok (.iload 14, 2) := by decide +kernel
theorem dX8_side_153 : decode cX8_side 153 = .ok (.iconst 1, 1) := by decide +kernel
theorem dX8_side_154 : decode cX8_side 154 = .ok (.isub, 1) := by decide +kernel
theorem dX8_side_155 : decode cX8_side 155 = .ok (.iaload, 1) := by decide +kernel
theorem dX8_side_156 : decode cX8_side 156 = .ok (.goto 4, 3) := by decide +kernel
theorem dX8_side_159 : decode cX8_side 159 = .ok (.iconst 1, 1) := by decide +kernel
theorem dX8_side_160 : decode cX8_side 160 = .ok (.iastore, 1) := by decide +kernel
theorem dX8_side_161 : decode cX8_side 161 = .ok (.iload 12, 2) := by decide +kernel
theorem dX8_side_163 : decode cX8_side 163 = .ok (.ifCond .eq 14, 3) := by decide +kernel
theorem dX8_side_166 : decode cX8_side 166 = .ok (.aload_n 0, 1) := by decide +kernel
theorem dX8_side_167 : decode cX8_side 167 = .ok (.invokevirtual 120, 3) := by decide +kernel
theorem dX8_side_170 : decode cX8_side 170 = .ok (.ifCond .eq 7, 3) := by decide +kernel
theorem dX8_side_173 : decode cX8_side 173 = .ok (.iconst 1, 1) := by decide +kernel
theorem dX8_side_174 : decode cX8_side 174 = .ok (.goto 4, 3) := by decide +kernel
theorem dX8_side_177 : decode cX8_side 177 = .ok (.iconst 0, 1) := by decide +kernel
theorem dX8_side_178 : decode cX8_side 178 = .ok (.istore 12, 2) := by decide +kernel
theorem dX8_side_180 : decode cX8_side 180 = .ok (.iload 12, 2) := by decide +kernel
theorem dX8_side_182 : decode cX8_side 182 = .ok (.ifCond .eq 46, 3) := by decide +kernel
theorem dX8_side_185 : decode cX8_side 185 = .ok (.lload 8, 2) := by decide +kernel
theorem dX8_side_187 : decode cX8_side 187 = .ok (.sipush 3600, 3) := by decide +kernel
theorem dX8_side_190 : decode cX8_side 190 = .ok (.aload_n 0, 1) := by decide +kernel
theorem dX8_side_191 : decode cX8_side 191 = .ok (.getfield 109, 3) := by decide +kernel
theorem dX8_side_194 : decode cX8_side 194 = .ok (.idiv, 1) := by decide +kernel
theorem dX8_side_195 : decode cX8_side 195 = .ok (.i2l, 1) := by decide +kernel
theorem dX8_side_196 : decode cX8_side 196 = .ok (.aload_n 0, 1) := by decide +kernel
theorem dX8_side_197 : decode cX8_side 197 = .ok (.getfield 103, 3) := by decide +kernel
theorem dX8_side_200 : decode cX8_side 200 = .ok (.lmul, 1) := by decide +kernel
theorem dX8_side_201 : decode cX8_side 201 = .ok (.ladd, 1) := by decide +kernel
theorem dX8_side_202 : decode cX8_side 202 = .ok (.lstore 8, 2) := by decide +kernel
theorem dX8_side_204 : decode cX8_side 204 = .ok (.lload 10, 2) := by decide +kernel
theorem dX8_side_206 : decode cX8_side 206 = .ok (.sipush 3600, 3) := by decide +kernel
theorem dX8_side_209 : decode cX8_side 209 = .ok (.aload_n 0, 1) := by decide +kernel
theorem dX8_side_210 : decode cX8_side 210 = .ok (.getfield 109, 3) := by decide +kernel
theorem dX8_side_213 : decode cX8_side 213 = .ok (.idiv, 1) := by decide +kernel
theorem dX8_side_214 : decode cX8_side 214 = .ok (.i2l, 1) := by decide +kernel
theorem dX8_side_215 : decode cX8_side 215 = .ok (.aload_n 0, 1) := by decide +kernel
theorem dX8_side_216 : decode cX8_side 216 = .ok (.getfield 100, 3) := by decide +kernel
theorem dX8_side_219 : decode cX8_side 219 = .ok (.aload_n 0, 1) := by decide +kernel
theorem dX8_side_220 : decode cX8_side 220 = .ok (.getfield 103, 3) := by decide +kernel
theorem dX8_side_223 : decode cX8_side 223 = .ok (.ladd, 1) := by decide +kernel
theorem dX8_side_224 : decode cX8_side 224 = .ok (.lmul, 1) := by decide +kernel
theorem dX8_side_225 : decode cX8_side 225 = .ok (.ladd, 1) := by decide +kernel
theorem dX8_side_226 : decode cX8_side 226 = .ok (.lstore 10, 2) := by decide +kernel
theorem dX8_side_228 : decode cX8_side 228 = .ok (.iinc 13 1, 3) := by decide +kernel
theorem dX8_side_231 : decode cX8_side 231 = .ok (.goto (-173), 3) := by decide +kernel
theorem dX8_side_234 : decode cX8_side 234 = .ok (.iload 12, 2) := by decide +kernel
theorem dX8_side_236 : decode cX8_side 236 = .ok (.ifCond .eq 31, 3) := by decide +kernel
theorem dX8_side_239 : decode cX8_side 239 = .ok (.lload 10, 2) := by decide +kernel
theorem dX8_side_241 : decode cX8_side 241 = .ok (.aload_n 0, 1) := by decide +kernel
theorem dX8_side_242 : decode cX8_side 242 = .ok (.getfield 16, 3) := by decide +kernel
theorem dX8_side_245 : decode cX8_side 245 = .ok (.iload_n 1, 1) := by decide +kernel
theorem dX8_side_246 : decode cX8_side 246 = .ok (.iaload, 1) := by decide +kernel
theorem dX8_side_247 : decode cX8_side 247 = .ok (.i2l, 1) := by decide +kernel
theorem dX8_side_248 : decode cX8_side 248 = .ok (.lcmp, 1) := by decide +kernel
theorem dX8_side_249 : decode cX8_side 249 = .ok (.ifCond .gt 18, 3) := by decide +kernel
theorem dX8_side_252 : decode cX8_side 252 = .ok (.lload 8, 2) := by decide +kernel
theorem dX8_side_254 : decode cX8_side 254 = .ok (.lload 4, 2) := by decide +kernel
theorem dX8_side_256 : decode cX8_side 256 = .ok (.lcmp, 1) := by decide +kernel
theorem dX8_side_257 : decode cX8_side 257 = .ok (.ifCond .le 10, 3) := by decide +kernel
theorem dX8_side_260 : decode cX8_side 260 = .ok (.lload 8, 2) := by decide +kernel
theorem dX8_side_262 : decode cX8_side 262 = .ok (.lstore 4, 2) := by decide +kernel
theorem dX8_side_264 : decode cX8_side 264 = .ok (.iload 6, 2) := by decide +kernel
theorem dX8_side_266 : decode cX8_side 266 = .ok (.istore_n 3, 1) := by decide +kernel
theorem dX8_side_267 : decode cX8_side 267 = .ok (.iinc 6 1, 3) := by decide +kernel
theorem dX8_side_270 : decode cX8_side 270 = .ok (.goto (-237), 3) := by decide +kernel
theorem dX8_side_273 : decode cX8_side 273 = .ok (.iload_n 2, 1) := by decide +kernel
theorem dX8_side_274 : decode cX8_side 274 = .ok (.ifCond .ne 7, 3) := by decide +kernel
theorem dX8_side_277 : decode cX8_side 277 = .ok (.iload_n 3, 1) := by decide +kernel
theorem dX8_side_278 : decode cX8_side 278 = .ok (.goto 6, 3) := by decide +kernel
theorem dX8_side_281 : decode cX8_side 281 = .ok (.lload 4, 2) := by decide +kernel
theorem dX8_side_283 : decode cX8_side 283 = .ok (.l2i, 1) := by decide +kernel
theorem dX8_side_284 : decode cX8_side 284 = .ok (.ireturn, 1) := by decide +kernel
set_option maxRecDepth 20000 in
theorem ggX8_take_X8_numbers : GoodIn wsX8_take wsX8_numbers := goodIn_r _ [11, 2, 15, 16, 17, 18, 19, 20, 21, 22, 23, 24, 25, 26, 27, 28, 29, 30, 31, 32, 33, 34, 35, 36, 37, 38, 39, 40, 41, 42, 43, 44, 45, 46, 47, 48, 49, 50, 51, 52] (by decide +kernel) (by decide +kernel)
set_option maxRecDepth 20000 in
theorem gX8_take_X8_numbers : GoodIn wsX8_take (wsV RX8 138 RX8 yX8_numbers wsX8_numbers) := goodIn_app (goodIn_of _ (by decide +kernel)) ggX8_take_X8_numbers
set_option maxRecDepth 20000 in
theorem ggX8_take_X8_in : GoodIn wsX8_take wsX8_in := goodIn_r _ [14] (by decide +kernel) (by decide +kernel)
set_option maxRecDepth 20000 in
theorem gX8_take_X8_in : GoodIn wsX8_take (va_wsS RX8 70 yX8_in wsX8_in) := goodIn_app (goodIn_of _ (by decide +kernel)) ggX8_take_X8_in
theorem dX8_take_0 : decode cX8_take 0 = .ok (.aload_n 0, 1) := by decide +kernel
theorem dX8_take_1 : decode cX8_take 1 = .ok (.iconst 0, 1) := by decide +kernel
theorem dX8_take_2 : decode cX8_take 2 = .ok (.putfield 64, 3) := by decide +kernel
theorem dX8_take_5 : decode cX8_take 5 = .ok (.iload_n 1, 1) := by decide +kernel
theorem dX8_take_6 : decode cX8_take 6 = .ok (.iconst 0, 1) := by decide +kernel
theorem dX8_take_7 : decode cX8_take 7 = .ok (.aload_n 0, 1) := by decide +kernel
theorem dX8_take_8 : decode cX8_take 8 = .ok (.invokevirtual 138, 3) := by decide +kernel
theorem dX8_take_11 : decode cX8_take 11 = .ok (.iconst 1, 1) := by decide +kernel
theorem dX8_take_12 : decode cX8_take 12 = .ok (.isub, 1) := by decide +kernel
theorem dX8_take_13 : decode cX8_take 13 = .ok (.invokestatic 70, 3) := by decide +kernel
theorem dX8_take_16 : decode cX8_take 16 = .ok (.istore_n 2, 1) := by decide +kernel
theorem dX8_take_17 : decode cX8_take 17 = .ok (.iload_n 1, 1) := by decide +kernel
theorem dX8_take_18 : decode cX8_take 18 = .ok (.istore_n 3, 1) := by decide +kernel
theorem dX8_take_19 : decode cX8_take 19 = .ok (.iconst 0, 1) := by decide +kernel
theorem dX8_take_20 : decode cX8_take 20 = .ok (.istore 4, 2) := by decide +kernel
theorem dX8_take_22 : decode cX8_take 22 = .ok (.iload 4, 2) := by decide +kernel
theorem dX8_take_24 : decode cX8_take 24 = .ok (.aload_n 0, 1) := by decide +kernel
theorem dX8_take_25 : decode cX8_take 25 = .ok (.getfield 67, 3) := by decide +kernel
theorem dX8_take_28 : decode cX8_take 28 = .ok (.if_icmp .ge 35, 3) := by decide +kernel
theorem dX8_take_31 : decode cX8_take 31 = .ok (.iload_n 2, 1) := by decide +kernel
theorem dX8_take_32 : decode cX8_take 32 = .ok (.ifCond .eq 31, 3) := by decide +kernel
theorem dX8_take_35 : decode cX8_take 35 = .ok (.iload_n 3, 1) := by decide +kernel
theorem dX8_take_36 : decode cX8_take 36 = .ok (.bipush 7, 2) := by decide +kernel
theorem dX8_take_38 : decode cX8_take 38 = .ok (.irem, 1) := by decide +kernel
theorem dX8_take_39 : decode cX8_take 39 = .ok (.aload_n 0, 1) := by decide +kernel
theorem dX8_take_40 : decode cX8_take 40 = .ok (.getfield 133, 3) := by decide +kernel
theorem dX8_take_43 : decode cX8_take 43 = .ok (.if_icmp .gt 7, 3) := by decide +kernel
theorem dX8_take_46 : decode cX8_take 46 = .ok (.iconst 1, 1) := by decide +kernel
theorem dX8_take_47 : decode cX8_take 47 = .ok (.goto 4, 3) := by decide +kernel
theorem dX8_take_50 : decode cX8_take 50 = .ok (.iconst 0, 1) := by decide +kernel
theorem dX8_take_51 : decode cX8_take 51 = .ok (.istore_n 2, 1) := by decide +kernel
theorem dX8_take_52 : decode cX8_take 52 = .ok (.iload_n 3, 1) := by decide +kernel
theorem dX8_take_53 : decode cX8_take 53 = .ok (.bipush 7, 2) := by decide +kernel
theorem dX8_take_55 : decode cX8_take 55 = .ok (.idiv, 1) := by decide +kernel
theorem dX8_take_56 : decode cX8_take 56 = .ok (.istore_n 3, 1) := by decide +kernel
theorem dX8_take_57 : decode cX8_take 57 = .ok (.iinc 4 1, 3) := by decide +kernel
theorem dX8_take_60 : decode cX8_take 60 = .ok (.goto (-38), 3) := by decide +kernel
theorem dX8_take_63 : decode cX8_take 63 = .ok (.iload_n 2, 1) := by decide +kernel
theorem dX8_take_64 : decode cX8_take 64 = .ok (.ifCond .ne 5, 3) := by decide +kernel
theorem dX8_take_67 : decode cX8_take 67 = .ok (.iconst (-1), 1) := by decide +kernel
theorem dX8_take_68 : decode cX8_take 68 = .ok (.ireturn, 1) := by decide +kernel
theorem dX8_take_69 : decode cX8_take 69 = .ok (.iload_n 1, 1) := by decide +kernel
theorem dX8_take_70 : decode cX8_take 70 = .ok (.istore_n 3, 1) := by decide +kernel
theorem dX8_take_71 : decode cX8_take 71 = .ok (.iconst 0, 1) := by decide +kernel
theorem dX8_take_72 : decode cX8_take 72 = .ok (.istore 4, 2) := by decide +kernel
theorem dX8_take_74 : decode cX8_take 74 = .ok (.iload 4, 2) := by decide +kernel
theorem dX8_take_76 : decode cX8_take 76 = .ok (.aload_n 0, 1) := by decide +kernel
theorem dX8_take_77 : decode cX8_take 77 = .ok (.getfield 67, 3) := by decide +kernel
theorem dX8_take_80 : decode cX8_take 80 = .ok (.if_icmp .ge 90, 3) := by decide +kernel
theorem dX8_take_83 : decode cX8_take 83 = .ok (.iload_n 3, 1) := by decide +kernel
theorem dX8_take_84 : decode cX8_take 84 = .ok (.bipush 7, 2) := by decide +kernel
theorem dX8_take_86 : decode cX8_take 86 = .ok (.irem, 1) := by decide +kernel
theorem dX8_take_87 : decode cX8_take 87 = .ok (.istore 5, 2) := by decide +kernel
theorem dX8_take_89 : decode cX8_take 89 = .ok (.iload_n 3, 1) := by decide +kernel
theorem dX8_take_90 : decode cX8_take 90 = .ok (.bipush 7, 2) := by decide +kernel
theorem dX8_take_92 : decode cX8_take 92 = .ok (.idiv, 1) := by decide +kernel
theorem dX8_take_93 : decode cX8_take 93 = .ok (.istore_n 3, 1) := by decide +kernel
theorem dX8_take_94 : decode cX8_take 94 = .ok (.aload_n 0, 1) := by decide +kernel
theorem dX8_take_95 : decode cX8_take 95 = .ok (.getfield 7, 3) := by decide +kernel
theorem dX8_take_98 : decode cX8_take 98 = .ok (.bipush 13, 2) := by decide +kernel
theorem dX8_take_100 : decode cX8_take 100 = .ok (.iload 4, 2) := by decide +kernel
theorem dX8_take_102 : decode cX8_take 102 = .ok (.imul, 1) := by decide +kernel
theorem dX8_take_103 : decode cX8_take 103 = .ok (.bipush 12, 2) := by decide +kernel
theorem dX8_take_105 : decode cX8_take 105 = .ok (.iadd, 1) := by decide +kernel
theorem dX8_take_106 : decode cX8_take 106 = .ok (.iload 5, 2) := by decide +kernel
theorem dX8_take_108 : decode cX8_take 108 = .ok (.ifCond .le 7, 3) := by decide +kernel
theorem dX8_take_111 : decode cX8_take 111 = .ok (.iconst 1, 1) := by decide +kernel
theorem dX8_take_112 : decode cX8_take 112 = .ok (.goto 4, 3) := by decide +kernel
theorem dX8_take_115 : decode cX8_take 115 = .ok (.iconst 0, 1) := by decide +kernel
theorem dX8_take_116 : decode cX8_take 116 = .ok (.iastore, 1) := by decide +kernel
theorem dX8_take_117 : decode cX8_take 117 = .ok (.iload 5, 2) := by decide +kernel
theorem dX8_take_119 : decode cX8_take 119 = .ok (.ifCond .le 45, 3) := by decide +kernel
theorem dX8_take_122 : decode cX8_take 122 = .ok (.aload_n 0, 1) := by decide +kernel
theorem dX8_take_123 : decode cX8_take 123 = .ok (.getfield 7, 3) := by decide +kernel
theorem dX8_take_126 : decode cX8_take 126 = .ok (.bipush 13, 2) := by decide +kernel
theorem dX8_take_128 : decode cX8_take 128 = .ok (.iload 4, 2) := by decide +kernel
theorem dX8_take_130 : decode cX8_take 130 = .ok (.imul, 1) := by decide +kernel
theorem dX8_take_131 : decode cX8_take 131 = .ok (.iconst 4, 1) := by decide +kernel
theorem dX8_take_132 : decode cX8_take 132 = .ok (.iadd, 1) := by decide +kernel
theorem dX8_take_133 : decode cX8_take 133 = .ok (.aload_n 0, 1) := by decide +kernel
theorem dX8_take_134 : decode cX8_take 134 = .ok (.getfield 22, 3) := by decide +kernel
theorem dX8_take_137 : decode cX8_take 137 = .ok (.iload 5, 2) := by decide +kernel
theorem dX8_take_139 : decode cX8_take 139 = .ok (.iconst 1, 1) := by decide +kernel
theorem dX8_take_140 : decode cX8_take 140 = .ok (.isub, 1) := by decide +kernel
theorem dX8_take_141 : decode cX8_take 141 = .ok (.iaload, 1) := by decide +kernel
theorem dX8_take_142 : decode cX8_take 142 = .ok (.iastore, 1) := by decide +kernel
theorem dX8_take_143 : decode cX8_take 143 = .ok (.aload_n 0, 1) := by decide +kernel
theorem dX8_take_144 : decode cX8_take 144 = .ok (.getfield 7, 3) := by decide +kernel
theorem dX8_take_147 : decode cX8_take 147 = .ok (.bipush 13, 2) := by decide +kernel
theorem dX8_take_149 : decode cX8_take 149 = .ok (.iload 4, 2) := by decide +kernel
theorem dX8_take_151 : decode cX8_take 151 = .ok (.imul, 1) := by decide +kernel
theorem dX8_take_152 : decode cX8_take 152 = .ok (.iconst 5, 1) := by decide +kernel
theorem dX8_take_153 : decode cX8_take 153 = .ok (.iadd, 1) := by decide +kernel
theorem dX8_take_154 : decode cX8_take 154 = .ok (.aload_n 0, 1) := by decide +kernel
theorem dX8_take_155 : decode cX8_take 155 = .ok (.getfield 25, 3) := by decide +kernel
theorem dX8_take_158 : decode cX8_take 158 = .ok (.iload 5, 2) := by decide +kernel
theorem dX8_take_160 : decode cX8_take 160 = .ok (.iconst 1, 1) := by decide +kernel
theorem dX8_take_161 : decode cX8_take 161 = .ok (.isub, 1) := by decide +kernel
theorem dX8_take_162 : decode cX8_take 162 = .ok (.iaload, 1) := by decide +kernel
theorem dX8_take_163 : decode cX8_take 163 = .ok (.iastore, 1) := by decide +kernel
theorem dX8_take_164 : decode cX8_take 164 = .ok (.iinc 4 1, 3) := by decide +kernel
theorem dX8_take_167 : decode cX8_take 167 = .ok (.goto (-93), 3) := by decide +kernel
theorem dX8_take_170 : decode cX8_take 170 = .ok (.iconst 1, 1) := by decide +kernel
theorem dX8_take_171 : decode cX8_take 171 = .ok (.ireturn, 1) := by decide +kernel
set_option maxRecDepth 20000 in
theorem ggX8_frost_X8_isMonth : GoodIn wsX8_frost wsX8_isMonth := goodIn_r _ [6, 7, 8, 5, 9] (by decide +kernel) (by decide +kernel)
set_option maxRecDepth 20000 in
theorem gX8_frost_X8_isMonth : GoodIn wsX8_frost (va_wsS RX8 127 yX8_isMonth wsX8_isMonth) := goodIn_app (goodIn_of _ (by decide +kernel)) ggX8_frost_X8_isMonth
set_option maxRecDepth 20000 in
theorem ggX8_frost_X8_in : GoodIn wsX8_frost wsX8_in := goodIn_r _ [9] (by decide +kernel) (by decide +kernel)
set_option maxRecDepth 20000 in
theorem gX8_frost_X8_in : GoodIn wsX8_frost (va_wsS RX8 70 yX8_in wsX8_in) := goodIn_app (goodIn_of _ (by decide +kernel)) ggX8_frost_X8_in
theorem dX8_frost_0 : decode cX8_frost 0 = .ok (.aload_n 0, 1) := by decide +kernel
theorem dX8_frost_1 : decode cX8_frost 1 = .ok (.iconst 0, 1) := by decide +kernel
theorem dX8_frost_2 : decode cX8_frost 2 = .ok (.putfield 64, 3) := by decide +kernel
theorem dX8_frost_5 : decode cX8_frost 5 = .ok (.iload_n 1, 1) := by decide +kernel
theorem dX8_frost_6 : decode cX8_frost 6 = .ok (.invokestatic 127, 3) := by decide +kernel
theorem dX8_frost_9 : decode cX8_frost 9 = .ok (.ifCond .eq 13, 3) := by decide +kernel
theorem dX8_frost_12 : decode cX8_frost 12 = .ok (.iload_n 2, 1) := by decide +kernel
theorem dX8_frost_13 : decode cX8_frost 13 = .ok (.iconst 0, 1) := by decide +kernel
theorem dX8_frost_14 : decode cX8_frost 14 = .ok (.bipush 23, 2) := by decide +kernel
theorem dX8_frost_16 : decode cX8_frost 16 = .ok (.invokestatic 70, 3) := by decide +kernel
theorem dX8_frost_19 : decode cX8_frost 19 = .ok (.ifCond .ne 5, 3) := by decide +kernel
theorem dX8_frost_22 : decode cX8_frost 22 = .ok (.iconst (-1), 1) := by decide +kernel
theorem dX8_frost_23 : decode cX8_frost 23 = .ok (.ireturn, 1) := by decide +kernel
theorem dX8_frost_24 : decode cX8_frost 24 = .ok (.aload_n 0, 1) := by decide +kernel
theorem dX8_frost_25 : decode cX8_frost 25 = .ok (.getfield 19, 3) := by decide +kernel
theorem dX8_frost_28 : decode cX8_frost 28 = .ok (.iload_n 1, 1) := by decide +kernel
theorem dX8_frost_29 : decode cX8_frost 29 = .ok (.iaload, 1) := by decide +kernel
theorem dX8_frost_30 : decode cX8_frost 30 = .ok (.istore_n 3, 1) := by decide +kernel
theorem dX8_frost_31 : decode cX8_frost 31 = .ok (.aload_n 0, 1) := by decide +kernel
theorem dX8_frost_32 : decode cX8_frost 32 = .ok (.getfield 19, 3) := by decide +kernel
theorem dX8_frost_35 : decode cX8_frost 35 = .ok (.iload_n 1, 1) := by decide +kernel
theorem dX8_frost_36 : decode cX8_frost 36 = .ok (.iload_n 2, 1) := by decide +kernel
theorem dX8_frost_37 : decode cX8_frost 37 = .ok (.iastore, 1) := by decide +kernel
theorem dX8_frost_38 : decode cX8_frost 38 = .ok (.iload_n 3, 1) := by decide +kernel
theorem dX8_frost_39 : decode cX8_frost 39 = .ok (.ireturn, 1) := by decide +kernel
set_option maxRecDepth 20000 in
theorem ggX8_silence_X8_in : GoodIn wsX8_silence wsX8_in := goodIn_r _ [7] (by decide +kernel) (by decide +kernel)
set_option maxRecDepth 20000 in
theorem gX8_silence_X8_in : GoodIn wsX8_silence (va_wsS RX8 70 yX8_in wsX8_in) := goodIn_app (goodIn_of _ (by decide +kernel)) ggX8_silence_X8_in
theorem dX8_silence_0 : decode cX8_silence 0 = .ok (.aload_n 0, 1) := by decide +kernel
theorem dX8_silence_1 : decode cX8_silence 1 = .ok (.iconst 0, 1) := by decide +kernel
theorem dX8_silence_2 : decode cX8_silence 2 = .ok (.putfield 64, 3) := by decide +kernel
theorem dX8_silence_5 : decode cX8_silence 5 = .ok (.iload_n 1, 1) := by decide +kernel
theorem dX8_silence_6 : decode cX8_silence 6 = .ok (.iconst 0, 1) := by decide +kernel
theorem dX8_silence_7 : decode cX8_silence 7 = .ok (.bipush 24, 2) := by decide +kernel
theorem dX8_silence_9 : decode cX8_silence 9 = .ok (.invokestatic 70, 3) := by decide +kernel
theorem dX8_silence_12 : decode cX8_silence 12 = .ok (.ifCond .eq 13, 3) := by decide +kernel
theorem dX8_silence_15 : decode cX8_silence 15 = .ok (.iload_n 2, 1) := by decide +kernel
theorem dX8_silence_16 : decode cX8_silence 16 = .ok (.iload_n 1, 1) := by decide +kernel
theorem dX8_silence_17 : decode cX8_silence 17 = .ok (.bipush 24, 2) := by decide +kernel
theorem dX8_silence_19 : decode cX8_silence 19 = .ok (.invokestatic 70, 3) := by decide +kernel
theorem dX8_silence_22 : decode cX8_silence 22 = .ok (.ifCond .ne 5, 3) := by decide +kernel
theorem dX8_silence_25 : decode cX8_silence 25 = .ok (.iconst (-1), 1) := by decide +kernel
theorem dX8_silence_26 : decode cX8_silence 26 = .ok (.ireturn, 1) := by decide +kernel
theorem dX8_silence_27 : decode cX8_silence 27 = .ok (.aload_n 0, 1) := by decide +kernel
theorem dX8_silence_28 : decode cX8_silence 28 = .ok (.iload_n 1, 1) := by decide +kernel
theorem dX8_silence_29 : decode cX8_silence 29 = .ok (.putfield 142, 3) := by decide +kernel
theorem dX8_silence_32 : decode cX8_silence 32 = .ok (.aload_n 0, 1) := by decide +kernel
theorem dX8_silence_33 : decode cX8_silence 33 = .ok (.iload_n 2, 1) := by decide +kernel
theorem dX8_silence_34 : decode cX8_silence 34 = .ok (.putfield 145, 3) := by decide +kernel
theorem dX8_silence_37 : decode cX8_silence 37 = .ok (.iconst 1, 1) := by decide +kernel
theorem dX8_silence_38 : decode cX8_silence 38 = .ok (.ireturn, 1) := by decide +kernel
set_option maxRecDepth 20000 in
theorem ggX8_tank_X8_in : GoodIn wsX8_tank wsX8_in := goodIn_r _ [8] (by decide +kernel) (by decide +kernel)
set_option maxRecDepth 20000 in
theorem gX8_tank_X8_in : GoodIn wsX8_tank (va_wsS RX8 70 yX8_in wsX8_in) := goodIn_app (goodIn_of _ (by decide +kernel)) ggX8_tank_X8_in
theorem dX8_tank_0 : decode cX8_tank 0 = .ok (.aload_n 0, 1) := by decide +kernel
theorem dX8_tank_1 : decode cX8_tank 1 = .ok (.iconst 0, 1) := by decide +kernel
theorem dX8_tank_2 : decode cX8_tank 2 = .ok (.putfield 64, 3) := by decide +kernel
theorem dX8_tank_5 : decode cX8_tank 5 = .ok (.iload_n 1, 1) := by decide +kernel
theorem dX8_tank_6 : decode cX8_tank 6 = .ok (.iconst 0, 1) := by decide +kernel
theorem dX8_tank_7 : decode cX8_tank 7 = .ok (.iconst 1, 1) := by decide +kernel
theorem dX8_tank_8 : decode cX8_tank 8 = .ok (.invokestatic 70, 3) := by decide +kernel
theorem dX8_tank_11 : decode cX8_tank 11 = .ok (.ifCond .eq 45, 3) := by decide +kernel
theorem dX8_tank_14 : decode cX8_tank 14 = .ok (.iload_n 2, 1) := by decide +kernel
theorem dX8_tank_15 : decode cX8_tank 15 = .ok (.iload_n 1, 1) := by decide +kernel
theorem dX8_tank_16 : decode cX8_tank 16 = .ok (.ifCond .ne 8, 3) := by decide +kernel
theorem dX8_tank_19 : decode cX8_tank 19 = .ok (.bipush 100, 2) := by decide +kernel
theorem dX8_tank_21 : decode cX8_tank 21 = .ok (.goto 4, 3) := by decide +kernel
theorem dX8_tank_24 : decode cX8_tank 24 = .ok (.iconst 0, 1) := by decide +kernel
theorem dX8_tank_25 : decode cX8_tank 25 = .ok (.iload_n 1, 1) := by decide +kernel
theorem dX8_tank_26 : decode cX8_tank 26 = .ok (.ifCond .ne 8, 3) := by decide +kernel
theorem dX8_tank_29 : decode cX8_tank 29 = .ok (.ldc 130, 2) := by decide +kernel
theorem dX8_tank_31 : decode cX8_tank 31 = .ok (.goto 7, 3) := by decide +kernel
theorem dX8_tank_34 : decode cX8_tank 34 = .ok (.aload_n 0, 1) := by decide +kernel
theorem dX8_tank_35 : decode cX8_tank 35 = .ok (.getfield 29, 3) := by decide +kernel
theorem dX8_tank_38 : decode cX8_tank 38 = .ok (.invokestatic 70, 3) := by decide +kernel
theorem dX8_tank_41 : decode cX8_tank 41 = .ok (.ifCond .eq 15, 3) := by decide +kernel
theorem dX8_tank_44 : decode cX8_tank 44 = .ok (.iload_n 1, 1) := by decide +kernel
theorem dX8_tank_45 : decode cX8_tank 45 = .ok (.ifCond .ne 13, 3) := by decide +kernel
theorem dX8_tank_48 : decode cX8_tank 48 = .ok (.iload_n 2, 1) := by decide +kernel
theorem dX8_tank_49 : decode cX8_tank 49 = .ok (.aload_n 0, 1) := by decide +kernel
theorem dX8_tank_50 : decode cX8_tank 50 = .ok (.getfield 148, 3) := by decide +kernel
theorem dX8_tank_53 : decode cX8_tank 53 = .ok (.if_icmp .ge 5, 3) := by decide +kernel
theorem dX8_tank_56 : decode cX8_tank 56 = .ok (.iconst (-1), 1) := by decide +kernel
theorem dX8_tank_57 : decode cX8_tank 57 = .ok (.ireturn, 1) := by decide +kernel
theorem dX8_tank_58 : decode cX8_tank 58 = .ok (.iload_n 1, 1) := by decide +kernel
theorem dX8_tank_59 : decode cX8_tank 59 = .ok (.ifCond .ne 10, 3) := by decide +kernel
theorem dX8_tank_62 : decode cX8_tank 62 = .ok (.aload_n 0, 1) := by decide +kernel
theorem dX8_tank_63 : decode cX8_tank 63 = .ok (.getfield 29, 3) := by decide +kernel
theorem dX8_tank_66 : decode cX8_tank 66 = .ok (.goto 7, 3) := by decide +kernel
theorem dX8_tank_69 : decode cX8_tank 69 = .ok (.aload_n 0, 1) := by decide +kernel
theorem dX8_tank_70 : decode cX8_tank 70 = .ok (.getfield 148, 3) := by decide +kernel
theorem dX8_tank_73 : decode cX8_tank 73 = .ok (.istore_n 3, 1) := by decide +kernel
theorem dX8_tank_74 : decode cX8_tank 74 = .ok (.aload_n 0, 1) := by decide +kernel
theorem dX8_tank_75 : decode cX8_tank 75 = .ok (.iload_n 1, 1) := by decide +kernel
theorem dX8_tank_76 : decode cX8_tank 76 = .ok (.ifCond .ne 7, 3) := by decide +kernel
theorem dX8_tank_79 : decode cX8_tank 79 = .ok (.iload_n 2, 1) := by decide +kernel
theorem dX8_tank_80 : decode cX8_tank 80 = .ok (.goto 7, 3) := by decide +kernel
theorem dX8_tank_83 : decode cX8_tank 83 = .ok (.aload_n 0, 1) := by decide +kernel
theorem dX8_tank_84 : decode cX8_tank 84 = .ok (.getfield 29, 3) := by decide +kernel
theorem dX8_tank_87 : decode cX8_tank 87 = .ok (.putfield 29, 3) := by decide +kernel
theorem dX8_tank_90 : decode cX8_tank 90 = .ok (.aload_n 0, 1) := by decide +kernel
theorem dX8_tank_91 : decode cX8_tank 91 = .ok (.iload_n 1, 1) := by decide +kernel
theorem dX8_tank_92 : decode cX8_tank 92 = .ok (.iconst 1, 1) := by decide +kernel
theorem dX8_tank_93 : decode cX8_tank 93 = .ok (.if_icmp .ne 7, 3) := by decide +kernel
theorem dX8_tank_96 : decode cX8_tank 96 = .ok (.iload_n 2, 1) := by decide +kernel
theorem dX8_tank_97 : decode cX8_tank 97 = .ok (.goto 7, 3) := by decide +kernel
theorem dX8_tank_100 : decode cX8_tank 100 = .ok (.aload_n 0, 1) := by decide +kernel
theorem dX8_tank_101 : decode cX8_tank 101 = .ok (.getfield 148, 3) := by decide +kernel
theorem dX8_tank_104 : decode cX8_tank 104 = .ok (.putfield 148, 3) := by decide +kernel
theorem dX8_tank_107 : decode cX8_tank 107 = .ok (.iload_n 3, 1) := by decide +kernel
theorem dX8_tank_108 : decode cX8_tank 108 = .ok (.ireturn, 1) := by decide +kernel
set_option maxRecDepth 20000 in
theorem ggX8_type_X8_in : GoodIn wsX8_type wsX8_in := goodIn_r _ [8] (by decide +kernel) (by decide +kernel)
set_option maxRecDepth 20000 in
theorem gX8_type_X8_in : GoodIn wsX8_type (va_wsS RX8 70 yX8_in wsX8_in) := goodIn_app (goodIn_of _ (by decide +kernel)) ggX8_type_X8_in
theorem dX8_type_0 : decode cX8_type 0 = .ok (.aload_n 0, 1) := by decide +kernel
theorem dX8_type_1 : decode cX8_type 1 = .ok (.iconst 0, 1) := by decide +kernel
theorem dX8_type_2 : decode cX8_type 2 = .ok (.putfield 64, 3) := by decide +kernel
theorem dX8_type_5 : decode cX8_type 5 = .ok (.iload_n 3, 1) := by decide +kernel
theorem dX8_type_6 : decode cX8_type 6 = .ok (.iconst 1, 1) := by decide +kernel
theorem dX8_type_7 : decode cX8_type 7 = .ok (.bipush 8, 2) := by decide +kernel
theorem dX8_type_9 : decode cX8_type 9 = .ok (.invokestatic 70, 3) := by decide +kernel
theorem dX8_type_12 : decode cX8_type 12 = .ok (.ifCond .ne 5, 3) := by decide +kernel
theorem dX8_type_15 : decode cX8_type 15 = .ok (.iconst (-1), 1) := by decide +kernel
theorem dX8_type_16 : decode cX8_type 16 = .ok (.ireturn, 1) := by decide +kernel
theorem dX8_type_17 : decode cX8_type 17 = .ok (.aload_n 0, 1) := by decide +kernel
theorem dX8_type_18 : decode cX8_type 18 = .ok (.getfield 151, 3) := by decide +kernel
theorem dX8_type_21 : decode cX8_type 21 = .ok (.iload_n 3, 1) := by decide +kernel
theorem dX8_type_22 : decode cX8_type 22 = .ok (.iadd, 1) := by decide +kernel
theorem dX8_type_23 : decode cX8_type 23 = .ok (.sipush 150, 3) := by decide +kernel
theorem dX8_type_26 : decode cX8_type 26 = .ok (.if_icmp .le 6, 3) := by decide +kernel
theorem dX8_type_29 : decode cX8_type 29 = .ok (.bipush (-3), 2) := by decide +kernel
theorem dX8_type_31 : decode cX8_type 31 = .ok (.ireturn, 1) := by decide +kernel
theorem dX8_type_32 : decode cX8_type 32 = .ok (.iload_n 3, 1) := by decide +kernel
theorem dX8_type_33 : decode cX8_type 33 = .ok (.iconst 1, 1) := by decide +kernel
theorem dX8_type_34 : decode cX8_type 34 = .ok (.isub, 1) := by decide +kernel
theorem dX8_type_35 : decode cX8_type 35 = .ok (.istore 4, 2) := by decide +kernel
theorem dX8_type_37 : decode cX8_type 37 = .ok (.iload 4, 2) := by decide +kernel
theorem dX8_type_39 : decode cX8_type 39 = .ok (.ifCond .lt 40, 3) := by decide +kernel
theorem dX8_type_42 : decode cX8_type 42 = .ok (.aload_n 0, 1) := by decide +kernel
theorem dX8_type_43 : decode cX8_type 43 = .ok (.getfield 33, 3) := by decide +kernel
theorem dX8_type_46 : decode cX8_type 46 = .ok (.aload_n 0, 1) := by decide +kernel
theorem dX8_type_47 : decode cX8_type 47 = .ok (.getfield 151, 3) := by decide +kernel
theorem dX8_type_50 : decode cX8_type 50 = .ok (.lload_n 1, 1) := by decide +kernel
end
section
theorem dX8_type_51 : decode cX8_type 51 = .ok (.bipush 8, 2) := by decide +kernel
theorem dX8_type_53 : decode cX8_type 53 = .ok (.iload 4, 2) := by decide +kernel
theorem dX8_type_55 : decode cX8_type 55 = .ok (.imul, 1) := by decide +kernel
theorem dX8_type_56 : decode cX8_type 56 = .ok (.lshr, 1) := by decide +kernel
theorem dX8_type_57 : decode cX8_type 57 = .ok (.ldc2_w 154, 3) := by decide +kernel
theorem dX8_type_60 : decode cX8_type 60 = .ok (.land, 1) := by decide +kernel
theorem dX8_type_61 : decode cX8_type 61 = .ok (.l2i, 1) := by decide +kernel
theorem dX8_type_62 : decode cX8_type 62 = .ok (.iastore, 1) := by decide +kernel
theorem dX8_type_63 : decode cX8_type 63 = .ok (.aload_n 0, 1) := by decide +kernel
theorem dX8_type_64 : decode cX8_type 64 = .ok (.dup, 1) := by decide +kernel
theorem dX8_type_65 : decode cX8_type 65 = .ok (.getfield 151, 3) := by decide +kernel
theorem dX8_type_68 : decode cX8_type 68 = .ok (.iconst 1, 1) := by decide +kernel
theorem dX8_type_69 : decode cX8_type 69 = .ok (.iadd, 1) := by decide +kernel
theorem dX8_type_70 : decode cX8_type 70 = .ok (.putfield 151, 3) := by decide +kernel
theorem dX8_type_73 : decode cX8_type 73 = .ok (.iinc 4 (-1), 3) := by decide +kernel
theorem dX8_type_76 : decode cX8_type 76 = .ok (.goto (-39), 3) := by decide +kernel
theorem dX8_type_79 : decode cX8_type 79 = .ok (.aload_n 0, 1) := by decide +kernel
theorem dX8_type_80 : decode cX8_type 80 = .ok (.getfield 151, 3) := by decide +kernel
theorem dX8_type_83 : decode cX8_type 83 = .ok (.ireturn, 1) := by decide +kernel
theorem dX8_clear_0 : decode cX8_clear 0 = .ok (.aload_n 0, 1) := by decide +kernel
theorem dX8_clear_1 : decode cX8_clear 1 = .ok (.iconst 0, 1) := by decide +kernel
theorem dX8_clear_2 : decode cX8_clear 2 = .ok (.putfield 64, 3) := by decide +kernel
theorem dX8_clear_5 : decode cX8_clear 5 = .ok (.aload_n 0, 1) := by decide +kernel
theorem dX8_clear_6 : decode cX8_clear 6 = .ok (.getfield 151, 3) := by decide +kernel
theorem dX8_clear_9 : decode cX8_clear 9 = .ok (.istore_n 1, 1) := by decide +kernel
theorem dX8_clear_10 : decode cX8_clear 10 = .ok (.aload_n 0, 1) := by decide +kernel
theorem dX8_clear_11 : decode cX8_clear 11 = .ok (.iconst 0, 1) := by decide +kernel
theorem dX8_clear_12 : decode cX8_clear 12 = .ok (.putfield 151, 3) := by decide +kernel
theorem dX8_clear_15 : decode cX8_clear 15 = .ok (.iload_n 1, 1) := by decide +kernel
theorem dX8_clear_16 : decode cX8_clear 16 = .ok (.ireturn, 1) := by decide +kernel
theorem dX8_byteAt_0 : decode cX8_byteAt 0 = .ok (.aload_n 0, 1) := by decide +kernel
theorem dX8_byteAt_1 : decode cX8_byteAt 1 = .ok (.getfield 156, 3) := by decide +kernel
theorem dX8_byteAt_4 : decode cX8_byteAt 4 = .ok (.aload_n 0, 1) := by decide +kernel
theorem dX8_byteAt_5 : decode cX8_byteAt 5 = .ok (.getfield 151, 3) := by decide +kernel
theorem dX8_byteAt_8 : decode cX8_byteAt 8 = .ok (.if_icmp .ge 15, 3) := by decide +kernel
theorem dX8_byteAt_11 : decode cX8_byteAt 11 = .ok (.aload_n 0, 1) := by decide +kernel
theorem dX8_byteAt_12 : decode cX8_byteAt 12 = .ok (.getfield 33, 3) := by decide +kernel
theorem dX8_byteAt_15 : decode cX8_byteAt 15 = .ok (.aload_n 0, 1) := by decide +kernel
theorem dX8_byteAt_16 : decode cX8_byteAt 16 = .ok (.getfield 156, 3) := by decide +kernel
theorem dX8_byteAt_19 : decode cX8_byteAt 19 = .ok (.iaload, 1) := by decide +kernel
theorem dX8_byteAt_20 : decode cX8_byteAt 20 = .ok (.goto 4, 3) := by decide +kernel
theorem dX8_byteAt_23 : decode cX8_byteAt 23 = .ok (.iconst (-1), 1) := by decide +kernel
theorem dX8_byteAt_24 : decode cX8_byteAt 24 = .ok (.ireturn, 1) := by decide +kernel
set_option maxRecDepth 20000 in
theorem ggX8_sign_X8_byteAt : GoodIn wsX8_sign wsX8_byteAt := goodIn_r _ [7, 1, 8, 9, 10, 11, 12, 13, 14, 15, 16, 17, 18, 19, 20, 21, 22, 23, 24, 25, 26, 27, 28, 29, 30, 31, 32, 33, 34, 35, 36, 37, 38, 39, 40, 41, 42, 43, 44, 45, 46, 47] (by decide +kernel) (by decide +kernel)
set_option maxRecDepth 20000 in
theorem gX8_sign_X8_byteAt : GoodIn wsX8_sign (wsV RX8 159 RX8 yX8_byteAt wsX8_byteAt) := goodIn_app (goodIn_of _ (by decide +kernel)) ggX8_sign_X8_byteAt
theorem dX8_sign_0 : decode cX8_sign 0 = .ok (.aload_n 0, 1) := by decide +kernel
theorem dX8_sign_1 : decode cX8_sign 1 = .ok (.invokevirtual 159, 3) := by decide +kernel
theorem dX8_sign_4 : decode cX8_sign 4 = .ok (.iload_n 1, 1) := by decide +kernel
theorem dX8_sign_5 : decode cX8_sign 5 = .ok (.if_icmp .eq 13, 3) := by decide +kernel
theorem dX8_sign_8 : decode cX8_sign 8 = .ok (.aload_n 0, 1) := by decide +kernel
theorem dX8_sign_9 : decode cX8_sign 9 = .ok (.aload_n 0, 1) := by decide +kernel
theorem dX8_sign_10 : decode cX8_sign 10 = .ok (.getfield 156, 3) := by decide +kernel
theorem dX8_sign_13 : decode cX8_sign 13 = .ok (.putfield 162, 3) := by decide +kernel
theorem dX8_sign_16 : decode cX8_sign 16 = .ok (.iconst 0, 1) := by decide +kernel
theorem dX8_sign_17 : decode cX8_sign 17 = .ok (.ireturn, 1) := by decide +kernel
theorem dX8_sign_18 : decode cX8_sign 18 = .ok (.aload_n 0, 1) := by decide +kernel
theorem dX8_sign_19 : decode cX8_sign 19 = .ok (.dup, 1) := by decide +kernel
theorem dX8_sign_20 : decode cX8_sign 20 = .ok (.getfield 156, 3) := by decide +kernel
theorem dX8_sign_23 : decode cX8_sign 23 = .ok (.iconst 1, 1) := by decide +kernel
theorem dX8_sign_24 : decode cX8_sign 24 = .ok (.iadd, 1) := by decide +kernel
theorem dX8_sign_25 : decode cX8_sign 25 = .ok (.putfield 156, 3) := by decide +kernel
theorem dX8_sign_28 : decode cX8_sign 28 = .ok (.iconst 1, 1) := by decide +kernel
theorem dX8_sign_29 : decode cX8_sign 29 = .ok (.ireturn, 1) := by decide +kernel
set_option maxRecDepth 20000 in
theorem ggX8_reads_X8_byteAt : GoodIn wsX8_reads wsX8_byteAt := goodIn_r _ [8, 1, 9, 10, 14, 15, 16, 17, 18, 19, 20, 21, 22, 23, 24, 25, 26, 27, 28, 29, 30, 31, 32, 33, 34, 35, 36, 37, 38, 39, 40, 41, 42, 43, 44, 45, 46, 47, 48, 49, 50, 51] (by decide +kernel) (by decide +kernel)
set_option maxRecDepth 20000 in
theorem gX8_reads_X8_byteAt : GoodIn wsX8_reads (wsV RX8 159 RX8 yX8_byteAt wsX8_byteAt) := goodIn_app (goodIn_of _ (by decide +kernel)) ggX8_reads_X8_byteAt
set_option maxRecDepth 20000 in
theorem ggX8_reads_X8_in : GoodIn wsX8_reads wsX8_in := goodIn_r _ [13] (by decide +kernel) (by decide +kernel)
set_option maxRecDepth 20000 in
theorem gX8_reads_X8_in : GoodIn wsX8_reads (va_wsS RX8 70 yX8_in wsX8_in) := goodIn_app (goodIn_of _ (by decide +kernel)) ggX8_reads_X8_in
theorem dX8_reads_0 : decode cX8_reads 0 = .ok (.aload_n 0, 1) := by decide +kernel
theorem dX8_reads_1 : decode cX8_reads 1 = .ok (.invokevirtual 159, 3) := by decide +kernel
theorem dX8_reads_4 : decode cX8_reads 4 = .ok (.iload_n 1, 1) := by decide +kernel
theorem dX8_reads_5 : decode cX8_reads 5 = .ok (.bipush 57, 2) := by decide +kernel
theorem dX8_reads_7 : decode cX8_reads 7 = .ok (.invokestatic 70, 3) := by decide +kernel
theorem dX8_reads_10 : decode cX8_reads 10 = .ok (.ifCond .ne 13, 3) := by decide +kernel
theorem dX8_reads_13 : decode cX8_reads 13 = .ok (.aload_n 0, 1) := by decide +kernel
theorem dX8_reads_14 : decode cX8_reads 14 = .ok (.aload_n 0, 1) := by decide +kernel
theorem dX8_reads_15 : decode cX8_reads 15 = .ok (.getfield 156, 3) := by decide +kernel
theorem dX8_reads_18 : decode cX8_reads 18 = .ok (.putfield 162, 3) := by decide +kernel
theorem dX8_reads_21 : decode cX8_reads 21 = .ok (.iconst 0, 1) := by decide +kernel
theorem dX8_reads_22 : decode cX8_reads 22 = .ok (.ireturn, 1) := by decide +kernel
theorem dX8_reads_23 : decode cX8_reads 23 = .ok (.aload_n 0, 1) := by decide +kernel
theorem dX8_reads_24 : decode cX8_reads 24 = .ok (.getfield 156, 3) := by decide +kernel
theorem dX8_reads_27 : decode cX8_reads 27 = .ok (.istore 4, 2) := by decide +kernel
theorem dX8_reads_29 : decode cX8_reads 29 = .ok (.aload_n 0, 1) := by decide +kernel
theorem dX8_reads_30 : decode cX8_reads 30 = .ok (.iconst 0, 1) := by decide +kernel
theorem dX8_reads_31 : decode cX8_reads 31 = .ok (.putfield 165, 3) := by decide +kernel
theorem dX8_reads_34 : decode cX8_reads 34 = .ok (.aload_n 0, 1) := by decide +kernel
theorem dX8_reads_35 : decode cX8_reads 35 = .ok (.invokevirtual 159, 3) := by decide +kernel
theorem dX8_reads_38 : decode cX8_reads 38 = .ok (.bipush 48, 2) := by decide +kernel
theorem dX8_reads_40 : decode cX8_reads 40 = .ok (.bipush 57, 2) := by decide +kernel
theorem dX8_reads_42 : decode cX8_reads 42 = .ok (.invokestatic 70, 3) := by decide +kernel
theorem dX8_reads_45 : decode cX8_reads 45 = .ok (.ifCond .eq 71, 3) := by decide +kernel
theorem dX8_reads_48 : decode cX8_reads 48 = .ok (.bipush 10, 2) := by decide +kernel
theorem dX8_reads_50 : decode cX8_reads 50 = .ok (.aload_n 0, 1) := by decide +kernel
theorem dX8_reads_51 : decode cX8_reads 51 = .ok (.getfield 165, 3) := by decide +kernel
theorem dX8_reads_54 : decode cX8_reads 54 = .ok (.imul, 1) := by decide +kernel
theorem dX8_reads_55 : decode cX8_reads 55 = .ok (.aload_n 0, 1) := by decide +kernel
theorem dX8_reads_56 : decode cX8_reads 56 = .ok (.invokevirtual 159, 3) := by decide +kernel
theorem dX8_reads_59 : decode cX8_reads 59 = .ok (.iadd, 1) := by decide +kernel
theorem dX8_reads_60 : decode cX8_reads 60 = .ok (.bipush 48, 2) := by decide +kernel
theorem dX8_reads_62 : decode cX8_reads 62 = .ok (.isub, 1) := by decide +kernel
theorem dX8_reads_63 : decode cX8_reads 63 = .ok (.istore 5, 2) := by decide +kernel
theorem dX8_reads_65 : decode cX8_reads 65 = .ok (.aload_n 0, 1) := by decide +kernel
theorem dX8_reads_66 : decode cX8_reads 66 = .ok (.getfield 165, 3) := by decide +kernel
theorem dX8_reads_69 : decode cX8_reads 69 = .ok (.ifCond .ne 12, 3) := by decide +kernel
theorem dX8_reads_72 : decode cX8_reads 72 = .ok (.aload_n 0, 1) := by decide +kernel
theorem dX8_reads_73 : decode cX8_reads 73 = .ok (.getfield 156, 3) := by decide +kernel
theorem dX8_reads_76 : decode cX8_reads 76 = .ok (.iload 4, 2) := by decide +kernel
theorem dX8_reads_78 : decode cX8_reads 78 = .ok (.if_icmp .gt 9, 3) := by decide +kernel
theorem dX8_reads_81 : decode cX8_reads 81 = .ok (.iload 5, 2) := by decide +kernel
theorem dX8_reads_83 : decode cX8_reads 83 = .ok (.iload_n 2, 1) := by decide +kernel
theorem dX8_reads_84 : decode cX8_reads 84 = .ok (.if_icmp .le 13, 3) := by decide +kernel
theorem dX8_reads_87 : decode cX8_reads 87 = .ok (.aload_n 0, 1) := by decide +kernel
theorem dX8_reads_88 : decode cX8_reads 88 = .ok (.aload_n 0, 1) := by decide +kernel
theorem dX8_reads_89 : decode cX8_reads 89 = .ok (.getfield 156, 3) := by decide +kernel
theorem dX8_reads_92 : decode cX8_reads 92 = .ok (.putfield 162, 3) := by decide +kernel
theorem dX8_reads_95 : decode cX8_reads 95 = .ok (.iconst 0, 1) := by decide +kernel
theorem dX8_reads_96 : decode cX8_reads 96 = .ok (.ireturn, 1) := by decide +kernel
theorem dX8_reads_97 : decode cX8_reads 97 = .ok (.aload_n 0, 1) := by decide +kernel
theorem dX8_reads_98 : decode cX8_reads 98 = .ok (.iload 5, 2) := by decide +kernel
theorem dX8_reads_100 : decode cX8_reads 100 = .ok (.putfield 165, 3) := by decide +kernel
theorem dX8_reads_103 : decode cX8_reads 103 = .ok (.aload_n 0, 1) := by decide +kernel
theorem dX8_reads_104 : decode cX8_reads 104 = .ok (.dup, 1) := by decide +kernel
theorem dX8_reads_105 : decode cX8_reads 105 = .ok (.getfield 156, 3) := by decide +kernel
theorem dX8_reads_108 : decode cX8_reads 108 = .ok (.iconst 1, 1) := by decide +kernel
theorem dX8_reads_109 : decode cX8_reads 109 = .ok (.iadd, 1) := by decide +kernel
theorem dX8_reads_110 : decode cX8_reads 110 = .ok (.putfield 156, 3) := by decide +kernel
theorem dX8_reads_113 : decode cX8_reads 113 = .ok (.goto (-79), 3) := by decide +kernel
theorem dX8_reads_116 : decode cX8_reads 116 = .ok (.aload_n 0, 1) := by decide +kernel
theorem dX8_reads_117 : decode cX8_reads 117 = .ok (.getfield 165, 3) := by decide +kernel
theorem dX8_reads_120 : decode cX8_reads 120 = .ok (.iload_n 3, 1) := by decide +kernel
theorem dX8_reads_121 : decode cX8_reads 121 = .ok (.if_icmp .gt 15, 3) := by decide +kernel
theorem dX8_reads_124 : decode cX8_reads 124 = .ok (.aload_n 0, 1) := by decide +kernel
theorem dX8_reads_125 : decode cX8_reads 125 = .ok (.aload_n 0, 1) := by decide +kernel
theorem dX8_reads_126 : decode cX8_reads 126 = .ok (.getfield 156, 3) := by decide +kernel
theorem dX8_reads_129 : decode cX8_reads 129 = .ok (.iconst 1, 1) := by decide +kernel
theorem dX8_reads_130 : decode cX8_reads 130 = .ok (.isub, 1) := by decide +kernel
theorem dX8_reads_131 : decode cX8_reads 131 = .ok (.putfield 162, 3) := by decide +kernel
theorem dX8_reads_134 : decode cX8_reads 134 = .ok (.iconst 0, 1) := by decide +kernel
theorem dX8_reads_135 : decode cX8_reads 135 = .ok (.ireturn, 1) := by decide +kernel
theorem dX8_reads_136 : decode cX8_reads 136 = .ok (.iconst 1, 1) := by decide +kernel
theorem dX8_reads_137 : decode cX8_reads 137 = .ok (.ireturn, 1) := by decide +kernel
set_option maxRecDepth 20000 in
theorem ggX8_readsItem_X8_sign : GoodIn wsX8_readsItem wsX8_sign := goodIn_r _ [9, 1, 2, 10, 11, 12, 8, 13, 14, 15, 23, 24, 25, 26, 27, 28, 29, 30, 31, 32, 33, 34, 35, 36, 37, 38, 39, 40, 41, 42, 43, 44, 45, 46, 47, 48, 49, 50, 51, 52, 53, 54, 55, 56, 57, 58, 59, 60] (by decide +kernel) (by decide +kernel)
set_option maxRecDepth 20000 in
theorem gX8_readsItem_X8_sign : GoodIn wsX8_readsItem (wsV RX8 168 RX8 yX8_sign wsX8_sign) := goodIn_app (goodIn_of _ (by decide +kernel)) ggX8_readsItem_X8_sign
set_option maxRecDepth 20000 in
theorem ggX8_readsItem_X8_byteAt : GoodIn wsX8_readsItem wsX8_byteAt := goodIn_r _ [13, 1, 14, 15, 23, 24, 25, 26, 27, 28, 29, 30, 31, 32, 33, 34, 35, 36, 37, 38, 39, 40, 41, 42, 43, 44, 45, 46, 47, 48, 49, 50, 51, 52, 53, 54, 55, 56, 57, 58, 59, 60] (by decide +kernel) (by decide +kernel)
set_option maxRecDepth 20000 in
theorem gX8_readsItem_X8_byteAt : GoodIn wsX8_readsItem (wsV RX8 159 RX8 yX8_byteAt wsX8_byteAt) := goodIn_app (goodIn_of _ (by decide +kernel)) ggX8_readsItem_X8_byteAt
set_option maxRecDepth 20000 in
theorem ggX8_readsItem_X8_in : GoodIn wsX8_readsItem wsX8_in := goodIn_r _ [18] (by decide +kernel) (by decide +kernel)
set_option maxRecDepth 20000 in
theorem gX8_readsItem_X8_in : GoodIn wsX8_readsItem (va_wsS RX8 70 yX8_in wsX8_in) := goodIn_app (goodIn_of _ (by decide +kernel)) ggX8_readsItem_X8_in
set_option maxRecDepth 20000 in
theorem ggX8_readsItem_X8_reads : GoodIn wsX8_readsItem wsX8_reads := goodIn_r _ [22, 1, 2, 4, 10, 11, 12, 8, 13, 14, 15, 16, 17, 18, 23, 24, 25, 26, 27, 28, 29, 30, 31, 32, 33, 34, 35, 36, 37, 38, 39, 40, 41, 42, 43, 44, 45, 46, 47, 48, 49, 50, 51, 52, 53, 54, 55, 56, 57, 58, 59, 60] (by decide +kernel) (by decide +kernel)
set_option maxRecDepth 20000 in
theorem gX8_readsItem_X8_reads : GoodIn wsX8_readsItem (wsV RX8 171 RX8 yX8_reads wsX8_reads) := goodIn_app (goodIn_of _ (by decide +kernel)) ggX8_readsItem_X8_reads
theorem dX8_readsItem_0 : decode cX8_readsItem 0 = .ok (.aload_n 0, 1) := by decide +kernel
theorem dX8_readsItem_1 : decode cX8_readsItem 1 = .ok (.bipush 102, 2) := by decide +kernel
theorem dX8_readsItem_3 : decode cX8_readsItem 3 = .ok (.invokevirtual 168, 3) := by decide +kernel
theorem dX8_readsItem_6 : decode cX8_readsItem 6 = .ok (.ifCond .ne 5, 3) := by decide +kernel
theorem dX8_readsItem_9 : decode cX8_readsItem 9 = .ok (.iconst 0, 1) := by decide +kernel
theorem dX8_readsItem_10 : decode cX8_readsItem 10 = .ok (.ireturn, 1) := by decide +kernel
theorem dX8_readsItem_11 : decode cX8_readsItem 11 = .ok (.aload_n 0, 1) := by decide +kernel
theorem dX8_readsItem_12 : decode cX8_readsItem 12 = .ok (.invokevirtual 159, 3) := by decide +kernel
theorem dX8_readsItem_15 : decode cX8_readsItem 15 = .ok (.bipush 48, 2) := by decide +kernel
theorem dX8_readsItem_17 : decode cX8_readsItem 17 = .ok (.bipush 52, 2) := by decide +kernel
theorem dX8_readsItem_19 : decode cX8_readsItem 19 = .ok (.invokestatic 70, 3) := by decide +kernel
theorem dX8_readsItem_22 : decode cX8_readsItem 22 = .ok (.ifCond .ne 13, 3) := by decide +kernel
theorem dX8_readsItem_25 : decode cX8_readsItem 25 = .ok (.aload_n 0, 1) := by decide +kernel
theorem dX8_readsItem_26 : decode cX8_readsItem 26 = .ok (.aload_n 0, 1) := by decide +kernel
theorem dX8_readsItem_27 : decode cX8_readsItem 27 = .ok (.getfield 156, 3) := by decide +kernel
theorem dX8_readsItem_30 : decode cX8_readsItem 30 = .ok (.putfield 162, 3) := by decide +kernel
theorem dX8_readsItem_33 : decode cX8_readsItem 33 = .ok (.iconst 0, 1) := by decide +kernel
theorem dX8_readsItem_34 : decode cX8_readsItem 34 = .ok (.ireturn, 1) := by decide +kernel
theorem dX8_readsItem_35 : decode cX8_readsItem 35 = .ok (.aload_n 0, 1) := by decide +kernel
theorem dX8_readsItem_36 : decode cX8_readsItem 36 = .ok (.getfield 39, 3) := by decide +kernel
theorem dX8_readsItem_39 : decode cX8_readsItem 39 = .ok (.iload_n 1, 1) := by decide +kernel
theorem dX8_readsItem_40 : decode cX8_readsItem 40 = .ok (.aload_n 0, 1) := by decide +kernel
theorem dX8_readsItem_41 : decode cX8_readsItem 41 = .ok (.invokevirtual 159, 3) := by decide +kernel
theorem dX8_readsItem_44 : decode cX8_readsItem 44 = .ok (.bipush 48, 2) := by decide +kernel
theorem dX8_readsItem_46 : decode cX8_readsItem 46 = .ok (.isub, 1) := by decide +kernel
theorem dX8_readsItem_47 : decode cX8_readsItem 47 = .ok (.iastore, 1) := by decide +kernel
theorem dX8_readsItem_48 : decode cX8_readsItem 48 = .ok (.aload_n 0, 1) := by decide +kernel
theorem dX8_readsItem_49 : decode cX8_readsItem 49 = .ok (.dup, 1) := by decide +kernel
theorem dX8_readsItem_50 : decode cX8_readsItem 50 = .ok (.getfield 156, 3) := by decide +kernel
theorem dX8_readsItem_53 : decode cX8_readsItem 53 = .ok (.iconst 1, 1) := by decide +kernel
theorem dX8_readsItem_54 : decode cX8_readsItem 54 = .ok (.iadd, 1) := by decide +kernel
theorem dX8_readsItem_55 : decode cX8_readsItem 55 = .ok (.putfield 156, 3) := by decide +kernel
theorem dX8_readsItem_58 : decode cX8_readsItem 58 = .ok (.aload_n 0, 1) := by decide +kernel
theorem dX8_readsItem_59 : decode cX8_readsItem 59 = .ok (.bipush 32, 2) := by decide +kernel
theorem dX8_readsItem_61 : decode cX8_readsItem 61 = .ok (.invokevirtual 168, 3) := by decide +kernel
theorem dX8_readsItem_64 : decode cX8_readsItem 64 = .ok (.ifCond .eq 15, 3) := by decide +kernel
theorem dX8_readsItem_67 : decode cX8_readsItem 67 = .ok (.aload_n 0, 1) := by decide +kernel
theorem dX8_readsItem_68 : decode cX8_readsItem 68 = .ok (.bipush 48, 2) := by decide +kernel
theorem dX8_readsItem_70 : decode cX8_readsItem 70 = .ok (.bipush 23, 2) := by decide +kernel
theorem dX8_readsItem_72 : decode cX8_readsItem 72 = .ok (.iconst (-1), 1) := by decide +kernel
theorem dX8_readsItem_73 : decode cX8_readsItem 73 = .ok (.invokevirtual 171, 3) := by decide +kernel
theorem dX8_readsItem_76 : decode cX8_readsItem 76 = .ok (.ifCond .ne 5, 3) := by decide +kernel
theorem dX8_readsItem_79 : decode cX8_readsItem 79 = .ok (.iconst 0, 1) := by decide +kernel
theorem dX8_readsItem_80 : decode cX8_readsItem 80 = .ok (.ireturn, 1) := by decide +kernel
theorem dX8_readsItem_81 : decode cX8_readsItem 81 = .ok (.aload_n 0, 1) := by decide +kernel
theorem dX8_readsItem_82 : decode cX8_readsItem 82 = .ok (.getfield 39, 3) := by decide +kernel
theorem dX8_readsItem_85 : decode cX8_readsItem 85 = .ok (.iload_n 1, 1) := by decide +kernel
theorem dX8_readsItem_86 : decode cX8_readsItem 86 = .ok (.iconst 1, 1) := by decide +kernel
theorem dX8_readsItem_87 : decode cX8_readsItem 87 = .ok (.iadd, 1) := by decide +kernel
theorem dX8_readsItem_88 : decode cX8_readsItem 88 = .ok (.aload_n 0, 1) := by decide +kernel
theorem dX8_readsItem_89 : decode cX8_readsItem 89 = .ok (.getfield 165, 3) := by decide +kernel
theorem dX8_readsItem_92 : decode cX8_readsItem 92 = .ok (.iastore, 1) := by decide +kernel
theorem dX8_readsItem_93 : decode cX8_readsItem 93 = .ok (.aload_n 0, 1) := by decide +kernel
theorem dX8_readsItem_94 : decode cX8_readsItem 94 = .ok (.bipush 45, 2) := by decide +kernel
theorem dX8_readsItem_96 : decode cX8_readsItem 96 = .ok (.invokevirtual 168, 3) := by decide +kernel
theorem dX8_readsItem_99 : decode cX8_readsItem 99 = .ok (.ifCond .eq 22, 3) := by decide +kernel
theorem dX8_readsItem_102 : decode cX8_readsItem 102 = .ok (.aload_n 0, 1) := by decide +kernel
theorem dX8_readsItem_103 : decode cX8_readsItem 103 = .ok (.bipush 49, 2) := by decide +kernel
theorem dX8_readsItem_105 : decode cX8_readsItem 105 = .ok (.bipush 24, 2) := by decide +kernel
theorem dX8_readsItem_107 : decode cX8_readsItem 107 = .ok (.aload_n 0, 1) := by decide +kernel
theorem dX8_readsItem_108 : decode cX8_readsItem 108 = .ok (.getfield 39, 3) := by decide +kernel
theorem dX8_readsItem_111 : decode cX8_readsItem 111 = .ok (.iload_n 1, 1) := by decide +kernel
theorem dX8_readsItem_112 : decode cX8_readsItem 112 = .ok (.iconst 1, 1) := by decide +kernel
theorem dX8_readsItem_113 : decode cX8_readsItem 113 = .ok (.iadd, 1) := by decide +kernel
theorem dX8_readsItem_114 : decode cX8_readsItem 114 = .ok (.iaload, 1) := by decide +kernel
theorem dX8_readsItem_115 : decode cX8_readsItem 115 = .ok (.invokevirtual 171, 3) := by decide +kernel
theorem dX8_readsItem_118 : decode cX8_readsItem 118 = .ok (.ifCond .ne 5, 3) := by decide +kernel
theorem dX8_readsItem_121 : decode cX8_readsItem 121 = .ok (.iconst 0, 1) := by decide +kernel
theorem dX8_readsItem_122 : decode cX8_readsItem 122 = .ok (.ireturn, 1) := by decide +kernel
theorem dX8_readsItem_123 : decode cX8_readsItem 123 = .ok (.aload_n 0, 1) := by decide +kernel
theorem dX8_readsItem_124 : decode cX8_readsItem 124 = .ok (.getfield 39, 3) := by decide +kernel
theorem dX8_readsItem_127 : decode cX8_readsItem 127 = .ok (.iload_n 1, 1) := by decide +kernel
theorem dX8_readsItem_128 : decode cX8_readsItem 128 = .ok (.iconst 2, 1) := by decide +kernel
theorem dX8_readsItem_129 : decode cX8_readsItem 129 = .ok (.iadd, 1) := by decide +kernel
theorem dX8_readsItem_130 : decode cX8_readsItem 130 = .ok (.aload_n 0, 1) := by decide +kernel
theorem dX8_readsItem_131 : decode cX8_readsItem 131 = .ok (.getfield 165, 3) := by decide +kernel
theorem dX8_readsItem_134 : decode cX8_readsItem 134 = .ok (.iastore, 1) := by decide +kernel
theorem dX8_readsItem_135 : decode cX8_readsItem 135 = .ok (.aload_n 0, 1) := by decide +kernel
theorem dX8_readsItem_136 : decode cX8_readsItem 136 = .ok (.bipush 58, 2) := by decide +kernel
theorem dX8_readsItem_138 : decode cX8_readsItem 138 = .ok (.invokevirtual 168, 3) := by decide +kernel
theorem dX8_readsItem_141 : decode cX8_readsItem 141 = .ok (.ifCond .eq 16, 3) := by decide +kernel
theorem dX8_readsItem_144 : decode cX8_readsItem 144 = .ok (.aload_n 0, 1) := by decide +kernel
theorem dX8_readsItem_145 : decode cX8_readsItem 145 = .ok (.bipush 49, 2) := by decide +kernel
theorem dX8_readsItem_147 : decode cX8_readsItem 147 = .ok (.sipush 9999, 3) := by decide +kernel
theorem dX8_readsItem_150 : decode cX8_readsItem 150 = .ok (.iconst 0, 1) := by decide +kernel
theorem dX8_readsItem_151 : decode cX8_readsItem 151 = .ok (.invokevirtual 171, 3) := by decide +kernel
theorem dX8_readsItem_154 : decode cX8_readsItem 154 = .ok (.ifCond .ne 5, 3) := by decide +kernel
theorem dX8_readsItem_157 : decode cX8_readsItem 157 = .ok (.iconst 0, 1) := by decide +kernel
theorem dX8_readsItem_158 : decode cX8_readsItem 158 = .ok (.ireturn, 1) := by decide +kernel
theorem dX8_readsItem_159 : decode cX8_readsItem 159 = .ok (.aload_n 0, 1) := by decide +kernel
theorem dX8_readsItem_160 : decode cX8_readsItem 160 = .ok (.getfield 39, 3) := by decide +kernel
theorem dX8_readsItem_163 : decode cX8_readsItem 163 = .ok (.iload_n 1, 1) := by decide +kernel
theorem dX8_readsItem_164 : decode cX8_readsItem 164 = .ok (.iconst 3, 1) := by decide +kernel
theorem dX8_readsItem_165 : decode cX8_readsItem 165 = .ok (.iadd, 1) := by decide +kernel
theorem dX8_readsItem_166 : decode cX8_readsItem 166 = .ok (.aload_n 0, 1) := by decide +kernel
theorem dX8_readsItem_167 : decode cX8_readsItem 167 = .ok (.getfield 165, 3) := by decide +kernel
theorem dX8_readsItem_170 : decode cX8_readsItem 170 = .ok (.iastore, 1) := by decide +kernel
theorem dX8_readsItem_171 : decode cX8_readsItem 171 = .ok (.aload_n 0, 1) := by decide +kernel
theorem dX8_readsItem_172 : decode cX8_readsItem 172 = .ok (.bipush 59, 2) := by decide +kernel
theorem dX8_readsItem_174 : decode cX8_readsItem 174 = .ok (.invokevirtual 168, 3) := by decide +kernel
theorem dX8_readsItem_177 : decode cX8_readsItem 177 = .ok (.ireturn, 1) := by decide +kernel
set_option maxRecDepth 20000 in
theorem ggX8_rights_X8_readsItem : GoodIn wsX8_rights wsX8_readsItem := goodIn_r _ [12, 2, 4, 6, 13, 14, 15, 16, 11, 17, 18, 19, 20, 21, 3, 22, 23, 24, 25, 26, 27, 28, 29, 30, 31, 32, 33, 34, 35, 36, 37, 38, 39, 40, 41, 42, 43, 44, 45, 46, 47, 48, 49, 50, 51, 52, 53, 54, 55, 56, 57, 58, 59, 60, 61, 62, 63, 64, 65, 66, 67] (by decide +kernel) (by decide +kernel)
set_option maxRecDepth 20000 in
theorem gX8_rights_X8_readsItem : GoodIn wsX8_rights (wsV RX8 174 RX8 yX8_readsItem wsX8_readsItem) := goodIn_app (goodIn_of _ (by decide +kernel)) ggX8_rights_X8_readsItem
theorem dX8_rights_0 : decode cX8_rights 0 = .ok (.aload_n 0, 1) := by decide +kernel
theorem dX8_rights_1 : decode cX8_rights 1 = .ok (.iconst 0, 1) := by decide +kernel
theorem dX8_rights_2 : decode cX8_rights 2 = .ok (.putfield 64, 3) := by decide +kernel
theorem dX8_rights_5 : decode cX8_rights 5 = .ok (.aload_n 0, 1) := by decide +kernel
theorem dX8_rights_6 : decode cX8_rights 6 = .ok (.iconst 0, 1) := by decide +kernel
theorem dX8_rights_7 : decode cX8_rights 7 = .ok (.putfield 156, 3) := by decide +kernel
theorem dX8_rights_10 : decode cX8_rights 10 = .ok (.iconst 0, 1) := by decide +kernel
theorem dX8_rights_11 : decode cX8_rights 11 = .ok (.istore_n 1, 1) := by decide +kernel
theorem dX8_rights_12 : decode cX8_rights 12 = .ok (.aload_n 0, 1) := by decide +kernel
theorem dX8_rights_13 : decode cX8_rights 13 = .ok (.getfield 156, 3) := by decide +kernel
theorem dX8_rights_16 : decode cX8_rights 16 = .ok (.aload_n 0, 1) := by decide +kernel
theorem dX8_rights_17 : decode cX8_rights 17 = .ok (.getfield 151, 3) := by decide +kernel
theorem dX8_rights_20 : decode cX8_rights 20 = .ok (.if_icmp .ge 41, 3) := by decide +kernel
theorem dX8_rights_23 : decode cX8_rights 23 = .ok (.iload_n 1, 1) := by decide +kernel
theorem dX8_rights_24 : decode cX8_rights 24 = .ok (.bipush 12, 2) := by decide +kernel
theorem dX8_rights_26 : decode cX8_rights 26 = .ok (.if_icmp .ne 11, 3) := by decide +kernel
theorem dX8_rights_29 : decode cX8_rights 29 = .ok (.bipush (-10), 2) := by decide +kernel
theorem dX8_rights_31 : decode cX8_rights 31 = .ok (.aload_n 0, 1) := by decide +kernel
theorem dX8_rights_32 : decode cX8_rights 32 = .ok (.getfield 156, 3) := by decide +kernel
theorem dX8_rights_35 : decode cX8_rights 35 = .ok (.isub, 1) := by decide +kernel
theorem dX8_rights_36 : decode cX8_rights 36 = .ok (.ireturn, 1) := by decide +kernel
theorem dX8_rights_37 : decode cX8_rights 37 = .ok (.aload_n 0, 1) := by decide +kernel
theorem dX8_rights_38 : decode cX8_rights 38 = .ok (.iconst 4, 1) := by decide +kernel
theorem dX8_rights_39 : decode cX8_rights 39 = .ok (.iload_n 1, 1) := by decide +kernel
theorem dX8_rights_40 : decode cX8_rights 40 = .ok (.imul, 1) := by decide +kernel
theorem dX8_rights_41 : decode cX8_rights 41 = .ok (.invokevirtual 174, 3) := by decide +kernel
theorem dX8_rights_44 : decode cX8_rights 44 = .ok (.ifCond .ne 11, 3) := by decide +kernel
theorem dX8_rights_47 : decode cX8_rights 47 = .ok (.bipush (-10), 2) := by decide +kernel
theorem dX8_rights_49 : decode cX8_rights 49 = .ok (.aload_n 0, 1) := by decide +kernel
theorem dX8_rights_50 : decode cX8_rights 50 = .ok (.getfield 162, 3) := by decide +kernel
theorem dX8_rights_53 : decode cX8_rights 53 = .ok (.isub, 1) := by decide +kernel
theorem dX8_rights_54 : decode cX8_rights 54 = .ok (.ireturn, 1) := by decide +kernel
theorem dX8_rights_55 : decode cX8_rights 55 = .ok (.iinc 1 1, 3) := by decide +kernel
theorem dX8_rights_58 : decode cX8_rights 58 = .ok (.goto (-46), 3) := by decide +kernel
theorem dX8_rights_61 : decode cX8_rights 61 = .ok (.iconst 0, 1) := by decide +kernel
theorem dX8_rights_62 : decode cX8_rights 62 = .ok (.istore_n 2, 1) := by decide +kernel
theorem dX8_rights_63 : decode cX8_rights 63 = .ok (.iload_n 2, 1) := by decide +kernel
theorem dX8_rights_64 : decode cX8_rights 64 = .ok (.iconst 4, 1) := by decide +kernel
theorem dX8_rights_65 : decode cX8_rights 65 = .ok (.iload_n 1, 1) := by decide +kernel
theorem dX8_rights_66 : decode cX8_rights 66 = .ok (.imul, 1) := by decide +kernel
theorem dX8_rights_67 : decode cX8_rights 67 = .ok (.if_icmp .ge 21, 3) := by decide +kernel
theorem dX8_rights_70 : decode cX8_rights 70 = .ok (.aload_n 0, 1) := by decide +kernel
theorem dX8_rights_71 : decode cX8_rights 71 = .ok (.getfield 36, 3) := by decide +kernel
theorem dX8_rights_74 : decode cX8_rights 74 = .ok (.iload_n 2, 1) := by decide +kernel
theorem dX8_rights_75 : decode cX8_rights 75 = .ok (.aload_n 0, 1) := by decide +kernel
theorem dX8_rights_76 : decode cX8_rights 76 = .ok (.getfield 39, 3) := by decide +kernel
theorem dX8_rights_79 : decode cX8_rights 79 = .ok (.iload_n 2, 1) := by decide +kernel
theorem dX8_rights_80 : decode cX8_rights 80 = .ok (.iaload, 1) := by decide +kernel
theorem dX8_rights_81 : decode cX8_rights 81 = .ok (.iastore, 1) := by decide +kernel
theorem dX8_rights_82 : decode cX8_rights 82 = .ok (.iinc 2 1, 3) := by decide +kernel
theorem dX8_rights_85 : decode cX8_rights 85 = .ok (.goto (-22), 3) := by decide +kernel
theorem dX8_rights_88 : decode cX8_rights 88 = .ok (.aload_n 0, 1) := by decide +kernel
theorem dX8_rights_89 : decode cX8_rights 89 = .ok (.iload_n 1, 1) := by decide +kernel
theorem dX8_rights_90 : decode cX8_rights 90 = .ok (.putfield 177, 3) := by decide +kernel
theorem dX8_rights_93 : decode cX8_rights 93 = .ok (.aload_n 0, 1) := by decide +kernel
theorem dX8_rights_94 : decode cX8_rights 94 = .ok (.iconst 0, 1) := by decide +kernel
theorem dX8_rights_95 : decode cX8_rights 95 = .ok (.putfield 151, 3) := by decide +kernel
theorem dX8_rights_98 : decode cX8_rights 98 = .ok (.iload_n 1, 1) := by decide +kernel
theorem dX8_rights_99 : decode cX8_rights 99 = .ok (.ireturn, 1) := by decide +kernel
theorem dX8_rightOf_0 : decode cX8_rightOf 0 = .ok (.iconst 0, 1) := by decide +kernel
theorem dX8_rightOf_1 : decode cX8_rightOf 1 = .ok (.istore_n 3, 1) := by decide +kernel
theorem dX8_rightOf_2 : decode cX8_rightOf 2 = .ok (.iconst 0, 1) := by decide +kernel
theorem dX8_rightOf_3 : decode cX8_rightOf 3 = .ok (.istore 4, 2) := by decide +kernel
theorem dX8_rightOf_5 : decode cX8_rightOf 5 = .ok (.iload 4, 2) := by decide +kernel
theorem dX8_rightOf_7 : decode cX8_rightOf 7 = .ok (.aload_n 0, 1) := by decide +kernel
theorem dX8_rightOf_8 : decode cX8_rightOf 8 = .ok (.getfield 177, 3) := by decide +kernel
theorem dX8_rightOf_11 : decode cX8_rightOf 11 = .ok (.if_icmp .ge 70, 3) := by decide +kernel
theorem dX8_rightOf_14 : decode cX8_rightOf 14 = .ok (.iload_n 3, 1) := by decide +kernel
theorem dX8_rightOf_15 : decode cX8_rightOf 15 = .ok (.aload_n 0, 1) := by decide +kernel
theorem dX8_rightOf_16 : decode cX8_rightOf 16 = .ok (.getfield 36, 3) := by decide +kernel
theorem dX8_rightOf_19 : decode cX8_rightOf 19 = .ok (.iconst 4, 1) := by decide +kernel
theorem dX8_rightOf_20 : decode cX8_rightOf 20 = .ok (.iload 4, 2) := by decide +kernel
theorem dX8_rightOf_22 : decode cX8_rightOf 22 = .ok (.imul, 1) := by decide +kernel
theorem dX8_rightOf_23 : decode cX8_rightOf 23 = .ok (.iaload, 1) := by decide +kernel
theorem dX8_rightOf_24 : decode cX8_rightOf 24 = .ok (.iload_n 1, 1) := by decide +kernel
theorem dX8_rightOf_25 : decode cX8_rightOf 25 = .ok (.if_icmp .ne 47, 3) := by decide +kernel
theorem dX8_rightOf_28 : decode cX8_rightOf 28 = .ok (.iload_n 2, 1) := by decide +kernel
theorem dX8_rightOf_29 : decode cX8_rightOf 29 = .ok (.aload_n 0, 1) := by decide +kernel
theorem dX8_rightOf_30 : decode cX8_rightOf 30 = .ok (.getfield 36, 3) := by decide +kernel
theorem dX8_rightOf_33 : decode cX8_rightOf 33 = .ok (.iconst 4, 1) := by decide +kernel
theorem dX8_rightOf_34 : decode cX8_rightOf 34 = .ok (.iload 4, 2) := by decide +kernel
theorem dX8_rightOf_36 : decode cX8_rightOf 36 = .ok (.imul, 1) := by decide +kernel
theorem dX8_rightOf_37 : decode cX8_rightOf 37 = .ok (.iconst 1, 1) := by decide +kernel
theorem dX8_rightOf_38 : decode cX8_rightOf 38 = .ok (.iadd, 1) := by decide +kernel
theorem dX8_rightOf_39 : decode cX8_rightOf 39 = .ok (.iaload, 1) := by decide +kernel
theorem dX8_rightOf_40 : decode cX8_rightOf 40 = .ok (.if_icmp .lt 32, 3) := by decide +kernel
theorem dX8_rightOf_43 : decode cX8_rightOf 43 = .ok (.iload_n 2, 1) := by decide +kernel
theorem dX8_rightOf_44 : decode cX8_rightOf 44 = .ok (.aload_n 0, 1) := by decide +kernel
theorem dX8_rightOf_45 : decode cX8_rightOf 45 = .ok (.getfield 36, 3) := by decide +kernel
theorem dX8_rightOf_48 : decode cX8_rightOf 48 = .ok (.iconst 4, 1) := by decide +kernel
theorem dX8_rightOf_49 : decode cX8_rightOf 49 = .ok (.iload 4, 2) := by decide +kernel
theorem dX8_rightOf_51 : decode cX8_rightOf 51 = .ok (.imul, 1) := by decide +kernel
theorem dX8_rightOf_52 : decode cX8_rightOf 52 = .ok (.iconst 2, 1) := by decide +kernel
theorem dX8_rightOf_53 : decode cX8_rightOf 53 = .ok (.iadd, 1) := by decide +kernel
theorem dX8_rightOf_54 : decode cX8_rightOf 54 = .ok (.iaload, 1) := by decide +kernel
theorem dX8_rightOf_55 : decode cX8_rightOf 55 = .ok (.if_icmp .ge 17, 3) := by decide +kernel
theorem dX8_rightOf_58 : decode cX8_rightOf 58 = .ok (.aload_n 0, 1) := by decide +kernel
theorem dX8_rightOf_59 : decode cX8_rightOf 59 = .ok (.getfield 36, 3) := by decide +kernel
theorem dX8_rightOf_62 : decode cX8_rightOf 62 = .ok (.iconst 4, 1) := by decide +kernel
theorem dX8_rightOf_63 : decode cX8_rightOf 63 = .ok (.iload 4, 2) := by decide +kernel
theorem dX8_rightOf_65 : decode cX8_rightOf 65 = .ok (.imul, 1) := by decide +kernel
theorem dX8_rightOf_66 : decode cX8_rightOf 66 = .ok (.iconst 3, 1) := by decide +kernel
theorem dX8_rightOf_67 : decode cX8_rightOf 67 = .ok (.iadd, 1) := by decide +kernel
theorem dX8_rightOf_68 : decode cX8_rightOf 68 = .ok (.iaload, 1) := by decide +kernel
theorem dX8_rightOf_69 : decode cX8_rightOf 69 = .ok (.goto 4, 3) := by decide +kernel
theorem dX8_rightOf_72 : decode cX8_rightOf 72 = .ok (.iconst 0, 1) := by decide +kernel
theorem dX8_rightOf_73 : decode cX8_rightOf 73 = .ok (.iadd, 1) := by decide +kernel
theorem dX8_rightOf_74 : decode cX8_rightOf 74 = .ok (.istore_n 3, 1) := by decide +kernel
theorem dX8_rightOf_75 : decode cX8_rightOf 75 = .ok (.iinc 4 1, 3) := by decide +kernel
theorem dX8_rightOf_78 : decode cX8_rightOf 78 = .ok (.goto (-73), 3) := by decide +kernel
theorem dX8_rightOf_81 : decode cX8_rightOf 81 = .ok (.iload_n 3, 1) := by decide +kernel
theorem dX8_rightOf_82 : decode cX8_rightOf 82 = .ok (.ireturn, 1) := by decide +kernel
set_option maxRecDepth 20000 in
theorem ggX8_right_X8_in : GoodIn wsX8_right wsX8_in := goodIn_r _ [5] (by decide +kernel) (by decide +kernel)
set_option maxRecDepth 20000 in
theorem gX8_right_X8_in : GoodIn wsX8_right (va_wsS RX8 70 yX8_in wsX8_in) := goodIn_app (goodIn_of _ (by decide +kernel)) ggX8_right_X8_in
set_option maxRecDepth 20000 in
theorem ggX8_right_X8_rightOf : GoodIn wsX8_right wsX8_rightOf := goodIn_r _ [9, 10, 11, 12, 13, 14, 15, 16, 17, 18, 19, 20, 21, 22, 23, 24, 25, 26, 27, 28, 29, 30, 31, 32, 33, 34, 35, 36, 37, 38, 39, 40, 41, 42, 43, 44, 45, 46, 47, 48, 49] (by decide +kernel) (by decide +kernel)
set_option maxRecDepth 20000 in
theorem gX8_right_X8_rightOf : GoodIn wsX8_right (wsV RX8 180 RX8 yX8_rightOf wsX8_rightOf) := goodIn_app (goodIn_of _ (by decide +kernel)) ggX8_right_X8_rightOf
theorem dX8_right_0 : decode cX8_right 0 = .ok (.aload_n 0, 1) := by decide +kernel
theorem dX8_right_1 : decode cX8_right 1 = .ok (.iconst 0, 1) := by decide +kernel
theorem dX8_right_2 : decode cX8_right 2 = .ok (.putfield 64, 3) := by decide +kernel
theorem dX8_right_5 : decode cX8_right 5 = .ok (.iload_n 1, 1) := by decide +kernel
theorem dX8_right_6 : decode cX8_right 6 = .ok (.iconst 0, 1) := by decide +kernel
theorem dX8_right_7 : decode cX8_right 7 = .ok (.iconst 4, 1) := by decide +kernel
theorem dX8_right_8 : decode cX8_right 8 = .ok (.invokestatic 70, 3) := by decide +kernel
theorem dX8_right_11 : decode cX8_right 11 = .ok (.ifCond .eq 22, 3) := by decide +kernel
theorem dX8_right_14 : decode cX8_right 14 = .ok (.iload_n 2, 1) := by decide +kernel
theorem dX8_right_15 : decode cX8_right 15 = .ok (.iconst 0, 1) := by decide +kernel
theorem dX8_right_16 : decode cX8_right 16 = .ok (.bipush 23, 2) := by decide +kernel
theorem dX8_right_18 : decode cX8_right 18 = .ok (.invokestatic 70, 3) := by decide +kernel
theorem dX8_right_21 : decode cX8_right 21 = .ok (.ifCond .eq 12, 3) := by decide +kernel
theorem dX8_right_24 : decode cX8_right 24 = .ok (.aload_n 0, 1) := by decide +kernel
theorem dX8_right_25 : decode cX8_right 25 = .ok (.iload_n 1, 1) := by decide +kernel
theorem dX8_right_26 : decode cX8_right 26 = .ok (.iload_n 2, 1) := by decide +kernel
theorem dX8_right_27 : decode cX8_right 27 = .ok (.invokevirtual 180, 3) := by decide +kernel
theorem dX8_right_30 : decode cX8_right 30 = .ok (.goto 4, 3) := by decide +kernel
theorem dX8_right_33 : decode cX8_right 33 = .ok (.iconst (-1), 1) := by decide +kernel
theorem dX8_right_34 : decode cX8_right 34 = .ok (.ireturn, 1) := by decide +kernel
set_option maxRecDepth 20000 in
theorem ggX8_goes_X8_takes : GoodIn wsX8_goes wsX8_takes := goodIn_r _ [19, 7, 13, 46, 47, 48, 49, 50, 51, 52, 53, 54, 55, 56, 57, 58, 59, 60, 61, 62, 63, 64, 65, 66, 67, 68, 69, 70, 71, 72, 73, 74, 75, 76, 77, 78, 79, 80, 81, 82, 83] (by decide +kernel) (by decide +kernel)
set_option maxRecDepth 20000 in
theorem gX8_goes_X8_takes : GoodIn wsX8_goes (wsV RX8 89 RX8 yX8_takes wsX8_takes) := goodIn_app (goodIn_of _ (by decide +kernel)) ggX8_goes_X8_takes
set_option maxRecDepth 20000 in
theorem ggX8_goes_X8_hourOf : GoodIn wsX8_goes wsX8_hourOf := goodIn_r _ [23, 7, 24, 25, 26, 27, 28, 29, 18, 30, 31, 9, 32, 33, 34, 35, 36, 37, 38, 39, 46, 47, 48, 49, 50, 51, 52, 53, 54, 55, 56, 57, 58, 59, 60, 61, 62, 63, 64, 65, 66, 67, 68, 69, 70, 71, 72, 73, 74, 75, 76, 77, 78, 79, 80, 81, 82, 83] (by decide +kernel) (by decide +kernel)
set_option maxRecDepth 20000 in
theorem gX8_goes_X8_hourOf : GoodIn wsX8_goes (wsV RX8 124 RX8 yX8_hourOf wsX8_hourOf) := goodIn_app (goodIn_of _ (by decide +kernel)) ggX8_goes_X8_hourOf
set_option maxRecDepth 20000 in
theorem ggX8_goes_X8_rightOf : GoodIn wsX8_goes wsX8_rightOf := goodIn_r _ [43, 44, 45, 46, 47, 48, 49, 50, 51, 52, 53, 54, 55, 56, 57, 58, 59, 60, 61, 62, 63, 64, 65, 66, 67, 68, 69, 70, 71, 72, 73, 74, 75, 76, 77, 78, 79, 80, 81, 82, 83] (by decide +kernel) (by decide +kernel)
set_option maxRecDepth 20000 in
theorem gX8_goes_X8_rightOf : GoodIn wsX8_goes (wsV RX8 180 RX8 yX8_rightOf wsX8_rightOf) := goodIn_app (goodIn_of _ (by decide +kernel)) ggX8_goes_X8_rightOf
theorem dX8_goes_0 : decode cX8_goes 0 = .ok (.aload_n 0, 1) := by decide +kernel
theorem dX8_goes_1 : decode cX8_goes 1 = .ok (.getfield 16, 3) := by decide +kernel
theorem dX8_goes_4 : decode cX8_goes 4 = .ok (.aload_n 0, 1) := by decide +kernel
theorem dX8_goes_5 : decode cX8_goes 5 = .ok (.getfield 184, 3) := by decide +kernel
theorem dX8_goes_8 : decode cX8_goes 8 = .ok (.iaload, 1) := by decide +kernel
theorem dX8_goes_9 : decode cX8_goes 9 = .ok (.istore_n 1, 1) := by decide +kernel
theorem dX8_goes_10 : decode cX8_goes 10 = .ok (.aload_n 0, 1) := by decide +kernel
theorem dX8_goes_11 : decode cX8_goes 11 = .ok (.getfield 187, 3) := by decide +kernel
theorem dX8_goes_14 : decode cX8_goes 14 = .ok (.aload_n 0, 1) := by decide +kernel
theorem dX8_goes_15 : decode cX8_goes 15 = .ok (.getfield 142, 3) := by decide +kernel
theorem dX8_goes_18 : decode cX8_goes 18 = .ok (.if_icmp .lt 18, 3) := by decide +kernel
theorem dX8_goes_21 : decode cX8_goes 21 = .ok (.aload_n 0, 1) := by decide +kernel
theorem dX8_goes_22 : decode cX8_goes 22 = .ok (.getfield 187, 3) := by decide +kernel
theorem dX8_goes_25 : decode cX8_goes 25 = .ok (.aload_n 0, 1) := by decide +kernel
theorem dX8_goes_26 : decode cX8_goes 26 = .ok (.getfield 145, 3) := by decide +kernel
theorem dX8_goes_29 : decode cX8_goes 29 = .ok (.if_icmp .ge 7, 3) := by decide +kernel
theorem dX8_goes_32 : decode cX8_goes 32 = .ok (.iconst 1, 1) := by decide +kernel
theorem dX8_goes_33 : decode cX8_goes 33 = .ok (.goto 4, 3) := by decide +kernel
theorem dX8_goes_36 : decode cX8_goes 36 = .ok (.iconst 0, 1) := by decide +kernel
theorem dX8_goes_37 : decode cX8_goes 37 = .ok (.istore_n 2, 1) := by decide +kernel
theorem dX8_goes_38 : decode cX8_goes 38 = .ok (.iconst 0, 1) := by decide +kernel
theorem dX8_goes_39 : decode cX8_goes 39 = .ok (.istore_n 3, 1) := by decide +kernel
theorem dX8_goes_40 : decode cX8_goes 40 = .ok (.iload_n 3, 1) := by decide +kernel
theorem dX8_goes_41 : decode cX8_goes 41 = .ok (.aload_n 0, 1) := by decide +kernel
theorem dX8_goes_42 : decode cX8_goes 42 = .ok (.getfield 67, 3) := by decide +kernel
theorem dX8_goes_45 : decode cX8_goes 45 = .ok (.if_icmp .ge 272, 3) := by decide +kernel
theorem dX8_goes_48 : decode cX8_goes 48 = .ok (.aload_n 0, 1) := by decide +kernel
theorem dX8_goes_49 : decode cX8_goes 49 = .ok (.iload_n 3, 1) := by decide +kernel
theorem dX8_goes_50 : decode cX8_goes 50 = .ok (.invokevirtual 89, 3) := by decide +kernel
theorem dX8_goes_53 : decode cX8_goes 53 = .ok (.aload_n 0, 1) := by decide +kernel
theorem dX8_goes_54 : decode cX8_goes 54 = .ok (.getfield 13, 3) := by decide +kernel
theorem dX8_goes_57 : decode cX8_goes 57 = .ok (.bipush 12, 2) := by decide +kernel
theorem dX8_goes_59 : decode cX8_goes 59 = .ok (.iaload, 1) := by decide +kernel
theorem dX8_goes_60 : decode cX8_goes 60 = .ok (.iconst 1, 1) := by decide +kernel
theorem dX8_goes_61 : decode cX8_goes 61 = .ok (.if_icmp .ne 37, 3) := by decide +kernel
theorem dX8_goes_64 : decode cX8_goes 64 = .ok (.iload_n 2, 1) := by decide +kernel
theorem dX8_goes_65 : decode cX8_goes 65 = .ok (.ifCond .ne 33, 3) := by decide +kernel
theorem dX8_goes_68 : decode cX8_goes 68 = .ok (.aload_n 0, 1) := by decide +kernel
theorem dX8_goes_69 : decode cX8_goes 69 = .ok (.getfield 13, 3) := by decide +kernel
theorem dX8_goes_72 : decode cX8_goes 72 = .ok (.iconst 5, 1) := by decide +kernel
theorem dX8_goes_73 : decode cX8_goes 73 = .ok (.iaload, 1) := by decide +kernel
theorem dX8_goes_74 : decode cX8_goes 74 = .ok (.iconst 2, 1) := by decide +kernel
theorem dX8_goes_75 : decode cX8_goes 75 = .ok (.if_icmp .gt 19, 3) := by decide +kernel
theorem dX8_goes_78 : decode cX8_goes 78 = .ok (.aload_n 0, 1) := by decide +kernel
theorem dX8_goes_79 : decode cX8_goes 79 = .ok (.getfield 187, 3) := by decide +kernel
theorem dX8_goes_82 : decode cX8_goes 82 = .ok (.aload_n 0, 1) := by decide +kernel
theorem dX8_goes_83 : decode cX8_goes 83 = .ok (.getfield 19, 3) := by decide +kernel
theorem dX8_goes_86 : decode cX8_goes 86 = .ok (.aload_n 0, 1) := by decide +kernel
theorem dX8_goes_87 : decode cX8_goes 87 = .ok (.getfield 184, 3) := by decide +kernel
theorem dX8_goes_90 : decode cX8_goes 90 = .ok (.iaload, 1) := by decide +kernel
theorem dX8_goes_91 : decode cX8_goes 91 = .ok (.if_icmp .lt 7, 3) := by decide +kernel
theorem dX8_goes_94 : decode cX8_goes 94 = .ok (.iconst 1, 1) := by decide +kernel
theorem dX8_goes_95 : decode cX8_goes 95 = .ok (.goto 4, 3) := by decide +kernel
theorem dX8_goes_98 : decode cX8_goes 98 = .ok (.iconst 0, 1) := by decide +kernel
theorem dX8_goes_99 : decode cX8_goes 99 = .ok (.istore 4, 2) := by decide +kernel
theorem dX8_goes_101 : decode cX8_goes 101 = .ok (.iload 4, 2) := by decide +kernel
theorem dX8_goes_103 : decode cX8_goes 103 = .ok (.ifCond .eq 11, 3) := by decide +kernel
theorem dX8_goes_106 : decode cX8_goes 106 = .ok (.aload_n 0, 1) := by decide +kernel
theorem dX8_goes_107 : decode cX8_goes 107 = .ok (.iconst 3, 1) := by decide +kernel
theorem dX8_goes_108 : decode cX8_goes 108 = .ok (.invokevirtual 124, 3) := by decide +kernel
theorem dX8_goes_111 : decode cX8_goes 111 = .ok (.goto 4, 3) := by decide +kernel
theorem dX8_goes_114 : decode cX8_goes 114 = .ok (.iconst 0, 1) := by decide +kernel
theorem dX8_goes_115 : decode cX8_goes 115 = .ok (.istore 5, 2) := by decide +kernel
theorem dX8_goes_117 : decode cX8_goes 117 = .ok (.iload 4, 2) := by decide +kernel
theorem dX8_goes_119 : decode cX8_goes 119 = .ok (.ifCond .eq 192, 3) := by decide +kernel
theorem dX8_goes_122 : decode cX8_goes 122 = .ok (.iload 5, 2) := by decide +kernel
theorem dX8_goes_124 : decode cX8_goes 124 = .ok (.iload_n 1, 1) := by decide +kernel
theorem dX8_goes_125 : decode cX8_goes 125 = .ok (.if_icmp .gt 186, 3) := by decide +kernel
theorem dX8_goes_128 : decode cX8_goes 128 = .ok (.iload_n 1, 1) := by decide +kernel
theorem dX8_goes_129 : decode cX8_goes 129 = .ok (.iload 5, 2) := by decide +kernel
theorem dX8_goes_131 : decode cX8_goes 131 = .ok (.isub, 1) := by decide +kernel
theorem dX8_goes_132 : decode cX8_goes 132 = .ok (.istore_n 1, 1) := by decide +kernel
theorem dX8_goes_133 : decode cX8_goes 133 = .ok (.aload_n 0, 1) := by decide +kernel
theorem dX8_goes_134 : decode cX8_goes 134 = .ok (.iconst 2, 1) := by decide +kernel
theorem dX8_goes_135 : decode cX8_goes 135 = .ok (.invokevirtual 124, 3) := by decide +kernel
theorem dX8_goes_138 : decode cX8_goes 138 = .ok (.istore 6, 2) := by decide +kernel
theorem dX8_goes_140 : decode cX8_goes 140 = .ok (.aload_n 0, 1) := by decide +kernel
theorem dX8_goes_141 : decode cX8_goes 141 = .ok (.getfield 106, 3) := by decide +kernel
theorem dX8_goes_144 : decode cX8_goes 144 = .ok (.bipush (-9), 2) := by decide +kernel
theorem dX8_goes_146 : decode cX8_goes 146 = .ok (.if_icmp .eq 7, 3) := by decide +kernel
theorem dX8_goes_149 : decode cX8_goes 149 = .ok (.iconst 1, 1) := by decide +kernel
theorem dX8_goes_150 : decode cX8_goes 150 = .ok (.goto 4, 3) := by decide +kernel
theorem dX8_goes_153 : decode cX8_goes 153 = .ok (.iconst 0, 1) := by decide +kernel
theorem dX8_goes_154 : decode cX8_goes 154 = .ok (.istore 7, 2) := by decide +kernel
theorem dX8_goes_156 : decode cX8_goes 156 = .ok (.aload_n 0, 1) := by decide +kernel
theorem dX8_goes_157 : decode cX8_goes 157 = .ok (.getfield 42, 3) := by decide +kernel
theorem dX8_goes_160 : decode cX8_goes 160 = .ok (.iconst 0, 1) := by decide +kernel
theorem dX8_goes_161 : decode cX8_goes 161 = .ok (.dup2, 1) := by decide +kernel
theorem dX8_goes_162 : decode cX8_goes 162 = .ok (.laload, 1) := by decide +kernel
theorem dX8_goes_163 : decode cX8_goes 163 = .ok (.iload 6, 2) := by decide +kernel
theorem dX8_goes_165 : decode cX8_goes 165 = .ok (.i2l, 1) := by decide +kernel
theorem dX8_goes_166 : decode cX8_goes 166 = .ok (.ladd, 1) := by decide +kernel
theorem dX8_goes_167 : decode cX8_goes 167 = .ok (.lastore, 1) := by decide +kernel
theorem dX8_goes_168 : decode cX8_goes 168 = .ok (.aload_n 0, 1) := by decide +kernel
theorem dX8_goes_169 : decode cX8_goes 169 = .ok (.getfield 42, 3) := by decide +kernel
theorem dX8_goes_172 : decode cX8_goes 172 = .ok (.iconst 1, 1) := by decide +kernel
theorem dX8_goes_173 : decode cX8_goes 173 = .ok (.dup2, 1) := by decide +kernel
theorem dX8_goes_174 : decode cX8_goes 174 = .ok (.laload, 1) := by decide +kernel
theorem dX8_goes_175 : decode cX8_goes 175 = .ok (.aload_n 0, 1) := by decide +kernel
theorem dX8_goes_176 : decode cX8_goes 176 = .ok (.iconst 1, 1) := by decide +kernel
theorem dX8_goes_177 : decode cX8_goes 177 = .ok (.invokevirtual 124, 3) := by decide +kernel
theorem dX8_goes_180 : decode cX8_goes 180 = .ok (.i2l, 1) := by decide +kernel
theorem dX8_goes_181 : decode cX8_goes 181 = .ok (.ladd, 1) := by decide +kernel
theorem dX8_goes_182 : decode cX8_goes 182 = .ok (.lastore, 1) := by decide +kernel
theorem dX8_goes_183 : decode cX8_goes 183 = .ok (.aload_n 0, 1) := by decide +kernel
theorem dX8_goes_184 : decode cX8_goes 184 = .ok (.dup, 1) := by decide +kernel
theorem dX8_goes_185 : decode cX8_goes 185 = .ok (.getfield 148, 3) := by decide +kernel
theorem dX8_goes_188 : decode cX8_goes 188 = .ok (.iload 6, 2) := by decide +kernel
theorem dX8_goes_190 : decode cX8_goes 190 = .ok (.iadd, 1) := by decide +kernel
theorem dX8_goes_191 : decode cX8_goes 191 = .ok (.putfield 148, 3) := by decide +kernel
theorem dX8_goes_194 : decode cX8_goes 194 = .ok (.aload_n 0, 1) := by decide +kernel
theorem dX8_goes_195 : decode cX8_goes 195 = .ok (.getfield 148, 3) := by decide +kernel
theorem dX8_goes_198 : decode cX8_goes 198 = .ok (.aload_n 0, 1) := by decide +kernel
theorem dX8_goes_199 : decode cX8_goes 199 = .ok (.getfield 29, 3) := by decide +kernel
theorem dX8_goes_202 : decode cX8_goes 202 = .ok (.if_icmp .le 30, 3) := by decide +kernel
theorem dX8_goes_205 : decode cX8_goes 205 = .ok (.aload_n 0, 1) := by decide +kernel
theorem dX8_goes_206 : decode cX8_goes 206 = .ok (.getfield 42, 3) := by decide +kernel
theorem dX8_goes_209 : decode cX8_goes 209 = .ok (.iconst 2, 1) := by decide +kernel
theorem dX8_goes_210 : decode cX8_goes 210 = .ok (.dup2, 1) := by decide +kernel
theorem dX8_goes_211 : decode cX8_goes 211 = .ok (.laload, 1) := by decide +kernel
theorem dX8_goes_212 : decode cX8_goes 212 = .ok (.aload_n 0, 1) := by decide +kernel
theorem dX8_goes_213 : decode cX8_goes 213 = .ok (.getfield 148, 3) := by decide +kernel
theorem dX8_goes_216 : decode cX8_goes 216 = .ok (.aload_n 0, 1) := by decide +kernel
theorem dX8_goes_217 : decode cX8_goes 217 = .ok (.getfield 29, 3) := by decide +kernel
theorem dX8_goes_220 : decode cX8_goes 220 = .ok (.isub, 1) := by decide +kernel
theorem dX8_goes_221 : decode cX8_goes 221 = .ok (.i2l, 1) := by decide +kernel
theorem dX8_goes_222 : decode cX8_goes 222 = .ok (.ladd, 1) := by decide +kernel
theorem dX8_goes_223 : decode cX8_goes 223 = .ok (.lastore, 1) := by decide +kernel
theorem dX8_goes_224 : decode cX8_goes 224 = .ok (.aload_n 0, 1) := by decide +kernel
theorem dX8_goes_225 : decode cX8_goes 225 = .ok (.aload_n 0, 1) := by decide +kernel
theorem dX8_goes_226 : decode cX8_goes 226 = .ok (.getfield 29, 3) := by decide +kernel
theorem dX8_goes_229 : decode cX8_goes 229 = .ok (.putfield 148, 3) := by decide +kernel
theorem dX8_goes_232 : decode cX8_goes 232 = .ok (.iload 7, 2) := by decide +kernel
theorem dX8_goes_234 : decode cX8_goes 234 = .ok (.ifCond .eq 77, 3) := by decide +kernel
theorem dX8_goes_237 : decode cX8_goes 237 = .ok (.aload_n 0, 1) := by decide +kernel
theorem dX8_goes_238 : decode cX8_goes 238 = .ok (.getfield 13, 3) := by decide +kernel
theorem dX8_goes_241 : decode cX8_goes 241 = .ok (.bipush 6, 2) := by decide +kernel
theorem dX8_goes_243 : decode cX8_goes 243 = .ok (.iaload, 1) := by decide +kernel
theorem dX8_goes_244 : decode cX8_goes 244 = .ok (.iconst 1, 1) := by decide +kernel
theorem dX8_goes_245 : decode cX8_goes 245 = .ok (.isub, 1) := by decide +kernel
theorem dX8_goes_246 : decode cX8_goes 246 = .ok (.aload_n 0, 1) := by decide +kernel
theorem dX8_goes_247 : decode cX8_goes 247 = .ok (.getfield 13, 3) := by decide +kernel
theorem dX8_goes_250 : decode cX8_goes 250 = .ok (.bipush 9, 2) := by decide +kernel
theorem dX8_goes_252 : decode cX8_goes 252 = .ok (.iaload, 1) := by decide +kernel
theorem dX8_goes_253 : decode cX8_goes 253 = .ok (.isub, 1) := by decide +kernel
theorem dX8_goes_254 : decode cX8_goes 254 = .ok (.istore 8, 2) := by decide +kernel
theorem dX8_goes_256 : decode cX8_goes 256 = .ok (.iload 8, 2) := by decide +kernel
theorem dX8_goes_258 : decode cX8_goes 258 = .ok (.ifCond .ge 7, 3) := by decide +kernel
theorem dX8_goes_261 : decode cX8_goes 261 = .ok (.iconst 0, 1) := by decide +kernel
theorem dX8_goes_262 : decode cX8_goes 262 = .ok (.goto 5, 3) := by decide +kernel
theorem dX8_goes_265 : decode cX8_goes 265 = .ok (.iload 8, 2) := by decide +kernel
theorem dX8_goes_267 : decode cX8_goes 267 = .ok (.istore 8, 2) := by decide +kernel
theorem dX8_goes_269 : decode cX8_goes 269 = .ok (.iload 8, 2) := by decide +kernel
theorem dX8_goes_271 : decode cX8_goes 271 = .ok (.aload_n 0, 1) := by decide +kernel
theorem dX8_goes_272 : decode cX8_goes 272 = .ok (.getfield 13, 3) := by decide +kernel
theorem dX8_goes_275 : decode cX8_goes 275 = .ok (.bipush 11, 2) := by decide +kernel
theorem dX8_goes_277 : decode cX8_goes 277 = .ok (.iaload, 1) := by decide +kernel
theorem dX8_goes_278 : decode cX8_goes 278 = .ok (.iconst 1, 1) := by decide +kernel
theorem dX8_goes_279 : decode cX8_goes 279 = .ok (.if_icmp .ne 14, 3) := by decide +kernel
theorem dX8_goes_282 : decode cX8_goes 282 = .ok (.iload 8, 2) := by decide +kernel
theorem dX8_goes_284 : decode cX8_goes 284 = .ok (.bipush 100, 2) := by decide +kernel
theorem dX8_goes_286 : decode cX8_goes 286 = .ok (.if_icmp .ge 7, 3) := by decide +kernel
theorem dX8_goes_289 : decode cX8_goes 289 = .ok (.iconst 1, 1) := by decide +kernel
theorem dX8_goes_290 : decode cX8_goes 290 = .ok (.goto 4, 3) := by decide +kernel
theorem dX8_goes_293 : decode cX8_goes 293 = .ok (.iconst 0, 1) := by decide +kernel
theorem dX8_goes_294 : decode cX8_goes 294 = .ok (.iadd, 1) := by decide +kernel
theorem dX8_goes_295 : decode cX8_goes 295 = .ok (.istore 8, 2) := by decide +kernel
theorem dX8_goes_297 : decode cX8_goes 297 = .ok (.aload_n 0, 1) := by decide +kernel
theorem dX8_goes_298 : decode cX8_goes 298 = .ok (.getfield 7, 3) := by decide +kernel
theorem dX8_goes_301 : decode cX8_goes 301 = .ok (.bipush 13, 2) := by decide +kernel
theorem dX8_goes_303 : decode cX8_goes 303 = .ok (.iload_n 3, 1) := by decide +kernel
theorem dX8_goes_304 : decode cX8_goes 304 = .ok (.imul, 1) := by decide +kernel
theorem dX8_goes_305 : decode cX8_goes 305 = .ok (.bipush 6, 2) := by decide +kernel
theorem dX8_goes_307 : decode cX8_goes 307 = .ok (.iadd, 1) := by decide +kernel
theorem dX8_goes_308 : decode cX8_goes 308 = .ok (.iload 8, 2) := by decide +kernel
theorem dX8_goes_310 : decode cX8_goes 310 = .ok (.iastore, 1) := by decide +kernel
theorem dX8_goes_311 : decode cX8_goes 311 = .ok (.iinc 3 1, 3) := by decide +kernel
theorem dX8_goes_314 : decode cX8_goes 314 = .ok (.goto (-274), 3) := by decide +kernel
theorem dX8_goes_317 : decode cX8_goes 317 = .ok (.iconst 0, 1) := by decide +kernel
theorem dX8_goes_318 : decode cX8_goes 318 = .ok (.istore_n 3, 1) := by decide +kernel
theorem dX8_goes_319 : decode cX8_goes 319 = .ok (.iconst 0, 1) := by decide +kernel
theorem dX8_goes_320 : decode cX8_goes 320 = .ok (.istore 4, 2) := by decide +kernel
theorem dX8_goes_322 : decode cX8_goes 322 = .ok (.iload 4, 2) := by decide +kernel
theorem dX8_goes_324 : decode cX8_goes 324 = .ok (.iconst 5, 1) := by decide +kernel
theorem dX8_goes_325 : decode cX8_goes 325 = .ok (.if_icmp .ge 106, 3) := by decide +kernel
theorem dX8_goes_328 : decode cX8_goes 328 = .ok (.aload_n 0, 1) := by decide +kernel
theorem dX8_goes_329 : decode cX8_goes 329 = .ok (.iload 4, 2) := by decide +kernel
theorem dX8_goes_331 : decode cX8_goes 331 = .ok (.aload_n 0, 1) := by decide +kernel
theorem dX8_goes_332 : decode cX8_goes 332 = .ok (.getfield 187, 3) := by decide +kernel
theorem dX8_goes_335 : decode cX8_goes 335 = .ok (.invokevirtual 180, 3) := by decide +kernel
theorem dX8_goes_338 : decode cX8_goes 338 = .ok (.istore 5, 2) := by decide +kernel
theorem dX8_goes_340 : decode cX8_goes 340 = .ok (.iload 5, 2) := by decide +kernel
theorem dX8_goes_342 : decode cX8_goes 342 = .ok (.aload_n 0, 1) := by decide +kernel
theorem dX8_goes_343 : decode cX8_goes 343 = .ok (.getfield 148, 3) := by decide +kernel
theorem dX8_goes_346 : decode cX8_goes 346 = .ok (.if_icmp .ge 8, 3) := by decide +kernel
theorem dX8_goes_349 : decode cX8_goes 349 = .ok (.iload 5, 2) := by decide +kernel
theorem dX8_goes_351 : decode cX8_goes 351 = .ok (.goto 7, 3) := by decide +kernel
theorem dX8_goes_354 : decode cX8_goes 354 = .ok (.aload_n 0, 1) := by decide +kernel
theorem dX8_goes_355 : decode cX8_goes 355 = .ok (.getfield 148, 3) := by decide +kernel
theorem dX8_goes_358 : decode cX8_goes 358 = .ok (.istore 6, 2) := by decide +kernel
theorem dX8_goes_360 : decode cX8_goes 360 = .ok (.aload_n 0, 1) := by decide +kernel
theorem dX8_goes_361 : decode cX8_goes 361 = .ok (.dup, 1) := by decide +kernel
theorem dX8_goes_362 : decode cX8_goes 362 = .ok (.getfield 148, 3) := by decide +kernel
theorem dX8_goes_365 : decode cX8_goes 365 = .ok (.iload 6, 2) := by decide +kernel
theorem dX8_goes_367 : decode cX8_goes 367 = .ok (.isub, 1) := by decide +kernel
theorem dX8_goes_368 : decode cX8_goes 368 = .ok (.putfield 148, 3) := by decide +kernel
theorem dX8_goes_371 : decode cX8_goes 371 = .ok (.aload_n 0, 1) := by decide +kernel
theorem dX8_goes_372 : decode cX8_goes 372 = .ok (.getfield 42, 3) := by decide +kernel
theorem dX8_goes_375 : decode cX8_goes 375 = .ok (.iconst 3, 1) := by decide +kernel
theorem dX8_goes_376 : decode cX8_goes 376 = .ok (.dup2, 1) := by decide +kernel
theorem dX8_goes_377 : decode cX8_goes 377 = .ok (.laload, 1) := by decide +kernel
theorem dX8_goes_378 : decode cX8_goes 378 = .ok (.iload 6, 2) := by decide +kernel
theorem dX8_goes_380 : decode cX8_goes 380 = .ok (.i2l, 1) := by decide +kernel
theorem dX8_goes_381 : decode cX8_goes 381 = .ok (.ladd, 1) := by decide +kernel
theorem dX8_goes_382 : decode cX8_goes 382 = .ok (.lastore, 1) := by decide +kernel
theorem dX8_goes_383 : decode cX8_goes 383 = .ok (.aload_n 0, 1) := by decide +kernel
theorem dX8_goes_384 : decode cX8_goes 384 = .ok (.getfield 42, 3) := by decide +kernel
theorem dX8_goes_387 : decode cX8_goes 387 = .ok (.iconst 4, 1) := by decide +kernel
theorem dX8_goes_388 : decode cX8_goes 388 = .ok (.dup2, 1) := by decide +kernel
theorem dX8_goes_389 : decode cX8_goes 389 = .ok (.laload, 1) := by decide +kernel
theorem dX8_goes_390 : decode cX8_goes 390 = .ok (.iload 5, 2) := by decide +kernel
theorem dX8_goes_392 : decode cX8_goes 392 = .ok (.iload 6, 2) := by decide +kernel
theorem dX8_goes_394 : decode cX8_goes 394 = .ok (.isub, 1) := by decide +kernel
theorem dX8_goes_395 : decode cX8_goes 395 = .ok (.i2l, 1) := by decide +kernel
theorem dX8_goes_396 : decode cX8_goes 396 = .ok (.ladd, 1) := by decide +kernel
theorem dX8_goes_397 : decode cX8_goes 397 = .ok (.lastore, 1) := by decide +kernel
theorem dX8_goes_398 : decode cX8_goes 398 = .ok (.aload_n 0, 1) := by decide +kernel
theorem dX8_goes_399 : decode cX8_goes 399 = .ok (.getfield 42, 3) := by decide +kernel
theorem dX8_goes_402 : decode cX8_goes 402 = .ok (.bipush 6, 2) := by decide +kernel
theorem dX8_goes_404 : decode cX8_goes 404 = .ok (.iload 4, 2) := by decide +kernel
theorem dX8_goes_406 : decode cX8_goes 406 = .ok (.iadd, 1) := by decide +kernel
theorem dX8_goes_407 : decode cX8_goes 407 = .ok (.dup2, 1) := by decide +kernel
theorem dX8_goes_408 : decode cX8_goes 408 = .ok (.laload, 1) := by decide +kernel
theorem dX8_goes_409 : decode cX8_goes 409 = .ok (.iload 5, 2) := by decide +kernel
theorem dX8_goes_411 : decode cX8_goes 411 = .ok (.iload 6, 2) := by decide +kernel
theorem dX8_goes_413 : decode cX8_goes 413 = .ok (.isub, 1) := by decide +kernel
theorem dX8_goes_414 : decode cX8_goes 414 = .ok (.i2l, 1) := by decide +kernel
theorem dX8_goes_415 : decode cX8_goes 415 = .ok (.ladd, 1) := by decide +kernel
theorem dX8_goes_416 : decode cX8_goes 416 = .ok (.lastore, 1) := by decide +kernel
theorem dX8_goes_417 : decode cX8_goes 417 = .ok (.iload_n 3, 1) := by decide +kernel
theorem dX8_goes_418 : decode cX8_goes 418 = .ok (.iload 5, 2) := by decide +kernel
theorem dX8_goes_420 : decode cX8_goes 420 = .ok (.iload 6, 2) := by decide +kernel
theorem dX8_goes_422 : decode cX8_goes 422 = .ok (.isub, 1) := by decide +kernel
theorem dX8_goes_423 : decode cX8_goes 423 = .ok (.iadd, 1) := by decide +kernel
theorem dX8_goes_424 : decode cX8_goes 424 = .ok (.istore_n 3, 1) := by decide +kernel
theorem dX8_goes_425 : decode cX8_goes 425 = .ok (.iinc 4 1, 3) := by decide +kernel
theorem dX8_goes_428 : decode cX8_goes 428 = .ok (.goto (-106), 3) := by decide +kernel
theorem dX8_goes_431 : decode cX8_goes 431 = .ok (.aload_n 0, 1) := by decide +kernel
theorem dX8_goes_432 : decode cX8_goes 432 = .ok (.dup, 1) := by decide +kernel
theorem dX8_goes_433 : decode cX8_goes 433 = .ok (.getfield 187, 3) := by decide +kernel
theorem dX8_goes_436 : decode cX8_goes 436 = .ok (.iconst 1, 1) := by decide +kernel
theorem dX8_goes_437 : decode cX8_goes 437 = .ok (.iadd, 1) := by decide +kernel
theorem dX8_goes_438 : decode cX8_goes 438 = .ok (.putfield 187, 3) := by decide +kernel
theorem dX8_goes_441 : decode cX8_goes 441 = .ok (.aload_n 0, 1) := by decide +kernel
theorem dX8_goes_442 : decode cX8_goes 442 = .ok (.getfield 187, 3) := by decide +kernel
theorem dX8_goes_445 : decode cX8_goes 445 = .ok (.bipush 24, 2) := by decide +kernel
theorem dX8_goes_447 : decode cX8_goes 447 = .ok (.if_icmp .ne 18, 3) := by decide +kernel
theorem dX8_goes_450 : decode cX8_goes 450 = .ok (.aload_n 0, 1) := by decide +kernel
theorem dX8_goes_451 : decode cX8_goes 451 = .ok (.iconst 0, 1) := by decide +kernel
theorem dX8_goes_452 : decode cX8_goes 452 = .ok (.putfield 187, 3) := by decide +kernel
theorem dX8_goes_455 : decode cX8_goes 455 = .ok (.aload_n 0, 1) := by decide +kernel
theorem dX8_goes_456 : decode cX8_goes 456 = .ok (.dup, 1) := by decide +kernel
theorem dX8_goes_457 : decode cX8_goes 457 = .ok (.getfield 190, 3) := by decide +kernel
theorem dX8_goes_460 : decode cX8_goes 460 = .ok (.iconst 1, 1) := by decide +kernel
theorem dX8_goes_461 : decode cX8_goes 461 = .ok (.iadd, 1) := by decide +kernel
theorem dX8_goes_462 : decode cX8_goes 462 = .ok (.putfield 190, 3) := by decide +kernel
theorem dX8_goes_465 : decode cX8_goes 465 = .ok (.aload_n 0, 1) := by decide +kernel
theorem dX8_goes_466 : decode cX8_goes 466 = .ok (.getfield 190, 3) := by decide +kernel
theorem dX8_goes_469 : decode cX8_goes 469 = .ok (.bipush 30, 2) := by decide +kernel
theorem dX8_goes_471 : decode cX8_goes 471 = .ok (.if_icmp .ne 21, 3) := by decide +kernel
theorem dX8_goes_474 : decode cX8_goes 474 = .ok (.aload_n 0, 1) := by decide +kernel
theorem dX8_goes_475 : decode cX8_goes 475 = .ok (.iconst 0, 1) := by decide +kernel
theorem dX8_goes_476 : decode cX8_goes 476 = .ok (.putfield 190, 3) := by decide +kernel
theorem dX8_goes_479 : decode cX8_goes 479 = .ok (.aload_n 0, 1) := by decide +kernel
theorem dX8_goes_480 : decode cX8_goes 480 = .ok (.aload_n 0, 1) := by decide +kernel
theorem dX8_goes_481 : decode cX8_goes 481 = .ok (.getfield 184, 3) := by decide +kernel
theorem dX8_goes_484 : decode cX8_goes 484 = .ok (.iconst 1, 1) := by decide +kernel
theorem dX8_goes_485 : decode cX8_goes 485 = .ok (.iadd, 1) := by decide +kernel
theorem dX8_goes_486 : decode cX8_goes 486 = .ok (.bipush 12, 2) := by decide +kernel
theorem dX8_goes_488 : decode cX8_goes 488 = .ok (.irem, 1) := by decide +kernel
theorem dX8_goes_489 : decode cX8_goes 489 = .ok (.putfield 184, 3) := by decide +kernel
theorem dX8_goes_492 : decode cX8_goes 492 = .ok (.iload_n 3, 1) := by decide +kernel
theorem dX8_goes_493 : decode cX8_goes 493 = .ok (.ireturn, 1) := by decide +kernel
set_option maxRecDepth 20000 in
theorem ggX8_hours_X8_in : GoodIn wsX8_hours wsX8_in := goodIn_r _ [5] (by decide +kernel) (by decide +kernel)
set_option maxRecDepth 20000 in
theorem gX8_hours_X8_in : GoodIn wsX8_hours (va_wsS RX8 70 yX8_in wsX8_in) := goodIn_app (goodIn_of _ (by decide +kernel)) ggX8_hours_X8_in
set_option maxRecDepth 20000 in
theorem ggX8_hours_X8_goes : GoodIn wsX8_hours wsX8_goes := goodIn_r _ [9, 10, 11, 12, 13, 14, 15, 16, 17, 18, 19, 20, 21, 22, 23, 24, 25, 26, 4, 27, 28, 29, 30, 31, 32, 33, 34, 35, 36, 37, 38, 39, 40, 41, 42, 43, 44, 45, 46, 47, 48, 49, 50, 51, 52, 53, 54, 55, 56, 57, 58, 59, 60, 61, 62, 63, 64, 65, 66, 67, 68, 69, 70, 71, 72, 73, 74, 75, 76, 77, 78, 79, 80, 81, 82, 83, 84, 85, 86, 87, 88, 89, 90, 91] (by decide +kernel) (by decide +kernel)
set_option maxRecDepth 20000 in
theorem gX8_hours_X8_goes : GoodIn wsX8_hours (wsV RX8 193 RX8 yX8_goes wsX8_goes) := goodIn_app (goodIn_of _ (by decide +kernel)) ggX8_hours_X8_goes
theorem dX8_hours_0 : decode cX8_hours 0 = .ok (.aload_n 0, 1) := by decide +kernel
theorem dX8_hours_1 : decode cX8_hours 1 = .ok (.iconst 0, 1) := by decide +kernel
theorem dX8_hours_2 : decode cX8_hours 2 = .ok (.putfield 64, 3) := by decide +kernel
theorem dX8_hours_5 : decode cX8_hours 5 = .ok (.iload_n 1, 1) := by decide +kernel
theorem dX8_hours_6 : decode cX8_hours 6 = .ok (.iconst 1, 1) := by decide +kernel
theorem dX8_hours_7 : decode cX8_hours 7 = .ok (.sipush 720, 3) := by decide +kernel
theorem dX8_hours_10 : decode cX8_hours 10 = .ok (.invokestatic 70, 3) := by decide +kernel
theorem dX8_hours_13 : decode cX8_hours 13 = .ok (.ifCond .ne 5, 3) := by decide +kernel
theorem dX8_hours_16 : decode cX8_hours 16 = .ok (.iconst (-1), 1) := by decide +kernel
theorem dX8_hours_17 : decode cX8_hours 17 = .ok (.ireturn, 1) := by decide +kernel
theorem dX8_hours_18 : decode cX8_hours 18 = .ok (.iconst 0, 1) := by decide +kernel
theorem dX8_hours_19 : decode cX8_hours 19 = .ok (.istore_n 2, 1) := by decide +kernel
theorem dX8_hours_20 : decode cX8_hours 20 = .ok (.iconst 0, 1) := by decide +kernel
theorem dX8_hours_21 : decode cX8_hours 21 = .ok (.istore_n 3, 1) := by decide +kernel
theorem dX8_hours_22 : decode cX8_hours 22 = .ok (.iload_n 3, 1) := by decide +kernel
theorem dX8_hours_23 : decode cX8_hours 23 = .ok (.iload_n 1, 1) := by decide +kernel
theorem dX8_hours_24 : decode cX8_hours 24 = .ok (.if_icmp .ge 16, 3) := by decide +kernel
theorem dX8_hours_27 : decode cX8_hours 27 = .ok (.iload_n 2, 1) := by decide +kernel
theorem dX8_hours_28 : decode cX8_hours 28 = .ok (.aload_n 0, 1) := by decide +kernel
theorem dX8_hours_29 : decode cX8_hours 29 = .ok (.invokevirtual 193, 3) := by decide +kernel
theorem dX8_hours_32 : decode cX8_hours 32 = .ok (.iadd, 1) := by decide +kernel
theorem dX8_hours_33 : decode cX8_hours 33 = .ok (.istore_n 2, 1) := by decide +kernel
theorem dX8_hours_34 : decode cX8_hours 34 = .ok (.iinc 3 1, 3) := by decide +kernel
theorem dX8_hours_37 : decode cX8_hours 37 = .ok (.goto (-15), 3) := by decide +kernel
theorem dX8_hours_40 : decode cX8_hours 40 = .ok (.iload_n 2, 1) := by decide +kernel
theorem dX8_hours_41 : decode cX8_hours 41 = .ok (.ireturn, 1) := by decide +kernel
set_option maxRecDepth 20000 in
theorem ggX8_book_X8_in : GoodIn wsX8_book wsX8_in := goodIn_r _ [8] (by decide +kernel) (by decide +kernel)
set_option maxRecDepth 20000 in
theorem gX8_book_X8_in : GoodIn wsX8_book (va_wsS RX8 70 yX8_in wsX8_in) := goodIn_app (goodIn_of _ (by decide +kernel)) ggX8_book_X8_in
theorem dX8_book_0 : decode cX8_book 0 = .ok (.aload_n 0, 1) := by decide +kernel
theorem dX8_book_1 : decode cX8_book 1 = .ok (.iconst 0, 1) := by decide +kernel
theorem dX8_book_2 : decode cX8_book 2 = .ok (.putfield 64, 3) := by decide +kernel
theorem dX8_book_5 : decode cX8_book 5 = .ok (.iload_n 1, 1) := by decide +kernel
theorem dX8_book_6 : decode cX8_book 6 = .ok (.iconst 0, 1) := by decide +kernel
theorem dX8_book_7 : decode cX8_book 7 = .ok (.bipush 10, 2) := by decide +kernel
theorem dX8_book_9 : decode cX8_book 9 = .ok (.invokestatic 70, 3) := by decide +kernel
theorem dX8_book_12 : decode cX8_book 12 = .ok (.ifCond .ne 9, 3) := by decide +kernel
theorem dX8_book_15 : decode cX8_book 15 = .ok (.ldc2_w 136, 3) := by decide +kernel
theorem dX8_book_18 : decode cX8_book 18 = .ok (.goto 22, 3) := by decide +kernel
theorem dX8_book_21 : decode cX8_book 21 = .ok (.iload_n 1, 1) := by decide +kernel
theorem dX8_book_22 : decode cX8_book 22 = .ok (.iconst 5, 1) := by decide +kernel
theorem dX8_book_23 : decode cX8_book 23 = .ok (.if_icmp .ne 11, 3) := by decide +kernel
theorem dX8_book_26 : decode cX8_book 26 = .ok (.aload_n 0, 1) := by decide +kernel
theorem dX8_book_27 : decode cX8_book 27 = .ok (.getfield 148, 3) := by decide +kernel
theorem dX8_book_30 : decode cX8_book 30 = .ok (.i2l, 1) := by decide +kernel
theorem dX8_book_31 : decode cX8_book 31 = .ok (.goto 9, 3) := by decide +kernel
theorem dX8_book_34 : decode cX8_book 34 = .ok (.aload_n 0, 1) := by decide +kernel
theorem dX8_book_35 : decode cX8_book 35 = .ok (.getfield 42, 3) := by decide +kernel
theorem dX8_book_38 : decode cX8_book 38 = .ok (.iload_n 1, 1) := by decide +kernel
theorem dX8_book_39 : decode cX8_book 39 = .ok (.laload, 1) := by decide +kernel
theorem dX8_book_40 : decode cX8_book 40 = .ok (.lreturn, 1) := by decide +kernel
set_option maxRecDepth 20000 in
theorem ggX8_isRead_X8_in : GoodIn wsX8_isRead wsX8_in := goodIn_r _ [5] (by decide +kernel) (by decide +kernel)
set_option maxRecDepth 20000 in
theorem gX8_isRead_X8_in : GoodIn wsX8_isRead (va_wsS RX8 70 yX8_in wsX8_in) := goodIn_app (goodIn_of _ (by decide +kernel)) ggX8_isRead_X8_in
theorem dX8_isRead_0 : decode cX8_isRead 0 = .ok (.iload_n 0, 1) := by decide +kernel
theorem dX8_isRead_1 : decode cX8_isRead 1 = .ok (.bipush (-9), 2) := by decide +kernel
theorem dX8_isRead_3 : decode cX8_isRead 3 = .ok (.if_icmp .eq 13, 3) := by decide +kernel
theorem dX8_isRead_6 : decode cX8_isRead 6 = .ok (.iload_n 0, 1) := by decide +kernel
theorem dX8_isRead_7 : decode cX8_isRead 7 = .ok (.iconst 0, 1) := by decide +kernel
theorem dX8_isRead_8 : decode cX8_isRead 8 = .ok (.ldc 130, 2) := by decide +kernel
theorem dX8_isRead_10 : decode cX8_isRead 10 = .ok (.invokestatic 70, 3) := by decide +kernel
theorem dX8_isRead_13 : decode cX8_isRead 13 = .ok (.ifCond .eq 7, 3) := by decide +kernel
theorem dX8_isRead_16 : decode cX8_isRead 16 = .ok (.iconst 1, 1) := by decide +kernel
theorem dX8_isRead_17 : decode cX8_isRead 17 = .ok (.goto 4, 3) := by decide +kernel
theorem dX8_isRead_20 : decode cX8_isRead 20 = .ok (.iconst 0, 1) := by decide +kernel
theorem dX8_isRead_21 : decode cX8_isRead 21 = .ok (.ireturn, 1) := by decide +kernel
set_option maxRecDepth 20000 in
theorem ggX8_read_X8_isRam : GoodIn wsX8_read wsX8_isRam := goodIn_r _ [10, 11, 12, 13, 9, 14, 19, 20, 21, 22, 23, 24, 25, 26, 27, 28, 29, 30, 31, 32, 33, 34, 35, 36, 37, 38, 39, 40, 41, 42, 43, 44, 45, 46, 47, 48, 49, 50, 51, 52, 53, 54, 55, 56] (by decide +kernel) (by decide +kernel)
set_option maxRecDepth 20000 in
theorem gX8_read_X8_isRam : GoodIn wsX8_read (wsV RX8 74 RX8 yX8_isRam wsX8_isRam) := goodIn_app (goodIn_of _ (by decide +kernel)) ggX8_read_X8_isRam
set_option maxRecDepth 20000 in
theorem ggX8_read_X8_isRead : GoodIn wsX8_read wsX8_isRead := goodIn_r _ [17, 18, 12, 13, 9, 14] (by decide +kernel) (by decide +kernel)
set_option maxRecDepth 20000 in
theorem gX8_read_X8_isRead : GoodIn wsX8_read (va_wsS RX8 196 yX8_isRead wsX8_isRead) := goodIn_app (goodIn_of _ (by decide +kernel)) ggX8_read_X8_isRead
theorem dX8_read_0 : decode cX8_read 0 = .ok (.aload_n 0, 1) := by decide +kernel
theorem dX8_read_1 : decode cX8_read 1 = .ok (.iconst 0, 1) := by decide +kernel
theorem dX8_read_2 : decode cX8_read 2 = .ok (.putfield 64, 3) := by decide +kernel
theorem dX8_read_5 : decode cX8_read 5 = .ok (.aload_n 0, 1) := by decide +kernel
theorem dX8_read_6 : decode cX8_read 6 = .ok (.iload_n 1, 1) := by decide +kernel
theorem dX8_read_7 : decode cX8_read 7 = .ok (.invokevirtual 74, 3) := by decide +kernel
theorem dX8_read_10 : decode cX8_read 10 = .ok (.ifCond .eq 29, 3) := by decide +kernel
theorem dX8_read_13 : decode cX8_read 13 = .ok (.iload_n 2, 1) := by decide +kernel
theorem dX8_read_14 : decode cX8_read 14 = .ok (.invokestatic 196, 3) := by decide +kernel
theorem dX8_read_17 : decode cX8_read 17 = .ok (.ifCond .eq 22, 3) := by decide +kernel
theorem dX8_read_20 : decode cX8_read 20 = .ok (.iload_n 3, 1) := by decide +kernel
theorem dX8_read_21 : decode cX8_read 21 = .ok (.invokestatic 196, 3) := by decide +kernel
theorem dX8_read_24 : decode cX8_read 24 = .ok (.ifCond .eq 15, 3) := by decide +kernel
theorem dX8_read_27 : decode cX8_read 27 = .ok (.iload_n 2, 1) := by decide +kernel
theorem dX8_read_28 : decode cX8_read 28 = .ok (.bipush (-9), 2) := by decide +kernel
theorem dX8_read_30 : decode cX8_read 30 = .ok (.if_icmp .ne 11, 3) := by decide +kernel
theorem dX8_read_33 : decode cX8_read 33 = .ok (.iload_n 3, 1) := by decide +kernel
theorem dX8_read_34 : decode cX8_read 34 = .ok (.bipush (-9), 2) := by decide +kernel
theorem dX8_read_36 : decode cX8_read 36 = .ok (.if_icmp .ne 5, 3) := by decide +kernel
theorem dX8_read_39 : decode cX8_read 39 = .ok (.iconst (-1), 1) := by decide +kernel
theorem dX8_read_40 : decode cX8_read 40 = .ok (.ireturn, 1) := by decide +kernel
theorem dX8_read_41 : decode cX8_read 41 = .ok (.aload_n 0, 1) := by decide +kernel
theorem dX8_read_42 : decode cX8_read 42 = .ok (.getfield 199, 3) := by decide +kernel
theorem dX8_read_45 : decode cX8_read 45 = .ok (.bipush 12, 2) := by decide +kernel
theorem dX8_read_47 : decode cX8_read 47 = .ok (.if_icmp .ne 6, 3) := by decide +kernel
theorem dX8_read_50 : decode cX8_read 50 = .ok (.bipush (-3), 2) := by decide +kernel
theorem dX8_read_52 : decode cX8_read 52 = .ok (.ireturn, 1) := by decide +kernel
theorem dX8_read_53 : decode cX8_read 53 = .ok (.aload_n 0, 1) := by decide +kernel
theorem dX8_read_54 : decode cX8_read 54 = .ok (.getfield 46, 3) := by decide +kernel
theorem dX8_read_57 : decode cX8_read 57 = .ok (.aload_n 0, 1) := by decide +kernel
theorem dX8_read_58 : decode cX8_read 58 = .ok (.getfield 199, 3) := by decide +kernel
theorem dX8_read_61 : decode cX8_read 61 = .ok (.iload_n 1, 1) := by decide +kernel
theorem dX8_read_62 : decode cX8_read 62 = .ok (.iastore, 1) := by decide +kernel
theorem dX8_read_63 : decode cX8_read 63 = .ok (.aload_n 0, 1) := by decide +kernel
theorem dX8_read_64 : decode cX8_read 64 = .ok (.getfield 49, 3) := by decide +kernel
theorem dX8_read_67 : decode cX8_read 67 = .ok (.aload_n 0, 1) := by decide +kernel
theorem dX8_read_68 : decode cX8_read 68 = .ok (.getfield 199, 3) := by decide +kernel
theorem dX8_read_71 : decode cX8_read 71 = .ok (.iload_n 2, 1) := by decide +kernel
theorem dX8_read_72 : decode cX8_read 72 = .ok (.iastore, 1) := by decide +kernel
theorem dX8_read_73 : decode cX8_read 73 = .ok (.aload_n 0, 1) := by decide +kernel
theorem dX8_read_74 : decode cX8_read 74 = .ok (.getfield 52, 3) := by decide +kernel
theorem dX8_read_77 : decode cX8_read 77 = .ok (.aload_n 0, 1) := by decide +kernel
theorem dX8_read_78 : decode cX8_read 78 = .ok (.getfield 199, 3) := by decide +kernel
theorem dX8_read_81 : decode cX8_read 81 = .ok (.iload_n 3, 1) := by decide +kernel
theorem dX8_read_82 : decode cX8_read 82 = .ok (.iastore, 1) := by decide +kernel
theorem dX8_read_83 : decode cX8_read 83 = .ok (.aload_n 0, 1) := by decide +kernel
theorem dX8_read_84 : decode cX8_read 84 = .ok (.dup, 1) := by decide +kernel
theorem dX8_read_85 : decode cX8_read 85 = .ok (.getfield 199, 3) := by decide +kernel
theorem dX8_read_88 : decode cX8_read 88 = .ok (.iconst 1, 1) := by decide +kernel
theorem dX8_read_89 : decode cX8_read 89 = .ok (.iadd, 1) := by decide +kernel
theorem dX8_read_90 : decode cX8_read 90 = .ok (.putfield 199, 3) := by decide +kernel
theorem dX8_read_93 : decode cX8_read 93 = .ok (.aload_n 0, 1) := by decide +kernel
theorem dX8_read_94 : decode cX8_read 94 = .ok (.getfield 199, 3) := by decide +kernel
theorem dX8_read_97 : decode cX8_read 97 = .ok (.ireturn, 1) := by decide +kernel
theorem dX8_wipe_0 : decode cX8_wipe 0 = .ok (.aload_n 0, 1) := by decide +kernel
theorem dX8_wipe_1 : decode cX8_wipe 1 = .ok (.iconst 0, 1) := by decide +kernel
theorem dX8_wipe_2 : decode cX8_wipe 2 = .ok (.putfield 64, 3) := by decide +kernel
theorem dX8_wipe_5 : decode cX8_wipe 5 = .ok (.aload_n 0, 1) := by decide +kernel
theorem dX8_wipe_6 : decode cX8_wipe 6 = .ok (.getfield 199, 3) := by decide +kernel
theorem dX8_wipe_9 : decode cX8_wipe 9 = .ok (.istore_n 1, 1) := by decide +kernel
theorem dX8_wipe_10 : decode cX8_wipe 10 = .ok (.aload_n 0, 1) := by decide +kernel
theorem dX8_wipe_11 : decode cX8_wipe 11 = .ok (.iconst 0, 1) := by decide +kernel
theorem dX8_wipe_12 : decode cX8_wipe 12 = .ok (.putfield 199, 3) := by decide +kernel
theorem dX8_wipe_15 : decode cX8_wipe 15 = .ok (.iload_n 1, 1) := by decide +kernel
theorem dX8_wipe_16 : decode cX8_wipe 16 = .ok (.ireturn, 1) := by decide +kernel
set_option maxRecDepth 20000 in
theorem ggX8_tolerance_X8_in : GoodIn wsX8_tolerance wsX8_in := goodIn_r _ [7] (by decide +kernel) (by decide +kernel)
set_option maxRecDepth 20000 in
theorem gX8_tolerance_X8_in : GoodIn wsX8_tolerance (va_wsS RX8 70 yX8_in wsX8_in) := goodIn_app (goodIn_of _ (by decide +kernel)) ggX8_tolerance_X8_in
theorem dX8_tolerance_0 : decode cX8_tolerance 0 = .ok (.aload_n 0, 1) := by decide +kernel
theorem dX8_tolerance_1 : decode cX8_tolerance 1 = .ok (.iconst 0, 1) := by decide +kernel
theorem dX8_tolerance_2 : decode cX8_tolerance 2 = .ok (.putfield 64, 3) := by decide +kernel
theorem dX8_tolerance_5 : decode cX8_tolerance 5 = .ok (.iload_n 1, 1) := by decide +kernel
theorem dX8_tolerance_6 : decode cX8_tolerance 6 = .ok (.iconst 0, 1) := by decide +kernel
theorem dX8_tolerance_7 : decode cX8_tolerance 7 = .ok (.iconst 1, 1) := by decide +kernel
theorem dX8_tolerance_8 : decode cX8_tolerance 8 = .ok (.invokestatic 70, 3) := by decide +kernel
theorem dX8_tolerance_11 : decode cX8_tolerance 11 = .ok (.ifCond .eq 23, 3) := by decide +kernel
theorem dX8_tolerance_14 : decode cX8_tolerance 14 = .ok (.iload_n 2, 1) := by decide +kernel
theorem dX8_tolerance_15 : decode cX8_tolerance 15 = .ok (.iconst 0, 1) := by decide +kernel
theorem dX8_tolerance_16 : decode cX8_tolerance 16 = .ok (.iload_n 1, 1) := by decide +kernel
theorem dX8_tolerance_17 : decode cX8_tolerance 17 = .ok (.ifCond .ne 9, 3) := by decide +kernel
theorem dX8_tolerance_20 : decode cX8_tolerance 20 = .ok (.sipush 500, 3) := by decide +kernel
theorem dX8_tolerance_23 : decode cX8_tolerance 23 = .ok (.goto 5, 3) := by decide +kernel
theorem dX8_tolerance_26 : decode cX8_tolerance 26 = .ok (.bipush 50, 2) := by decide +kernel
theorem dX8_tolerance_28 : decode cX8_tolerance 28 = .ok (.invokestatic 70, 3) := by decide +kernel
theorem dX8_tolerance_31 : decode cX8_tolerance 31 = .ok (.ifCond .ne 5, 3) := by decide +kernel
theorem dX8_tolerance_34 : decode cX8_tolerance 34 = .ok (.iconst (-1), 1) := by decide +kernel
theorem dX8_tolerance_35 : decode cX8_tolerance 35 = .ok (.ireturn, 1) := by decide +kernel
theorem dX8_tolerance_36 : decode cX8_tolerance 36 = .ok (.iload_n 1, 1) := by decide +kernel
theorem dX8_tolerance_37 : decode cX8_tolerance 37 = .ok (.ifCond .ne 10, 3) := by decide +kernel
theorem dX8_tolerance_40 : decode cX8_tolerance 40 = .ok (.aload_n 0, 1) := by decide +kernel
theorem dX8_tolerance_41 : decode cX8_tolerance 41 = .ok (.getfield 55, 3) := by decide +kernel
theorem dX8_tolerance_44 : decode cX8_tolerance 44 = .ok (.goto 7, 3) := by decide +kernel
theorem dX8_tolerance_47 : decode cX8_tolerance 47 = .ok (.aload_n 0, 1) := by decide +kernel
theorem dX8_tolerance_48 : decode cX8_tolerance 48 = .ok (.getfield 58, 3) := by decide +kernel
theorem dX8_tolerance_51 : decode cX8_tolerance 51 = .ok (.istore_n 3, 1) := by decide +kernel
theorem dX8_tolerance_52 : decode cX8_tolerance 52 = .ok (.aload_n 0, 1) := by decide +kernel
theorem dX8_tolerance_53 : decode cX8_tolerance 53 = .ok (.iload_n 1, 1) := by decide +kernel
theorem dX8_tolerance_54 : decode cX8_tolerance 54 = .ok (.ifCond .ne 7, 3) := by decide +kernel
theorem dX8_tolerance_57 : decode cX8_tolerance 57 = .ok (.iload_n 2, 1) := by decide +kernel
theorem dX8_tolerance_58 : decode cX8_tolerance 58 = .ok (.goto 7, 3) := by decide +kernel
theorem dX8_tolerance_61 : decode cX8_tolerance 61 = .ok (.aload_n 0, 1) := by decide +kernel
theorem dX8_tolerance_62 : decode cX8_tolerance 62 = .ok (.getfield 55, 3) := by decide +kernel
theorem dX8_tolerance_65 : decode cX8_tolerance 65 = .ok (.putfield 55, 3) := by decide +kernel
theorem dX8_tolerance_68 : decode cX8_tolerance 68 = .ok (.aload_n 0, 1) := by decide +kernel
theorem dX8_tolerance_69 : decode cX8_tolerance 69 = .ok (.iload_n 1, 1) := by decide +kernel
theorem dX8_tolerance_70 : decode cX8_tolerance 70 = .ok (.iconst 1, 1) := by decide +kernel
theorem dX8_tolerance_71 : decode cX8_tolerance 71 = .ok (.if_icmp .ne 7, 3) := by decide +kernel
theorem dX8_tolerance_74 : decode cX8_tolerance 74 = .ok (.iload_n 2, 1) := by decide +kernel
theorem dX8_tolerance_75 : decode cX8_tolerance 75 = .ok (.goto 7, 3) := by decide +kernel
theorem dX8_tolerance_78 : decode cX8_tolerance 78 = .ok (.aload_n 0, 1) := by decide +kernel
theorem dX8_tolerance_79 : decode cX8_tolerance 79 = .ok (.getfield 58, 3) := by decide +kernel
theorem dX8_tolerance_82 : decode cX8_tolerance 82 = .ok (.putfield 58, 3) := by decide +kernel
theorem dX8_tolerance_85 : decode cX8_tolerance 85 = .ok (.iload_n 3, 1) := by decide +kernel
theorem dX8_tolerance_86 : decode cX8_tolerance 86 = .ok (.ireturn, 1) := by decide +kernel
theorem dX8_valueOf_0 : decode cX8_valueOf 0 = .ok (.iload_n 0, 1) := by decide +kernel
theorem dX8_valueOf_1 : decode cX8_valueOf 1 = .ok (.iconst 2, 1) := by decide +kernel
theorem dX8_valueOf_2 : decode cX8_valueOf 2 = .ok (.iload_n 1, 1) := by decide +kernel
theorem dX8_valueOf_3 : decode cX8_valueOf 3 = .ok (.imul, 1) := by decide +kernel
theorem dX8_valueOf_4 : decode cX8_valueOf 4 = .ok (.ishr, 1) := by decide +kernel
theorem dX8_valueOf_5 : decode cX8_valueOf 5 = .ok (.iconst 3, 1) := by decide +kernel
theorem dX8_valueOf_6 : decode cX8_valueOf 6 = .ok (.iand, 1) := by decide +kernel
theorem dX8_valueOf_7 : decode cX8_valueOf 7 = .ok (.ireturn, 1) := by decide +kernel
set_option maxRecDepth 20000 in
theorem ggX8_isFit_X8_takes : GoodIn wsX8_isFit wsX8_takes := goodIn_r _ [13, 1, 14, 41, 42, 43, 44, 45, 46, 47, 48, 49, 50, 51, 52, 53, 54, 55, 56, 57, 58, 59, 60, 61, 62, 63, 64, 65, 66, 67, 68, 69, 70, 71, 72, 73, 74, 75, 76, 77, 78] (by decide +kernel) (by decide +kernel)
set_option maxRecDepth 20000 in
theorem gX8_isFit_X8_takes : GoodIn wsX8_isFit (wsV RX8 89 RX8 yX8_takes wsX8_takes) := goodIn_app (goodIn_of _ (by decide +kernel)) ggX8_isFit_X8_takes
set_option maxRecDepth 20000 in
theorem ggX8_isFit_X8_valueOf : GoodIn wsX8_isFit wsX8_valueOf := goodIn_r _ [17] (by decide +kernel) (by decide +kernel)
set_option maxRecDepth 20000 in
theorem gX8_isFit_X8_valueOf : GoodIn wsX8_isFit (va_wsS RX8 202 yX8_valueOf wsX8_valueOf) := goodIn_app (goodIn_of _ (by decide +kernel)) ggX8_isFit_X8_valueOf
set_option maxRecDepth 20000 in
theorem ggX8_isFit_X8_hourOf : GoodIn wsX8_isFit wsX8_hourOf := goodIn_r _ [21, 1, 22, 23, 24, 25, 26, 27, 12, 28, 29, 30, 8, 31, 32, 33, 34, 35, 36, 37, 41, 42, 43, 44, 45, 46, 47, 48, 49, 50, 51, 52, 53, 54, 55, 56, 57, 58, 59, 60, 61, 62, 63, 64, 65, 66, 67, 68, 69, 70, 71, 72, 73, 74, 75, 76, 77, 78] (by decide +kernel) (by decide +kernel)
set_option maxRecDepth 20000 in
theorem gX8_isFit_X8_hourOf : GoodIn wsX8_isFit (wsV RX8 124 RX8 yX8_hourOf wsX8_hourOf) := goodIn_app (goodIn_of _ (by decide +kernel)) ggX8_isFit_X8_hourOf
set_option maxRecDepth 20000 in
theorem ggX8_isFit_X8_in : GoodIn wsX8_isFit wsX8_in := goodIn_r _ [40] (by decide +kernel) (by decide +kernel)
set_option maxRecDepth 20000 in
theorem gX8_isFit_X8_in : GoodIn wsX8_isFit (va_wsS RX8 70 yX8_in wsX8_in) := goodIn_app (goodIn_of _ (by decide +kernel)) ggX8_isFit_X8_in
theorem dX8_isFit_0 : decode cX8_isFit 0 = .ok (.aload_n 0, 1) := by decide +kernel
theorem dX8_isFit_1 : decode cX8_isFit 1 = .ok (.iload_n 1, 1) := by decide +kernel
theorem dX8_isFit_2 : decode cX8_isFit 2 = .ok (.invokevirtual 89, 3) := by decide +kernel
theorem dX8_isFit_5 : decode cX8_isFit 5 = .ok (.aload_n 0, 1) := by decide +kernel
theorem dX8_isFit_6 : decode cX8_isFit 6 = .ok (.getfield 13, 3) := by decide +kernel
theorem dX8_isFit_9 : decode cX8_isFit 9 = .ok (.bipush 7, 2) := by decide +kernel
theorem dX8_isFit_11 : decode cX8_isFit 11 = .ok (.iload_n 2, 1) := by decide +kernel
theorem dX8_isFit_12 : decode cX8_isFit 12 = .ok (.iconst 0, 1) := by decide +kernel
theorem dX8_isFit_13 : decode cX8_isFit 13 = .ok (.invokestatic 202, 3) := by decide +kernel
theorem dX8_isFit_16 : decode cX8_isFit 16 = .ok (.iastore, 1) := by decide +kernel
theorem dX8_isFit_17 : decode cX8_isFit 17 = .ok (.aload_n 0, 1) := by decide +kernel
theorem dX8_isFit_18 : decode cX8_isFit 18 = .ok (.getfield 13, 3) := by decide +kernel
theorem dX8_isFit_21 : decode cX8_isFit 21 = .ok (.bipush 8, 2) := by decide +kernel
theorem dX8_isFit_23 : decode cX8_isFit 23 = .ok (.iload_n 2, 1) := by decide +kernel
theorem dX8_isFit_24 : decode cX8_isFit 24 = .ok (.iconst 1, 1) := by decide +kernel
theorem dX8_isFit_25 : decode cX8_isFit 25 = .ok (.invokestatic 202, 3) := by decide +kernel
theorem dX8_isFit_28 : decode cX8_isFit 28 = .ok (.iastore, 1) := by decide +kernel
theorem dX8_isFit_29 : decode cX8_isFit 29 = .ok (.aload_n 0, 1) := by decide +kernel
theorem dX8_isFit_30 : decode cX8_isFit 30 = .ok (.getfield 13, 3) := by decide +kernel
theorem dX8_isFit_33 : decode cX8_isFit 33 = .ok (.bipush 9, 2) := by decide +kernel
theorem dX8_isFit_35 : decode cX8_isFit 35 = .ok (.iload_n 2, 1) := by decide +kernel
theorem dX8_isFit_36 : decode cX8_isFit 36 = .ok (.iconst 2, 1) := by decide +kernel
theorem dX8_isFit_37 : decode cX8_isFit 37 = .ok (.invokestatic 202, 3) := by decide +kernel
theorem dX8_isFit_40 : decode cX8_isFit 40 = .ok (.iastore, 1) := by decide +kernel
theorem dX8_isFit_41 : decode cX8_isFit 41 = .ok (.iload_n 2, 1) := by decide +kernel
theorem dX8_isFit_42 : decode cX8_isFit 42 = .ok (.iconst 3, 1) := by decide +kernel
theorem dX8_isFit_43 : decode cX8_isFit 43 = .ok (.invokestatic 202, 3) := by decide +kernel
theorem dX8_isFit_46 : decode cX8_isFit 46 = .ok (.istore_n 3, 1) := by decide +kernel
theorem dX8_isFit_47 : decode cX8_isFit 47 = .ok (.aload_n 0, 1) := by decide +kernel
theorem dX8_isFit_48 : decode cX8_isFit 48 = .ok (.getfield 13, 3) := by decide +kernel
theorem dX8_isFit_51 : decode cX8_isFit 51 = .ok (.bipush 6, 2) := by decide +kernel
theorem dX8_isFit_53 : decode cX8_isFit 53 = .ok (.iload_n 3, 1) := by decide +kernel
theorem dX8_isFit_54 : decode cX8_isFit 54 = .ok (.ifCond .ne 8, 3) := by decide +kernel
theorem dX8_isFit_57 : decode cX8_isFit 57 = .ok (.bipush 100, 2) := by decide +kernel
theorem dX8_isFit_59 : decode cX8_isFit 59 = .ok (.goto 24, 3) := by decide +kernel
theorem dX8_isFit_62 : decode cX8_isFit 62 = .ok (.iload_n 3, 1) := by decide +kernel
theorem dX8_isFit_63 : decode cX8_isFit 63 = .ok (.iconst 1, 1) := by decide +kernel
theorem dX8_isFit_64 : decode cX8_isFit 64 = .ok (.if_icmp .ne 8, 3) := by decide +kernel
theorem dX8_isFit_67 : decode cX8_isFit 67 = .ok (.bipush 60, 2) := by decide +kernel
theorem dX8_isFit_69 : decode cX8_isFit 69 = .ok (.goto 14, 3) := by decide +kernel
theorem dX8_isFit_72 : decode cX8_isFit 72 = .ok (.iload_n 3, 1) := by decide +kernel
theorem dX8_isFit_73 : decode cX8_isFit 73 = .ok (.iconst 2, 1) := by decide +kernel
theorem dX8_isFit_74 : decode cX8_isFit 74 = .ok (.if_icmp .ne 8, 3) := by decide +kernel
theorem dX8_isFit_77 : decode cX8_isFit 77 = .ok (.bipush 20, 2) := by decide +kernel
theorem dX8_isFit_79 : decode cX8_isFit 79 = .ok (.goto 4, 3) := by decide +kernel
theorem dX8_isFit_82 : decode cX8_isFit 82 = .ok (.iconst 0, 1) := by decide +kernel
theorem dX8_isFit_83 : decode cX8_isFit 83 = .ok (.iastore, 1) := by decide +kernel
theorem dX8_isFit_84 : decode cX8_isFit 84 = .ok (.aload_n 0, 1) := by decide +kernel
theorem dX8_isFit_85 : decode cX8_isFit 85 = .ok (.iconst 0, 1) := by decide +kernel
theorem dX8_isFit_86 : decode cX8_isFit 86 = .ok (.invokevirtual 124, 3) := by decide +kernel
theorem dX8_isFit_89 : decode cX8_isFit 89 = .ok (.istore 4, 2) := by decide +kernel
theorem dX8_isFit_91 : decode cX8_isFit 91 = .ok (.aload_n 0, 1) := by decide +kernel
theorem dX8_isFit_92 : decode cX8_isFit 92 = .ok (.iconst 2, 1) := by decide +kernel
theorem dX8_isFit_93 : decode cX8_isFit 93 = .ok (.invokevirtual 124, 3) := by decide +kernel
theorem dX8_isFit_96 : decode cX8_isFit 96 = .ok (.istore 5, 2) := by decide +kernel
theorem dX8_isFit_98 : decode cX8_isFit 98 = .ok (.iconst 1, 1) := by decide +kernel
theorem dX8_isFit_99 : decode cX8_isFit 99 = .ok (.istore 6, 2) := by decide +kernel
theorem dX8_isFit_101 : decode cX8_isFit 101 = .ok (.iconst 0, 1) := by decide +kernel
theorem dX8_isFit_102 : decode cX8_isFit 102 = .ok (.istore 7, 2) := by decide +kernel
theorem dX8_isFit_104 : decode cX8_isFit 104 = .ok (.iload 7, 2) := by decide +kernel
theorem dX8_isFit_106 : decode cX8_isFit 106 = .ok (.aload_n 0, 1) := by decide +kernel
theorem dX8_isFit_107 : decode cX8_isFit 107 = .ok (.getfield 199, 3) := by decide +kernel
theorem dX8_isFit_110 : decode cX8_isFit 110 = .ok (.if_icmp .ge 135, 3) := by decide +kernel
theorem dX8_isFit_113 : decode cX8_isFit 113 = .ok (.iload 6, 2) := by decide +kernel
theorem dX8_isFit_115 : decode cX8_isFit 115 = .ok (.ifCond .eq 130, 3) := by decide +kernel
theorem dX8_isFit_118 : decode cX8_isFit 118 = .ok (.aload_n 0, 1) := by decide +kernel
theorem dX8_isFit_119 : decode cX8_isFit 119 = .ok (.getfield 46, 3) := by decide +kernel
theorem dX8_isFit_122 : decode cX8_isFit 122 = .ok (.iload 7, 2) := by decide +kernel
theorem dX8_isFit_124 : decode cX8_isFit 124 = .ok (.iaload, 1) := by decide +kernel
theorem dX8_isFit_125 : decode cX8_isFit 125 = .ok (.iload_n 1, 1) := by decide +kernel
theorem dX8_isFit_126 : decode cX8_isFit 126 = .ok (.if_icmp .ne 113, 3) := by decide +kernel
theorem dX8_isFit_129 : decode cX8_isFit 129 = .ok (.aload_n 0, 1) := by decide +kernel
theorem dX8_isFit_130 : decode cX8_isFit 130 = .ok (.getfield 49, 3) := by decide +kernel
theorem dX8_isFit_133 : decode cX8_isFit 133 = .ok (.iload 7, 2) := by decide +kernel
theorem dX8_isFit_135 : decode cX8_isFit 135 = .ok (.iaload, 1) := by decide +kernel
theorem dX8_isFit_136 : decode cX8_isFit 136 = .ok (.bipush (-9), 2) := by decide +kernel
theorem dX8_isFit_138 : decode cX8_isFit 138 = .ok (.if_icmp .eq 28, 3) := by decide +kernel
theorem dX8_isFit_141 : decode cX8_isFit 141 = .ok (.iload 4, 2) := by decide +kernel
theorem dX8_isFit_143 : decode cX8_isFit 143 = .ok (.aload_n 0, 1) := by decide +kernel
theorem dX8_isFit_144 : decode cX8_isFit 144 = .ok (.getfield 49, 3) := by decide +kernel
theorem dX8_isFit_147 : decode cX8_isFit 147 = .ok (.iload 7, 2) := by decide +kernel
theorem dX8_isFit_149 : decode cX8_isFit 149 = .ok (.iaload, 1) := by decide +kernel
theorem dX8_isFit_150 : decode cX8_isFit 150 = .ok (.isub, 1) := by decide +kernel
theorem dX8_isFit_151 : decode cX8_isFit 151 = .ok (.aload_n 0, 1) := by decide +kernel
theorem dX8_isFit_152 : decode cX8_isFit 152 = .ok (.getfield 55, 3) := by decide +kernel
theorem dX8_isFit_155 : decode cX8_isFit 155 = .ok (.ineg, 1) := by decide +kernel
theorem dX8_isFit_156 : decode cX8_isFit 156 = .ok (.aload_n 0, 1) := by decide +kernel
theorem dX8_isFit_157 : decode cX8_isFit 157 = .ok (.getfield 55, 3) := by decide +kernel
theorem dX8_isFit_160 : decode cX8_isFit 160 = .ok (.invokestatic 70, 3) := by decide +kernel
theorem dX8_isFit_163 : decode cX8_isFit 163 = .ok (.ifCond .eq 7, 3) := by decide +kernel
theorem dX8_isFit_166 : decode cX8_isFit 166 = .ok (.iconst 1, 1) := by decide +kernel
theorem dX8_isFit_167 : decode cX8_isFit 167 = .ok (.goto 4, 3) := by decide +kernel
theorem dX8_isFit_170 : decode cX8_isFit 170 = .ok (.iconst 0, 1) := by decide +kernel
theorem dX8_isFit_171 : decode cX8_isFit 171 = .ok (.istore 6, 2) := by decide +kernel
theorem dX8_isFit_173 : decode cX8_isFit 173 = .ok (.aload_n 0, 1) := by decide +kernel
theorem dX8_isFit_174 : decode cX8_isFit 174 = .ok (.getfield 52, 3) := by decide +kernel
theorem dX8_isFit_177 : decode cX8_isFit 177 = .ok (.iload 7, 2) := by decide +kernel
theorem dX8_isFit_179 : decode cX8_isFit 179 = .ok (.iaload, 1) := by decide +kernel
theorem dX8_isFit_180 : decode cX8_isFit 180 = .ok (.i2l, 1) := by decide +kernel
theorem dX8_isFit_181 : decode cX8_isFit 181 = .ok (.aload_n 0, 1) := by decide +kernel
theorem dX8_isFit_182 : decode cX8_isFit 182 = .ok (.getfield 58, 3) := by decide +kernel
theorem dX8_isFit_185 : decode cX8_isFit 185 = .ok (.i2l, 1) := by decide +kernel
theorem dX8_isFit_186 : decode cX8_isFit 186 = .ok (.lmul, 1) := by decide +kernel
theorem dX8_isFit_187 : decode cX8_isFit 187 = .ok (.ldc2_w 112, 3) := by decide +kernel
theorem dX8_isFit_190 : decode cX8_isFit 190 = .ok (.ldiv, 1) := by decide +kernel
theorem dX8_isFit_191 : decode cX8_isFit 191 = .ok (.l2i, 1) := by decide +kernel
theorem dX8_isFit_192 : decode cX8_isFit 192 = .ok (.istore 8, 2) := by decide +kernel
theorem dX8_isFit_194 : decode cX8_isFit 194 = .ok (.iload 6, 2) := by decide +kernel
theorem dX8_isFit_196 : decode cX8_isFit 196 = .ok (.ifCond .eq 40, 3) := by decide +kernel
theorem dX8_isFit_199 : decode cX8_isFit 199 = .ok (.aload_n 0, 1) := by decide +kernel
theorem dX8_isFit_200 : decode cX8_isFit 200 = .ok (.getfield 52, 3) := by decide +kernel
theorem dX8_isFit_203 : decode cX8_isFit 203 = .ok (.iload 7, 2) := by decide +kernel
theorem dX8_isFit_205 : decode cX8_isFit 205 = .ok (.iaload, 1) := by decide +kernel
theorem dX8_isFit_206 : decode cX8_isFit 206 = .ok (.bipush (-9), 2) := by decide +kernel
theorem dX8_isFit_208 : decode cX8_isFit 208 = .ok (.if_icmp .eq 24, 3) := by decide +kernel
theorem dX8_isFit_211 : decode cX8_isFit 211 = .ok (.iload 5, 2) := by decide +kernel
theorem dX8_isFit_213 : decode cX8_isFit 213 = .ok (.aload_n 0, 1) := by decide +kernel
theorem dX8_isFit_214 : decode cX8_isFit 214 = .ok (.getfield 52, 3) := by decide +kernel
theorem dX8_isFit_217 : decode cX8_isFit 217 = .ok (.iload 7, 2) := by decide +kernel
theorem dX8_isFit_219 : decode cX8_isFit 219 = .ok (.iaload, 1) := by decide +kernel
theorem dX8_isFit_220 : decode cX8_isFit 220 = .ok (.isub, 1) := by decide +kernel
theorem dX8_isFit_221 : decode cX8_isFit 221 = .ok (.iload 8, 2) := by decide +kernel
theorem dX8_isFit_223 : decode cX8_isFit 223 = .ok (.ineg, 1) := by decide +kernel
theorem dX8_isFit_224 : decode cX8_isFit 224 = .ok (.iload 8, 2) := by decide +kernel
theorem dX8_isFit_226 : decode cX8_isFit 226 = .ok (.invokestatic 70, 3) := by decide +kernel
theorem dX8_isFit_229 : decode cX8_isFit 229 = .ok (.ifCond .eq 7, 3) := by decide +kernel
theorem dX8_isFit_232 : decode cX8_isFit 232 = .ok (.iconst 1, 1) := by decide +kernel
theorem dX8_isFit_233 : decode cX8_isFit 233 = .ok (.goto 4, 3) := by decide +kernel
theorem dX8_isFit_236 : decode cX8_isFit 236 = .ok (.iconst 0, 1) := by decide +kernel
theorem dX8_isFit_237 : decode cX8_isFit 237 = .ok (.istore 6, 2) := by decide +kernel
theorem dX8_isFit_239 : decode cX8_isFit 239 = .ok (.iinc 7 1, 3) := by decide +kernel
theorem dX8_isFit_242 : decode cX8_isFit 242 = .ok (.goto (-138), 3) := by decide +kernel
theorem dX8_isFit_245 : decode cX8_isFit 245 = .ok (.iload 6, 2) := by decide +kernel
theorem dX8_isFit_247 : decode cX8_isFit 247 = .ok (.ireturn, 1) := by decide +kernel
set_option maxRecDepth 20000 in
theorem ggX8_fits_X8_isRam : GoodIn wsX8_fits wsX8_isRam := goodIn_r _ [6, 7, 8, 9, 5, 10, 51, 52, 53, 54, 55, 56, 57, 58, 59, 60, 61, 62, 63, 64, 65, 66, 67, 68, 69, 70, 71, 72, 73, 74, 75, 76, 77, 78, 79, 80, 81, 82, 83, 84, 85, 86, 87, 88] (by decide +kernel) (by decide +kernel)
set_option maxRecDepth 20000 in
theorem gX8_fits_X8_isRam : GoodIn wsX8_fits (wsV RX8 74 RX8 yX8_isRam wsX8_isRam) := goodIn_app (goodIn_of _ (by decide +kernel)) ggX8_fits_X8_isRam
set_option maxRecDepth 20000 in
theorem ggX8_fits_X8_in : GoodIn wsX8_fits wsX8_in := goodIn_r _ [10] (by decide +kernel) (by decide +kernel)
set_option maxRecDepth 20000 in
theorem gX8_fits_X8_in : GoodIn wsX8_fits (va_wsS RX8 70 yX8_in wsX8_in) := goodIn_app (goodIn_of _ (by decide +kernel)) ggX8_fits_X8_in
set_option maxRecDepth 20000 in
theorem ggX8_fits_X8_isFit : GoodIn wsX8_fits wsX8_isFit := goodIn_r _ [14, 15, 16, 17, 18, 19, 20, 21, 22, 23, 24, 25, 5, 26, 27, 28, 29, 30, 31, 32, 33, 34, 35, 36, 37, 38, 39, 40, 41, 42, 43, 44, 45, 46, 47, 48, 49, 50, 8, 9, 10, 51, 52, 53, 54, 55, 56, 57, 58, 59, 60, 61, 62, 63, 64, 65, 66, 67, 68, 69, 70, 71, 72, 73, 74, 75, 76, 77, 78, 79, 80, 81, 82, 83, 84, 85, 86, 87, 88] (by decide +kernel) (by decide +kernel)
set_option maxRecDepth 20000 in
theorem gX8_fits_X8_isFit : GoodIn wsX8_fits (wsV RX8 205 RX8 yX8_isFit wsX8_isFit) := goodIn_app (goodIn_of _ (by decide +kernel)) ggX8_fits_X8_isFit
theorem dX8_fits_0 : decode cX8_fits 0 = .ok (.aload_n 0, 1) := by decide +kernel
theorem dX8_fits_1 : decode cX8_fits 1 = .ok (.iconst 0, 1) := by decide +kernel
theorem dX8_fits_2 : decode cX8_fits 2 = .ok (.putfield 64, 3) := by decide +kernel
theorem dX8_fits_5 : decode cX8_fits 5 = .ok (.aload_n 0, 1) := by decide +kernel
theorem dX8_fits_6 : decode cX8_fits 6 = .ok (.iload_n 1, 1) := by decide +kernel
theorem dX8_fits_7 : decode cX8_fits 7 = .ok (.invokevirtual 74, 3) := by decide +kernel
theorem dX8_fits_10 : decode cX8_fits 10 = .ok (.ifCond .eq 14, 3) := by decide +kernel
theorem dX8_fits_13 : decode cX8_fits 13 = .ok (.iload_n 2, 1) := by decide +kernel
theorem dX8_fits_14 : decode cX8_fits 14 = .ok (.iconst 0, 1) := by decide +kernel
theorem dX8_fits_15 : decode cX8_fits 15 = .ok (.sipush 255, 3) := by decide +kernel
theorem dX8_fits_18 : decode cX8_fits 18 = .ok (.invokestatic 70, 3) := by decide +kernel
theorem dX8_fits_21 : decode cX8_fits 21 = .ok (.ifCond .ne 7, 3) := by decide +kernel
theorem dX8_fits_24 : decode cX8_fits 24 = .ok (.iconst (-1), 1) := by decide +kernel
theorem dX8_fits_25 : decode cX8_fits 25 = .ok (.goto 17, 3) := by decide +kernel
theorem dX8_fits_28 : decode cX8_fits 28 = .ok (.aload_n 0, 1) := by decide +kernel
theorem dX8_fits_29 : decode cX8_fits 29 = .ok (.iload_n 1, 1) := by decide +kernel
theorem dX8_fits_30 : decode cX8_fits 30 = .ok (.iload_n 2, 1) := by decide +kernel
theorem dX8_fits_31 : decode cX8_fits 31 = .ok (.invokevirtual 205, 3) := by decide +kernel
theorem dX8_fits_34 : decode cX8_fits 34 = .ok (.ifCond .eq 7, 3) := by decide +kernel
theorem dX8_fits_37 : decode cX8_fits 37 = .ok (.iconst 1, 1) := by decide +kernel
theorem dX8_fits_38 : decode cX8_fits 38 = .ok (.goto 4, 3) := by decide +kernel
theorem dX8_fits_41 : decode cX8_fits 41 = .ok (.iconst 0, 1) := by decide +kernel
theorem dX8_fits_42 : decode cX8_fits 42 = .ok (.ireturn, 1) := by decide +kernel
set_option maxRecDepth 20000 in
theorem ggX8_ails_X8_isRam : GoodIn wsX8_ails wsX8_isRam := goodIn_r _ [7, 8, 9, 10, 6, 11, 52, 53, 54, 55, 56, 57, 58, 59, 60, 61, 62, 63, 64, 65, 66, 67, 68, 69, 70, 71, 72, 73, 74, 75, 76, 77, 78, 79, 80, 81, 82, 83, 84, 85, 86, 87, 88, 89] (by decide +kernel) (by decide +kernel)
set_option maxRecDepth 20000 in
theorem gX8_ails_X8_isRam : GoodIn wsX8_ails (wsV RX8 74 RX8 yX8_isRam wsX8_isRam) := goodIn_app (goodIn_of _ (by decide +kernel)) ggX8_ails_X8_isRam
set_option maxRecDepth 20000 in
theorem ggX8_ails_X8_in : GoodIn wsX8_ails wsX8_in := goodIn_r _ [11] (by decide +kernel) (by decide +kernel)
set_option maxRecDepth 20000 in
theorem gX8_ails_X8_in : GoodIn wsX8_ails (va_wsS RX8 70 yX8_in wsX8_in) := goodIn_app (goodIn_of _ (by decide +kernel)) ggX8_ails_X8_in
set_option maxRecDepth 20000 in
theorem ggX8_ails_X8_isFit : GoodIn wsX8_ails wsX8_isFit := goodIn_r _ [15, 16, 17, 18, 19, 20, 21, 22, 23, 24, 25, 26, 6, 27, 28, 29, 30, 31, 32, 33, 34, 35, 36, 37, 38, 39, 40, 41, 42, 43, 44, 45, 46, 47, 48, 49, 50, 51, 9, 10, 11, 52, 53, 54, 55, 56, 57, 58, 59, 60, 61, 62, 63, 64, 65, 66, 67, 68, 69, 70, 71, 72, 73, 74, 75, 76, 77, 78, 79, 80, 81, 82, 83, 84, 85, 86, 87, 88, 89] (by decide +kernel) (by decide +kernel)
set_option maxRecDepth 20000 in
theorem gX8_ails_X8_isFit : GoodIn wsX8_ails (wsV RX8 205 RX8 yX8_isFit wsX8_isFit) := goodIn_app (goodIn_of _ (by decide +kernel)) ggX8_ails_X8_isFit
set_option maxRecDepth 20000 in
theorem ggX8_ails_X8_valueOf : GoodIn wsX8_ails wsX8_valueOf := goodIn_r _ [31] (by decide +kernel) (by decide +kernel)
set_option maxRecDepth 20000 in
theorem gX8_ails_X8_valueOf : GoodIn wsX8_ails (va_wsS RX8 202 yX8_valueOf wsX8_valueOf) := goodIn_app (goodIn_of _ (by decide +kernel)) ggX8_ails_X8_valueOf
theorem dX8_ails_0 : decode cX8_ails 0 = .ok (.aload_n 0, 1) := by decide +kernel
theorem dX8_ails_1 : decode cX8_ails 1 = .ok (.iconst 0, 1) := by decide +kernel
theorem dX8_ails_2 : decode cX8_ails 2 = .ok (.putfield 64, 3) := by decide +kernel
theorem dX8_ails_5 : decode cX8_ails 5 = .ok (.aload_n 0, 1) := by decide +kernel
theorem dX8_ails_6 : decode cX8_ails 6 = .ok (.iload_n 1, 1) := by decide +kernel
theorem dX8_ails_7 : decode cX8_ails 7 = .ok (.invokevirtual 74, 3) := by decide +kernel
theorem dX8_ails_10 : decode cX8_ails 10 = .ok (.ifCond .eq 12, 3) := by decide +kernel
theorem dX8_ails_13 : decode cX8_ails 13 = .ok (.iload_n 2, 1) := by decide +kernel
theorem dX8_ails_14 : decode cX8_ails 14 = .ok (.iconst 0, 1) := by decide +kernel
theorem dX8_ails_15 : decode cX8_ails 15 = .ok (.iconst 2, 1) := by decide +kernel
theorem dX8_ails_16 : decode cX8_ails 16 = .ok (.invokestatic 70, 3) := by decide +kernel
theorem dX8_ails_19 : decode cX8_ails 19 = .ok (.ifCond .ne 5, 3) := by decide +kernel
theorem dX8_ails_22 : decode cX8_ails 22 = .ok (.iconst (-1), 1) := by decide +kernel
theorem dX8_ails_23 : decode cX8_ails 23 = .ok (.ireturn, 1) := by decide +kernel
theorem dX8_ails_24 : decode cX8_ails 24 = .ok (.iconst 0, 1) := by decide +kernel
theorem dX8_ails_25 : decode cX8_ails 25 = .ok (.istore_n 3, 1) := by decide +kernel
theorem dX8_ails_26 : decode cX8_ails 26 = .ok (.bipush (-9), 2) := by decide +kernel
theorem dX8_ails_28 : decode cX8_ails 28 = .ok (.istore 4, 2) := by decide +kernel
theorem dX8_ails_30 : decode cX8_ails 30 = .ok (.iconst 0, 1) := by decide +kernel
theorem dX8_ails_31 : decode cX8_ails 31 = .ok (.istore 5, 2) := by decide +kernel
theorem dX8_ails_33 : decode cX8_ails 33 = .ok (.iload 5, 2) := by decide +kernel
theorem dX8_ails_35 : decode cX8_ails 35 = .ok (.sipush 256, 3) := by decide +kernel
theorem dX8_ails_38 : decode cX8_ails 38 = .ok (.if_icmp .ge 38, 3) := by decide +kernel
theorem dX8_ails_41 : decode cX8_ails 41 = .ok (.aload_n 0, 1) := by decide +kernel
theorem dX8_ails_42 : decode cX8_ails 42 = .ok (.iload_n 1, 1) := by decide +kernel
theorem dX8_ails_43 : decode cX8_ails 43 = .ok (.iload 5, 2) := by decide +kernel
theorem dX8_ails_45 : decode cX8_ails 45 = .ok (.invokevirtual 205, 3) := by decide +kernel
theorem dX8_ails_48 : decode cX8_ails 48 = .ok (.ifCond .eq 22, 3) := by decide +kernel
theorem dX8_ails_51 : decode cX8_ails 51 = .ok (.iinc 3 1, 3) := by decide +kernel
theorem dX8_ails_54 : decode cX8_ails 54 = .ok (.iload 4, 2) := by decide +kernel
theorem dX8_ails_56 : decode cX8_ails 56 = .ok (.bipush (-9), 2) := by decide +kernel
theorem dX8_ails_58 : decode cX8_ails 58 = .ok (.if_icmp .ne 8, 3) := by decide +kernel
theorem dX8_ails_61 : decode cX8_ails 61 = .ok (.iload 5, 2) := by decide +kernel
theorem dX8_ails_63 : decode cX8_ails 63 = .ok (.goto 5, 3) := by decide +kernel
theorem dX8_ails_66 : decode cX8_ails 66 = .ok (.iload 4, 2) := by decide +kernel
theorem dX8_ails_68 : decode cX8_ails 68 = .ok (.istore 4, 2) := by decide +kernel
theorem dX8_ails_70 : decode cX8_ails 70 = .ok (.iinc 5 1, 3) := by decide +kernel
theorem dX8_ails_73 : decode cX8_ails 73 = .ok (.goto (-40), 3) := by decide +kernel
theorem dX8_ails_76 : decode cX8_ails 76 = .ok (.iload_n 2, 1) := by decide +kernel
theorem dX8_ails_77 : decode cX8_ails 77 = .ok (.iconst 2, 1) := by decide +kernel
theorem dX8_ails_78 : decode cX8_ails 78 = .ok (.if_icmp .ge 14, 3) := by decide +kernel
theorem dX8_ails_81 : decode cX8_ails 81 = .ok (.iload_n 2, 1) := by decide +kernel
theorem dX8_ails_82 : decode cX8_ails 82 = .ok (.ifCond .ne 7, 3) := by decide +kernel
theorem dX8_ails_85 : decode cX8_ails 85 = .ok (.iload_n 3, 1) := by decide +kernel
theorem dX8_ails_86 : decode cX8_ails 86 = .ok (.goto 5, 3) := by decide +kernel
theorem dX8_ails_89 : decode cX8_ails 89 = .ok (.iload 4, 2) := by decide +kernel
theorem dX8_ails_91 : decode cX8_ails 91 = .ok (.ireturn, 1) := by decide +kernel
theorem dX8_ails_92 : decode cX8_ails 92 = .ok (.bipush (-9), 2) := by decide +kernel
theorem dX8_ails_94 : decode cX8_ails 94 = .ok (.istore 5, 2) := by decide +kernel
theorem dX8_ails_96 : decode cX8_ails 96 = .ok (.sipush 1000, 3) := by decide +kernel
theorem dX8_ails_99 : decode cX8_ails 99 = .ok (.istore 6, 2) := by decide +kernel
theorem dX8_ails_101 : decode cX8_ails 101 = .ok (.iconst 0, 1) := by decide +kernel
theorem dX8_ails_102 : decode cX8_ails 102 = .ok (.istore 7, 2) := by decide +kernel
theorem dX8_ails_104 : decode cX8_ails 104 = .ok (.iload 7, 2) := by decide +kernel
theorem dX8_ails_106 : decode cX8_ails 106 = .ok (.iconst 4, 1) := by decide +kernel
theorem dX8_ails_107 : decode cX8_ails 107 = .ok (.if_icmp .ge 128, 3) := by decide +kernel
theorem dX8_ails_110 : decode cX8_ails 110 = .ok (.iload_n 3, 1) := by decide +kernel
theorem dX8_ails_111 : decode cX8_ails 111 = .ok (.iconst 1, 1) := by decide +kernel
theorem dX8_ails_112 : decode cX8_ails 112 = .ok (.if_icmp .le 123, 3) := by decide +kernel
theorem dX8_ails_115 : decode cX8_ails 115 = .ok (.iconst 0, 1) := by decide +kernel
theorem dX8_ails_116 : decode cX8_ails 116 = .ok (.istore 8, 2) := by decide +kernel
theorem dX8_ails_118 : decode cX8_ails 118 = .ok (.iload 8, 2) := by decide +kernel
theorem dX8_ails_120 : decode cX8_ails 120 = .ok (.iconst 4, 1) := by decide +kernel
theorem dX8_ails_121 : decode cX8_ails 121 = .ok (.if_icmp .ge 17, 3) := by decide +kernel
theorem dX8_ails_124 : decode cX8_ails 124 = .ok (.aload_n 0, 1) := by decide +kernel
theorem dX8_ails_125 : decode cX8_ails 125 = .ok (.getfield 61, 3) := by decide +kernel
theorem dX8_ails_128 : decode cX8_ails 128 = .ok (.iload 8, 2) := by decide +kernel
theorem dX8_ails_130 : decode cX8_ails 130 = .ok (.iconst 0, 1) := by decide +kernel
theorem dX8_ails_131 : decode cX8_ails 131 = .ok (.iastore, 1) := by decide +kernel
theorem dX8_ails_132 : decode cX8_ails 132 = .ok (.iinc 8 1, 3) := by decide +kernel
theorem dX8_ails_135 : decode cX8_ails 135 = .ok (.goto (-17), 3) := by decide +kernel
theorem dX8_ails_138 : decode cX8_ails 138 = .ok (.iconst 0, 1) := by decide +kernel
theorem dX8_ails_139 : decode cX8_ails 139 = .ok (.istore 8, 2) := by decide +kernel
theorem dX8_ails_141 : decode cX8_ails 141 = .ok (.iconst 0, 1) := by decide +kernel
theorem dX8_ails_142 : decode cX8_ails 142 = .ok (.istore 9, 2) := by decide +kernel
theorem dX8_ails_144 : decode cX8_ails 144 = .ok (.iload 9, 2) := by decide +kernel
theorem dX8_ails_146 : decode cX8_ails 146 = .ok (.sipush 256, 3) := by decide +kernel
theorem dX8_ails_149 : decode cX8_ails 149 = .ok (.if_icmp .ge 65, 3) := by decide +kernel
theorem dX8_ails_152 : decode cX8_ails 152 = .ok (.aload_n 0, 1) := by decide +kernel
theorem dX8_ails_153 : decode cX8_ails 153 = .ok (.iload_n 1, 1) := by decide +kernel
theorem dX8_ails_154 : decode cX8_ails 154 = .ok (.iload 9, 2) := by decide +kernel
theorem dX8_ails_156 : decode cX8_ails 156 = .ok (.invokevirtual 205, 3) := by decide +kernel
theorem dX8_ails_159 : decode cX8_ails 159 = .ok (.ifCond .eq 49, 3) := by decide +kernel
theorem dX8_ails_162 : decode cX8_ails 162 = .ok (.iload 9, 2) := by decide +kernel
theorem dX8_ails_164 : decode cX8_ails 164 = .ok (.iload 7, 2) := by decide +kernel
theorem dX8_ails_166 : decode cX8_ails 166 = .ok (.invokestatic 202, 3) := by decide +kernel
theorem dX8_ails_169 : decode cX8_ails 169 = .ok (.istore 10, 2) := by decide +kernel
theorem dX8_ails_171 : decode cX8_ails 171 = .ok (.aload_n 0, 1) := by decide +kernel
theorem dX8_ails_172 : decode cX8_ails 172 = .ok (.getfield 61, 3) := by decide +kernel
theorem dX8_ails_175 : decode cX8_ails 175 = .ok (.iload 10, 2) := by decide +kernel
theorem dX8_ails_177 : decode cX8_ails 177 = .ok (.dup2, 1) := by decide +kernel
theorem dX8_ails_178 : decode cX8_ails 178 = .ok (.iaload, 1) := by decide +kernel
theorem dX8_ails_179 : decode cX8_ails 179 = .ok (.iconst 1, 1) := by decide +kernel
theorem dX8_ails_180 : decode cX8_ails 180 = .ok (.iadd, 1) := by decide +kernel
theorem dX8_ails_181 : decode cX8_ails 181 = .ok (.iastore, 1) := by decide +kernel
theorem dX8_ails_182 : decode cX8_ails 182 = .ok (.aload_n 0, 1) := by decide +kernel
theorem dX8_ails_183 : decode cX8_ails 183 = .ok (.getfield 61, 3) := by decide +kernel
theorem dX8_ails_186 : decode cX8_ails 186 = .ok (.iload 10, 2) := by decide +kernel
theorem dX8_ails_188 : decode cX8_ails 188 = .ok (.iaload, 1) := by decide +kernel
theorem dX8_ails_189 : decode cX8_ails 189 = .ok (.iload 8, 2) := by decide +kernel
theorem dX8_ails_191 : decode cX8_ails 191 = .ok (.if_icmp .le 13, 3) := by decide +kernel
theorem dX8_ails_194 : decode cX8_ails 194 = .ok (.aload_n 0, 1) := by decide +kernel
theorem dX8_ails_195 : decode cX8_ails 195 = .ok (.getfield 61, 3) := by decide +kernel
theorem dX8_ails_198 : decode cX8_ails 198 = .ok (.iload 10, 2) := by decide +kernel
theorem dX8_ails_200 : decode cX8_ails 200 = .ok (.iaload, 1) := by decide +kernel
theorem dX8_ails_201 : decode cX8_ails 201 = .ok (.goto 5, 3) := by decide +kernel
theorem dX8_ails_204 : decode cX8_ails 204 = .ok (.iload 8, 2) := by decide +kernel
theorem dX8_ails_206 : decode cX8_ails 206 = .ok (.istore 8, 2) := by decide +kernel
theorem dX8_ails_208 : decode cX8_ails 208 = .ok (.iinc 9 1, 3) := by decide +kernel
theorem dX8_ails_211 : decode cX8_ails 211 = .ok (.goto (-67), 3) := by decide +kernel
theorem dX8_ails_214 : decode cX8_ails 214 = .ok (.iload 8, 2) := by decide +kernel
theorem dX8_ails_216 : decode cX8_ails 216 = .ok (.iload 6, 2) := by decide +kernel
theorem dX8_ails_218 : decode cX8_ails 218 = .ok (.if_icmp .ge 11, 3) := by decide +kernel
theorem dX8_ails_221 : decode cX8_ails 221 = .ok (.iload 8, 2) := by decide +kernel
theorem dX8_ails_223 : decode cX8_ails 223 = .ok (.istore 6, 2) := by decide +kernel
theorem dX8_ails_225 : decode cX8_ails 225 = .ok (.iload 7, 2) := by decide +kernel
theorem dX8_ails_227 : decode cX8_ails 227 = .ok (.istore 5, 2) := by decide +kernel
theorem dX8_ails_229 : decode cX8_ails 229 = .ok (.iinc 7 1, 3) := by decide +kernel
theorem dX8_ails_232 : decode cX8_ails 232 = .ok (.goto (-128), 3) := by decide +kernel
theorem dX8_ails_235 : decode cX8_ails 235 = .ok (.iload 5, 2) := by decide +kernel
theorem dX8_ails_237 : decode cX8_ails 237 = .ok (.ireturn, 1) := by decide +kernel
set_option maxRecDepth 20000 in
theorem ggX8_sure_X8_isRam : GoodIn wsX8_sure wsX8_isRam := goodIn_r _ [6, 7, 8, 9, 5, 10, 51, 52, 53, 54, 55, 56, 57, 58, 59, 60, 61, 62, 63, 64, 65, 66, 67, 68, 69, 70, 71, 72, 73, 74, 75, 76, 77, 78, 79, 80, 81, 82, 83, 84, 85, 86, 87, 88] (by decide +kernel) (by decide +kernel)
set_option maxRecDepth 20000 in
theorem gX8_sure_X8_isRam : GoodIn wsX8_sure (wsV RX8 74 RX8 yX8_isRam wsX8_isRam) := goodIn_app (goodIn_of _ (by decide +kernel)) ggX8_sure_X8_isRam
set_option maxRecDepth 20000 in
theorem ggX8_sure_X8_in : GoodIn wsX8_sure wsX8_in := goodIn_r _ [10] (by decide +kernel) (by decide +kernel)
set_option maxRecDepth 20000 in
theorem gX8_sure_X8_in : GoodIn wsX8_sure (va_wsS RX8 70 yX8_in wsX8_in) := goodIn_app (goodIn_of _ (by decide +kernel)) ggX8_sure_X8_in
set_option maxRecDepth 20000 in
theorem ggX8_sure_X8_isFit : GoodIn wsX8_sure wsX8_isFit := goodIn_r _ [14, 15, 16, 17, 18, 19, 20, 21, 22, 23, 24, 25, 5, 26, 27, 28, 29, 30, 31, 32, 33, 34, 35, 36, 37, 38, 39, 40, 41, 42, 43, 44, 45, 46, 47, 48, 49, 50, 8, 9, 10, 51, 52, 53, 54, 55, 56, 57, 58, 59, 60, 61, 62, 63, 64, 65, 66, 67, 68, 69, 70, 71, 72, 73, 74, 75, 76, 77, 78, 79, 80, 81, 82, 83, 84, 85, 86, 87, 88] (by decide +kernel) (by decide +kernel)
set_option maxRecDepth 20000 in
theorem gX8_sure_X8_isFit : GoodIn wsX8_sure (wsV RX8 205 RX8 yX8_isFit wsX8_isFit) := goodIn_app (goodIn_of _ (by decide +kernel)) ggX8_sure_X8_isFit
set_option maxRecDepth 20000 in
theorem ggX8_sure_X8_valueOf : GoodIn wsX8_sure wsX8_valueOf := goodIn_r _ [30] (by decide +kernel) (by decide +kernel)
set_option maxRecDepth 20000 in
theorem gX8_sure_X8_valueOf : GoodIn wsX8_sure (va_wsS RX8 202 yX8_valueOf wsX8_valueOf) := goodIn_app (goodIn_of _ (by decide +kernel)) ggX8_sure_X8_valueOf
theorem dX8_sure_0 : decode cX8_sure 0 = .ok (.aload_n 0, 1) := by decide +kernel
theorem dX8_sure_1 : decode cX8_sure 1 = .ok (.iconst 0, 1) := by decide +kernel
theorem dX8_sure_2 : decode cX8_sure 2 = .ok (.putfield 64, 3) := by decide +kernel
theorem dX8_sure_5 : decode cX8_sure 5 = .ok (.aload_n 0, 1) := by decide +kernel
theorem dX8_sure_6 : decode cX8_sure 6 = .ok (.iload_n 1, 1) := by decide +kernel
theorem dX8_sure_7 : decode cX8_sure 7 = .ok (.invokevirtual 74, 3) := by decide +kernel
theorem dX8_sure_10 : decode cX8_sure 10 = .ok (.ifCond .eq 12, 3) := by decide +kernel
theorem dX8_sure_13 : decode cX8_sure 13 = .ok (.iload_n 2, 1) := by decide +kernel
theorem dX8_sure_14 : decode cX8_sure 14 = .ok (.iconst 0, 1) := by decide +kernel
theorem dX8_sure_15 : decode cX8_sure 15 = .ok (.iconst 3, 1) := by decide +kernel
theorem dX8_sure_16 : decode cX8_sure 16 = .ok (.invokestatic 70, 3) := by decide +kernel
theorem dX8_sure_19 : decode cX8_sure 19 = .ok (.ifCond .ne 5, 3) := by decide +kernel
theorem dX8_sure_22 : decode cX8_sure 22 = .ok (.iconst (-1), 1) := by decide +kernel
theorem dX8_sure_23 : decode cX8_sure 23 = .ok (.ireturn, 1) := by decide +kernel
theorem dX8_sure_24 : decode cX8_sure 24 = .ok (.bipush (-9), 2) := by decide +kernel
theorem dX8_sure_26 : decode cX8_sure 26 = .ok (.istore_n 3, 1) := by decide +kernel
theorem dX8_sure_27 : decode cX8_sure 27 = .ok (.iconst 0, 1) := by decide +kernel
theorem dX8_sure_28 : decode cX8_sure 28 = .ok (.istore 4, 2) := by decide +kernel
theorem dX8_sure_30 : decode cX8_sure 30 = .ok (.iload 4, 2) := by decide +kernel
theorem dX8_sure_32 : decode cX8_sure 32 = .ok (.sipush 256, 3) := by decide +kernel
theorem dX8_sure_35 : decode cX8_sure 35 = .ok (.if_icmp .ge 45, 3) := by decide +kernel
theorem dX8_sure_38 : decode cX8_sure 38 = .ok (.aload_n 0, 1) := by decide +kernel
theorem dX8_sure_39 : decode cX8_sure 39 = .ok (.iload_n 1, 1) := by decide +kernel
theorem dX8_sure_40 : decode cX8_sure 40 = .ok (.iload 4, 2) := by decide +kernel
theorem dX8_sure_42 : decode cX8_sure 42 = .ok (.invokevirtual 205, 3) := by decide +kernel
theorem dX8_sure_45 : decode cX8_sure 45 = .ok (.ifCond .eq 29, 3) := by decide +kernel
theorem dX8_sure_48 : decode cX8_sure 48 = .ok (.iload_n 3, 1) := by decide +kernel
theorem dX8_sure_49 : decode cX8_sure 49 = .ok (.bipush (-9), 2) := by decide +kernel
theorem dX8_sure_51 : decode cX8_sure 51 = .ok (.if_icmp .eq 16, 3) := by decide +kernel
theorem dX8_sure_54 : decode cX8_sure 54 = .ok (.iload_n 3, 1) := by decide +kernel
theorem dX8_sure_55 : decode cX8_sure 55 = .ok (.iload 4, 2) := by decide +kernel
theorem dX8_sure_57 : decode cX8_sure 57 = .ok (.iload_n 2, 1) := by decide +kernel
theorem dX8_sure_58 : decode cX8_sure 58 = .ok (.invokestatic 202, 3) := by decide +kernel
theorem dX8_sure_61 : decode cX8_sure 61 = .ok (.if_icmp .eq 6, 3) := by decide +kernel
theorem dX8_sure_64 : decode cX8_sure 64 = .ok (.bipush (-9), 2) := by decide +kernel
theorem dX8_sure_66 : decode cX8_sure 66 = .ok (.ireturn, 1) := by decide +kernel
theorem dX8_sure_67 : decode cX8_sure 67 = .ok (.iload 4, 2) := by decide +kernel
theorem dX8_sure_69 : decode cX8_sure 69 = .ok (.iload_n 2, 1) := by decide +kernel
theorem dX8_sure_70 : decode cX8_sure 70 = .ok (.invokestatic 202, 3) := by decide +kernel
theorem dX8_sure_73 : decode cX8_sure 73 = .ok (.istore_n 3, 1) := by decide +kernel
theorem dX8_sure_74 : decode cX8_sure 74 = .ok (.iinc 4 1, 3) := by decide +kernel
theorem dX8_sure_77 : decode cX8_sure 77 = .ok (.goto (-47), 3) := by decide +kernel
theorem dX8_sure_80 : decode cX8_sure 80 = .ok (.iload_n 3, 1) := by decide +kernel
theorem dX8_sure_81 : decode cX8_sure 81 = .ok (.ireturn, 1) := by decide +kernel
theorem dX8_count_0 : decode cX8_count 0 = .ok (.aload_n 0, 1) := by decide +kernel
theorem dX8_count_1 : decode cX8_count 1 = .ok (.iconst 0, 1) := by decide +kernel
theorem dX8_count_2 : decode cX8_count 2 = .ok (.putfield 64, 3) := by decide +kernel
theorem dX8_count_5 : decode cX8_count 5 = .ok (.iload_n 1, 1) := by decide +kernel
theorem dX8_count_6 : decode cX8_count 6 = .ok (.tableswitch 86 0 7 #[46, 51, 56, 61, 66, 71, 76, 81], 46) := by decide +kernel
theorem dX8_count_52 : decode cX8_count 52 = .ok (.aload_n 0, 1) := by decide +kernel
theorem dX8_count_53 : decode cX8_count 53 = .ok (.getfield 67, 3) := by decide +kernel
theorem dX8_count_56 : decode cX8_count 56 = .ok (.ireturn, 1) := by decide +kernel
theorem dX8_count_57 : decode cX8_count 57 = .ok (.aload_n 0, 1) := by decide +kernel
theorem dX8_count_58 : decode cX8_count 58 = .ok (.getfield 133, 3) := by decide +kernel
theorem dX8_count_61 : decode cX8_count 61 = .ok (.ireturn, 1) := by decide +kernel
theorem dX8_count_62 : decode cX8_count 62 = .ok (.aload_n 0, 1) := by decide +kernel
theorem dX8_count_63 : decode cX8_count 63 = .ok (.getfield 177, 3) := by decide +kernel
theorem dX8_count_66 : decode cX8_count 66 = .ok (.ireturn, 1) := by decide +kernel
theorem dX8_count_67 : decode cX8_count 67 = .ok (.aload_n 0, 1) := by decide +kernel
theorem dX8_count_68 : decode cX8_count 68 = .ok (.getfield 199, 3) := by decide +kernel
theorem dX8_count_71 : decode cX8_count 71 = .ok (.ireturn, 1) := by decide +kernel
theorem dX8_count_72 : decode cX8_count 72 = .ok (.aload_n 0, 1) := by decide +kernel
theorem dX8_count_73 : decode cX8_count 73 = .ok (.getfield 184, 3) := by decide +kernel
theorem dX8_count_76 : decode cX8_count 76 = .ok (.ireturn, 1) := by decide +kernel
theorem dX8_count_77 : decode cX8_count 77 = .ok (.aload_n 0, 1) := by decide +kernel
theorem dX8_count_78 : decode cX8_count 78 = .ok (.getfield 190, 3) := by decide +kernel
theorem dX8_count_81 : decode cX8_count 81 = .ok (.ireturn, 1) := by decide +kernel
theorem dX8_count_82 : decode cX8_count 82 = .ok (.aload_n 0, 1) := by decide +kernel
theorem dX8_count_83 : decode cX8_count 83 = .ok (.getfield 187, 3) := by decide +kernel
theorem dX8_count_86 : decode cX8_count 86 = .ok (.ireturn, 1) := by decide +kernel
theorem dX8_count_87 : decode cX8_count 87 = .ok (.aload_n 0, 1) := by decide +kernel
theorem dX8_count_88 : decode cX8_count 88 = .ok (.getfield 151, 3) := by decide +kernel
theorem dX8_count_91 : decode cX8_count 91 = .ok (.ireturn, 1) := by decide +kernel
theorem dX8_count_92 : decode cX8_count 92 = .ok (.iconst (-1), 1) := by decide +kernel
theorem dX8_count_93 : decode cX8_count 93 = .ok (.ireturn, 1) := by decide +kernel
theorem dX8_trace_0 : decode cX8_trace 0 = .ok (.aload_n 0, 1) := by decide +kernel
theorem dX8_trace_1 : decode cX8_trace 1 = .ok (.iconst 0, 1) := by decide +kernel
theorem dX8_trace_2 : decode cX8_trace 2 = .ok (.putfield 64, 3) := by decide +kernel
theorem dX8_trace_5 : decode cX8_trace 5 = .ok (.aload_n 0, 1) := by decide +kernel
theorem dX8_trace_6 : decode cX8_trace 6 = .ok (.getfield 81, 3) := by decide +kernel
theorem dX8_trace_9 : decode cX8_trace 9 = .ok (.lreturn, 1) := by decide +kernel
theorem dJ9_abs_0f7a4_0 : decode cJ9_abs_0f7a4 0 = .ok (.iload_n 0, 1) := by decide +kernel
theorem dJ9_abs_0f7a4_1 : decode cJ9_abs_0f7a4 1 = .ok (.ifCond .ge 8, 3) := by decide +kernel
theorem dJ9_abs_0f7a4_4 : decode cJ9_abs_0f7a4 4 = .ok (.iload_n 0, 1) := by decide +kernel
theorem dJ9_abs_0f7a4_5 : decode cJ9_abs_0f7a4 5 = .ok (.ineg, 1) := by decide +kernel
theorem dJ9_abs_0f7a4_6 : decode cJ9_abs_0f7a4 6 = .ok (.goto 4, 3) := by decide +kernel
theorem dJ9_abs_0f7a4_9 : decode cJ9_abs_0f7a4 9 = .ok (.iload_n 0, 1) := by decide +kernel
theorem dJ9_abs_0f7a4_10 : decode cJ9_abs_0f7a4 10 = .ok (.ireturn, 1) := by decide +kernel
theorem dJ9_max_7cf53_0 : decode cJ9_max_7cf53 0 = .ok (.iload_n 0, 1) := by decide +kernel
theorem dJ9_max_7cf53_1 : decode cJ9_max_7cf53 1 = .ok (.iload_n 1, 1) := by decide +kernel
theorem dJ9_max_7cf53_2 : decode cJ9_max_7cf53 2 = .ok (.if_icmp .lt 7, 3) := by decide +kernel
theorem dJ9_max_7cf53_5 : decode cJ9_max_7cf53 5 = .ok (.iload_n 0, 1) := by decide +kernel
theorem dJ9_max_7cf53_6 : decode cJ9_max_7cf53 6 = .ok (.goto 4, 3) := by decide +kernel
theorem dJ9_max_7cf53_9 : decode cJ9_max_7cf53 9 = .ok (.iload_n 1, 1) := by decide +kernel
theorem dJ9_max_7cf53_10 : decode cJ9_max_7cf53 10 = .ok (.ireturn, 1) := by decide +kernel
theorem dJ9_min_7cf53_0 : decode cJ9_min_7cf53 0 = .ok (.iload_n 0, 1) := by decide +kernel
theorem dJ9_min_7cf53_1 : decode cJ9_min_7cf53 1 = .ok (.iload_n 1, 1) := by decide +kernel
theorem dJ9_min_7cf53_2 : decode cJ9_min_7cf53 2 = .ok (.if_icmp .gt 7, 3) := by decide +kernel
theorem dJ9_min_7cf53_5 : decode cJ9_min_7cf53 5 = .ok (.iload_n 0, 1) := by decide +kernel
theorem dJ9_min_7cf53_6 : decode cJ9_min_7cf53 6 = .ok (.goto 4, 3) := by decide +kernel
theorem dJ9_min_7cf53_9 : decode cJ9_min_7cf53 9 = .ok (.iload_n 1, 1) := by decide +kernel
theorem dJ9_min_7cf53_10 : decode cJ9_min_7cf53 10 = .ok (.ireturn, 1) := by decide +kernel
theorem dJ7_fill_53178_0 : decode cJ7_fill_53178 0 = .ok (.iconst 0, 1) := by decide +kernel
theorem dJ7_fill_53178_1 : decode cJ7_fill_53178 1 = .ok (.istore_n 2, 1) := by decide +kernel
theorem dJ7_fill_53178_2 : decode cJ7_fill_53178 2 = .ok (.aload_n 0, 1) := by decide +kernel
theorem dJ7_fill_53178_3 : decode cJ7_fill_53178 3 = .ok (.arraylength, 1) := by decide +kernel
theorem dJ7_fill_53178_4 : decode cJ7_fill_53178 4 = .ok (.istore_n 3, 1) := by decide +kernel
theorem dJ7_fill_53178_5 : decode cJ7_fill_53178 5 = .ok (.iload_n 2, 1) := by decide +kernel
theorem dJ7_fill_53178_6 : decode cJ7_fill_53178 6 = .ok (.iload_n 3, 1) := by decide +kernel
theorem dJ7_fill_53178_7 : decode cJ7_fill_53178 7 = .ok (.if_icmp .ge 13, 3) := by decide +kernel
theorem dJ7_fill_53178_10 : decode cJ7_fill_53178 10 = .ok (.aload_n 0, 1) := by decide +kernel
theorem dJ7_fill_53178_11 : decode cJ7_fill_53178 11 = .ok (.iload_n 2, 1) := by decide +kernel
theorem dJ7_fill_53178_12 : decode cJ7_fill_53178 12 = .ok (.iload_n 1, 1) := by decide +kernel
theorem dJ7_fill_53178_13 : decode cJ7_fill_53178 13 = .ok (.iastore, 1) := by decide +kernel
theorem dJ7_fill_53178_14 : decode cJ7_fill_53178 14 = .ok (.iinc 2 1, 3) := by decide +kernel
theorem dJ7_fill_53178_17 : decode cJ7_fill_53178 17 = .ok (.goto (-12), 3) := by decide +kernel
theorem dJ7_fill_53178_20 : decode cJ7_fill_53178 20 = .ok (.return_, 1) := by decide +kernel
set_option maxRecDepth 20000 in
theorem ggL_law_X7_init : GoodIn wsL_law wsX7_init := goodIn_r _ [9, 10, 11, 12, 13, 14, 15, 16, 17, 18, 19, 20, 21, 22, 23, 24, 25, 26, 27, 28, 29, 30, 31, 32, 33, 34, 35, 36, 37, 38, 39, 40, 41, 42, 43, 44, 45, 46, 47, 48, 49, 50, 51, 52, 53, 54, 55, 56, 57, 58, 59, 60, 61, 62, 63, 64, 65, 66, 67, 68, 69, 70, 71, 72, 73, 74, 75, 76, 77, 78, 79, 80, 81, 82, 83, 84, 85, 86, 87, 88, 89, 90, 91, 92, 93, 94, 95, 96, 97, 98, 99, 100, 101, 102, 103, 104, 105, 106, 107, 108, 109, 110, 111, 112, 113, 114, 115, 116, 117, 118, 119, 120, 121, 122, 755, 756, 757, 758, 759, 760, 761, 762, 763, 764, 765, 766, 767, 806, 807, 808, 809, 810, 811, 812, 813, 814, 815, 816, 817, 818, 819, 820, 821, 822, 823, 824, 825, 826, 827, 828, 829, 830, 831, 832, 833, 834, 835, 836, 837, 838, 839, 840, 841, 842, 843, 844, 845, 846] (by decide +kernel) (by decide +kernel)
set_option maxRecDepth 20000 in
theorem gL_law_X7_init : GoodIn wsL_law (wsX7_init) := ggL_law_X7_init
set_option maxRecDepth 20000 in
theorem ggL_law_X8_init : GoodIn wsL_law wsX8_init := goodIn_r _ [125, 126, 11, 12, 51, 127, 128, 129, 130, 131, 132, 133, 134, 135, 136, 137, 106, 138, 139, 140, 141, 142, 143, 144, 768, 769, 770, 771, 772, 773, 774, 775, 776, 777, 778, 779, 780, 781, 782, 783, 784, 785, 786, 787, 788, 789, 790, 791, 792, 793, 794, 795, 796, 797, 798, 799, 800, 801, 802, 803, 804, 805] (by decide +kernel) (by decide +kernel)
set_option maxRecDepth 20000 in
theorem gL_law_X8_init : GoodIn wsL_law (wsX8_init) := ggL_law_X8_init
set_option maxRecDepth 20000 in
theorem ggL_law_X7_ram : GoodIn wsL_law wsX7_ram := goodIn_r _ [148, 15, 14, 149, 150, 2, 151, 152, 153, 154, 155, 156, 157, 158, 159, 17, 160, 52, 53, 755, 756, 757, 758, 759, 760, 761, 762, 763, 764, 765, 766, 767, 806, 807, 808, 809, 810, 811] (by decide +kernel) (by decide +kernel)
set_option maxRecDepth 20000 in
theorem gL_law_X7_ram : GoodIn wsL_law (wsV RL 13 RX7 yX7_ram wsX7_ram) := goodIn_app (goodIn_of _ (by decide +kernel)) ggL_law_X7_ram
set_option maxRecDepth 20000 in
theorem ggL_law_X8_ram : GoodIn wsL_law wsX8_ram := goodIn_r _ [164, 165, 166, 127, 167, 168, 5, 169, 768, 769, 770, 771, 772, 773, 774, 775, 776, 777, 778, 779, 780, 781, 782, 783, 784, 785, 786, 787, 788, 789, 790, 791, 792, 793, 794, 795, 796, 797, 798, 799, 800, 801, 802, 803, 804, 805] (by decide +kernel) (by decide +kernel)
set_option maxRecDepth 20000 in
theorem gL_law_X8_ram : GoodIn wsL_law (wsV RL 17 RX8 yX8_ram wsX8_ram) := goodIn_app (goodIn_of _ (by decide +kernel)) ggL_law_X8_ram
set_option maxRecDepth 20000 in
theorem ggL_law_X7_set : GoodIn wsL_law wsX7_set := goodIn_r _ [173, 14, 174, 175, 176, 2, 177, 15, 154, 155, 156, 149, 150, 151, 152, 153, 178, 179, 180, 17, 181, 52, 157, 158, 159, 160, 53, 755, 756, 757, 758, 759, 760, 761, 762, 763, 764, 765, 766, 767, 806, 807, 808, 809, 810, 811] (by decide +kernel) (by decide +kernel)
set_option maxRecDepth 20000 in
theorem gL_law_X7_set : GoodIn wsL_law (wsV RL 18 RX7 yX7_set wsX7_set) := goodIn_app (goodIn_of _ (by decide +kernel)) ggL_law_X7_set
set_option maxRecDepth 20000 in
theorem ggL_law_X8_set : GoodIn wsL_law wsX8_set := goodIn_r _ [185, 165, 127, 186, 187, 188, 5, 189, 166, 167, 168, 169, 190, 191, 192, 193, 768, 769, 770, 771, 772, 773, 774, 775, 776, 777, 778, 779, 780, 781, 782, 783, 784, 785, 786, 787, 788, 789, 790, 791, 792, 793, 794, 795, 796, 797, 798, 799, 800, 801, 802, 803, 804, 805] (by decide +kernel) (by decide +kernel)
set_option maxRecDepth 20000 in
theorem gL_law_X8_set : GoodIn wsL_law (wsV RL 22 RX8 yX8_set wsX8_set) := goodIn_app (goodIn_of _ (by decide +kernel)) ggL_law_X8_set
set_option maxRecDepth 20000 in
theorem ggL_law_X7_about : GoodIn wsL_law wsX7_about := goodIn_r _ [197, 14, 174, 175, 176, 2, 177, 15, 154, 155, 156, 178, 179, 180, 17, 181, 52, 755, 756, 757, 758, 759, 760, 761, 762, 763, 764, 765, 766, 767, 806, 807, 808, 809, 810, 811] (by decide +kernel) (by decide +kernel)
set_option maxRecDepth 20000 in
theorem gL_law_X7_about : GoodIn wsL_law (wsV RL 23 RX7 yX7_about wsX7_about) := goodIn_app (goodIn_of _ (by decide +kernel)) ggL_law_X7_about
set_option maxRecDepth 20000 in
theorem ggL_law_X8_about : GoodIn wsL_law wsX8_about := goodIn_r _ [201, 165, 127, 186, 187, 188, 5, 189, 166, 167, 168, 169, 768, 769, 770, 771, 772, 773, 774, 775, 776, 777, 778, 779, 780, 781, 782, 783, 784, 785, 786, 787, 788, 789, 790, 791, 792, 793, 794, 795, 796, 797, 798, 799, 800, 801, 802, 803, 804, 805] (by decide +kernel) (by decide +kernel)
set_option maxRecDepth 20000 in
theorem gL_law_X8_about : GoodIn wsL_law (wsV RL 27 RX8 yX8_about wsX8_about) := goodIn_app (goodIn_of _ (by decide +kernel)) ggL_law_X8_about
set_option maxRecDepth 20000 in
theorem ggL_law_X7_work : GoodIn wsL_law wsX7_work := goodIn_r _ [205, 46, 206, 14, 149, 150, 2, 151, 152, 153, 154, 155, 156, 174, 175, 176, 177, 15, 207, 208, 209, 17, 210, 52, 211, 212, 213, 214, 755, 756, 757, 758, 759, 760, 761, 762, 763, 764, 765, 766, 767, 806, 807, 808, 809, 810, 811] (by decide +kernel) (by decide +kernel)
set_option maxRecDepth 20000 in
theorem gL_law_X7_work : GoodIn wsL_law (wsV RL 28 RX7 yX7_work wsX7_work) := goodIn_app (goodIn_of _ (by decide +kernel)) ggL_law_X7_work
set_option maxRecDepth 20000 in
theorem ggL_law_X8_work : GoodIn wsL_law wsX8_work := goodIn_r _ [218, 165, 219, 220, 221, 167, 168, 5, 169, 186, 187, 188, 189, 166, 222, 223, 224, 225, 128, 127, 226, 227, 228, 229, 768, 769, 770, 771, 772, 773, 774, 775, 776, 777, 778, 779, 780, 781, 782, 783, 784, 785, 786, 787, 788, 789, 790, 791, 792, 793, 794, 795, 796, 797, 798, 799, 800, 801, 802, 803, 804, 805] (by decide +kernel) (by decide +kernel)
set_option maxRecDepth 20000 in
theorem gL_law_X8_work : GoodIn wsL_law (wsV RL 31 RX8 yX8_work wsX8_work) := goodIn_app (goodIn_of _ (by decide +kernel)) ggL_law_X8_work
set_option maxRecDepth 20000 in
theorem ggL_law_X7_beat : GoodIn wsL_law wsX7_beat := goodIn_r _ [233, 14, 174, 175, 176, 2, 177, 15, 154, 155, 156, 234, 235, 236, 17, 237, 54, 238, 239, 240, 241, 53, 56, 57, 52, 55, 242, 243, 244, 245, 246, 247, 248, 249, 250, 251, 252, 253, 254, 255, 256, 257, 258, 259, 260, 261, 262, 263, 264, 208, 209, 210, 211, 212, 213, 214, 265, 266, 267, 268, 755, 756, 757, 758, 759, 760, 761, 762, 763, 764, 765, 766, 767, 806, 807, 808, 809, 810, 811] (by decide +kernel) (by decide +kernel)
set_option maxRecDepth 20000 in
theorem gL_law_X7_beat : GoodIn wsL_law (wsV RL 32 RX7 yX7_beat wsX7_beat) := goodIn_app (goodIn_of _ (by decide +kernel)) ggL_law_X7_beat
set_option maxRecDepth 20000 in
theorem ggL_law_X8_beat : GoodIn wsL_law wsX8_beat := goodIn_r _ [272, 165, 273, 274, 275, 276, 277, 186, 187, 188, 5, 189, 166, 167, 168, 169, 222, 223, 224, 225, 128, 127, 278, 279, 280, 281, 282, 283, 284, 285, 226, 227, 228, 229, 768, 769, 770, 771, 772, 773, 774, 775, 776, 777, 778, 779, 780, 781, 782, 783, 784, 785, 786, 787, 788, 789, 790, 791, 792, 793, 794, 795, 796, 797, 798, 799, 800, 801, 802, 803, 804, 805] (by decide +kernel) (by decide +kernel)
set_option maxRecDepth 20000 in
theorem gL_law_X8_beat : GoodIn wsL_law (wsV RL 35 RX8 yX8_beat wsX8_beat) := goodIn_app (goodIn_of _ (by decide +kernel)) ggL_law_X8_beat
set_option maxRecDepth 20000 in
theorem ggL_law_X7_hourly : GoodIn wsL_law wsX7_hourly := goodIn_r _ [289, 14, 174, 175, 176, 2, 177, 15, 154, 155, 156, 290, 291, 292, 17, 293, 294, 295, 235, 236, 237, 54, 238, 239, 240, 241, 53, 56, 57, 52, 55, 242, 243, 244, 296, 266, 267, 268, 297, 298, 299, 300, 301, 302, 303, 304, 305, 306, 258, 259, 260, 261, 262, 263, 264, 208, 209, 210, 211, 212, 213, 214, 307, 308, 309, 310, 311, 312, 755, 756, 757, 758, 759, 760, 761, 762, 763, 764, 765, 766, 767, 806, 807, 808, 809, 810, 811] (by decide +kernel) (by decide +kernel)
set_option maxRecDepth 20000 in
theorem gL_law_X7_hourly : GoodIn wsL_law (wsV RL 36 RX7 yX7_hourly wsX7_hourly) := goodIn_app (goodIn_of _ (by decide +kernel)) ggL_law_X7_hourly
set_option maxRecDepth 20000 in
theorem ggL_law_X8_hourly : GoodIn wsL_law wsX8_hourly := goodIn_r _ [316, 165, 186, 187, 188, 5, 189, 166, 167, 168, 169, 222, 223, 224, 225, 128, 127, 317, 318, 319, 320, 277, 275, 276, 278, 279, 280, 281, 274, 273, 282, 283, 284, 285, 226, 227, 228, 229, 768, 769, 770, 771, 772, 773, 774, 775, 776, 777, 778, 779, 780, 781, 782, 783, 784, 785, 786, 787, 788, 789, 790, 791, 792, 793, 794, 795, 796, 797, 798, 799, 800, 801, 802, 803, 804, 805] (by decide +kernel) (by decide +kernel)
set_option maxRecDepth 20000 in
theorem gL_law_X8_hourly : GoodIn wsL_law (wsV RL 39 RX8 yX8_hourly wsX8_hourly) := goodIn_app (goodIn_of _ (by decide +kernel)) ggL_law_X8_hourly
set_option maxRecDepth 20000 in
theorem ggL_law_X7_spring : GoodIn wsL_law wsX7_spring := goodIn_r _ [324, 325, 22, 326, 327, 328, 2, 329, 154, 155, 156, 755, 756, 757, 758, 759, 760, 761, 762, 763, 764, 765, 766, 767, 812, 813, 814, 815] (by decide +kernel) (by decide +kernel)
set_option maxRecDepth 20000 in
theorem gL_law_X7_spring : GoodIn wsL_law (wsV RL 40 RX7 yX7_spring wsX7_spring) := goodIn_app (goodIn_of _ (by decide +kernel)) ggL_law_X7_spring
set_option maxRecDepth 20000 in
theorem ggL_law_X8_spring : GoodIn wsL_law wsX8_spring := goodIn_r _ [333, 165, 334, 129, 335, 336, 5, 337, 167, 168, 169, 768, 769, 770, 771, 772, 773, 774, 775, 776, 777, 778, 779, 780, 781, 782, 783, 784, 785, 786, 787, 788, 789, 790, 791, 792, 793, 794, 795, 796, 797, 798, 799, 800, 801, 802, 803, 804, 805] (by decide +kernel) (by decide +kernel)
set_option maxRecDepth 20000 in
theorem gL_law_X8_spring : GoodIn wsL_law (wsV RL 43 RX8 yX8_spring wsX8_spring) := goodIn_app (goodIn_of _ (by decide +kernel)) ggL_law_X8_spring
set_option maxRecDepth 20000 in
theorem ggL_law_X7_tuned : GoodIn wsL_law wsX7_tuned := goodIn_r _ [341, 18, 14, 153, 22, 326, 174, 175, 176, 2, 177, 15, 154, 155, 156, 327, 328, 329, 342, 343, 344, 17, 345, 52, 58, 59, 60, 61, 53, 157, 158, 159, 160, 234, 235, 236, 237, 54, 238, 239, 240, 241, 56, 57, 55, 242, 243, 244, 302, 303, 304, 305, 301, 291, 292, 293, 294, 295, 296, 266, 267, 268, 306, 258, 259, 260, 261, 262, 263, 264, 208, 209, 210, 211, 212, 213, 214, 297, 298, 299, 300, 346, 347, 348, 755, 756, 757, 758, 759, 760, 761, 762, 763, 764, 765, 766, 767, 812, 813, 814, 815, 806, 807, 808, 809, 810, 811] (by decide +kernel) (by decide +kernel)
set_option maxRecDepth 20000 in
theorem gL_law_X7_tuned : GoodIn wsL_law (wsV RL 44 RX7 yX7_tuned wsX7_tuned) := goodIn_app (goodIn_of _ (by decide +kernel)) ggL_law_X7_tuned
set_option maxRecDepth 20000 in
theorem ggL_law_X8_tuned : GoodIn wsL_law wsX8_tuned := goodIn_r _ [352, 165, 353, 128, 276, 277, 275, 129, 186, 187, 188, 5, 189, 166, 167, 168, 169, 335, 336, 337, 222, 223, 224, 225, 127, 278, 279, 280, 281, 274, 273, 282, 283, 284, 285, 226, 227, 228, 229, 768, 769, 770, 771, 772, 773, 774, 775, 776, 777, 778, 779, 780, 781, 782, 783, 784, 785, 786, 787, 788, 789, 790, 791, 792, 793, 794, 795, 796, 797, 798, 799, 800, 801, 802, 803, 804, 805] (by decide +kernel) (by decide +kernel)
set_option maxRecDepth 20000 in
theorem gL_law_X8_tuned : GoodIn wsL_law (wsV RL 47 RX8 yX8_tuned wsX8_tuned) := goodIn_app (goodIn_of _ (by decide +kernel)) ggL_law_X8_tuned
set_option maxRecDepth 20000 in
theorem ggL_law_X7_tune : GoodIn wsL_law wsX7_tune := goodIn_r _ [357, 26, 149, 150, 2, 151, 152, 153, 154, 155, 156, 358, 359, 360, 25, 361, 79, 77, 78, 755, 756, 757, 758, 759, 760, 761, 762, 763, 764, 765, 766, 767, 816, 817, 818, 819, 820, 821, 822] (by decide +kernel) (by decide +kernel)
set_option maxRecDepth 20000 in
theorem gL_law_X7_tune : GoodIn wsL_law (wsV RL 48 RX7 yX7_tune wsX7_tune) := goodIn_app (goodIn_of _ (by decide +kernel)) ggL_law_X7_tune
set_option maxRecDepth 20000 in
theorem ggL_law_X8_tune : GoodIn wsL_law wsX8_tune := goodIn_r _ [365, 165, 366, 131, 132, 167, 168, 5, 169, 768, 769, 770, 771, 772, 773, 774, 775, 776, 777, 778, 779, 780, 781, 782, 783, 784, 785, 786, 787, 788, 789, 790, 791, 792, 793, 794, 795, 796, 797, 798, 799, 800, 801, 802, 803, 804, 805] (by decide +kernel) (by decide +kernel)
set_option maxRecDepth 20000 in
theorem gL_law_X8_tune : GoodIn wsL_law (wsV RL 51 RX8 yX8_tune wsX8_tune) := goodIn_app (goodIn_of _ (by decide +kernel)) ggL_law_X8_tune
set_option maxRecDepth 20000 in
theorem ggL_law_X7_forget : GoodIn wsL_law wsX7_forget := goodIn_r _ [370, 26, 371, 755, 756, 757, 758, 759, 760, 761, 762, 763, 764, 765, 766, 767, 816, 817, 818, 819, 820, 821, 822] (by decide +kernel) (by decide +kernel)
set_option maxRecDepth 20000 in
theorem gL_law_X7_forget : GoodIn wsL_law (wsV RL 52 RX7 yX7_forget wsX7_forget) := goodIn_app (goodIn_of _ (by decide +kernel)) ggL_law_X7_forget
set_option maxRecDepth 20000 in
theorem ggL_law_X8_forget : GoodIn wsL_law wsX8_forget := goodIn_r _ [375, 165, 366, 768, 769, 770, 771, 772, 773, 774, 775, 776, 777, 778, 779, 780, 781, 782, 783, 784, 785, 786, 787, 788, 789, 790, 791, 792, 793, 794, 795, 796, 797, 798, 799, 800, 801, 802, 803, 804, 805] (by decide +kernel) (by decide +kernel)
set_option maxRecDepth 20000 in
theorem gL_law_X8_forget : GoodIn wsL_law (wsV RL 56 RX8 yX8_forget wsX8_forget) := goodIn_app (goodIn_of _ (by decide +kernel)) ggL_law_X8_forget
set_option maxRecDepth 20000 in
theorem ggL_law_X7_side : GoodIn wsL_law wsX7_side := goodIn_r _ [379, 15, 18, 14, 26, 22, 326, 380, 381, 327, 328, 2, 329, 154, 155, 156, 342, 343, 344, 17, 345, 52, 58, 59, 60, 61, 53, 382, 383, 384, 25, 385, 79, 77, 78, 80, 81, 386, 158, 159, 160, 387, 235, 236, 237, 54, 238, 239, 240, 241, 56, 57, 55, 242, 243, 244, 388, 308, 309, 310, 311, 298, 299, 300, 295, 301, 291, 292, 293, 294, 296, 266, 267, 268, 312, 303, 304, 305, 306, 258, 259, 260, 261, 262, 263, 264, 208, 209, 210, 211, 212, 213, 214, 389, 390, 391, 392, 393, 82, 83, 394, 395, 396, 397, 398, 399, 400, 755, 756, 757, 758, 759, 760, 761, 762, 763, 764, 765, 766, 767, 812, 813, 814, 815, 816, 817, 818, 819, 820, 821, 822, 806, 807, 808, 809, 810, 811] (by decide +kernel) (by decide +kernel)
set_option maxRecDepth 20000 in
theorem gL_law_X7_side : GoodIn wsL_law (wsV RL 57 RX7 yX7_side wsX7_side) := goodIn_app (goodIn_of _ (by decide +kernel)) ggL_law_X7_side
set_option maxRecDepth 20000 in
theorem ggL_law_X8_side : GoodIn wsL_law wsX8_side := goodIn_r _ [404, 165, 405, 166, 366, 128, 131, 132, 277, 276, 275, 129, 335, 336, 5, 337, 167, 168, 169, 406, 407, 408, 409, 222, 223, 224, 225, 127, 278, 279, 280, 281, 274, 273, 282, 283, 284, 285, 226, 227, 228, 229, 768, 769, 770, 771, 772, 773, 774, 775, 776, 777, 778, 779, 780, 781, 782, 783, 784, 785, 786, 787, 788, 789, 790, 791, 792, 793, 794, 795, 796, 797, 798, 799, 800, 801, 802, 803, 804, 805] (by decide +kernel) (by decide +kernel)
set_option maxRecDepth 20000 in
theorem gL_law_X8_side : GoodIn wsL_law (wsV RL 60 RX8 yX8_side wsX8_side) := goodIn_app (goodIn_of _ (by decide +kernel)) ggL_law_X8_side
set_option maxRecDepth 20000 in
theorem ggL_law_X7_take : GoodIn wsL_law wsX7_take := goodIn_r _ [413, 26, 15, 14, 414, 415, 416, 25, 417, 79, 394, 395, 396, 155, 2, 156, 418, 419, 420, 421, 77, 78, 386, 158, 159, 17, 160, 52, 53, 755, 756, 757, 758, 759, 760, 761, 762, 763, 764, 765, 766, 767, 816, 817, 818, 819, 820, 821, 822, 806, 807, 808, 809, 810, 811] (by decide +kernel) (by decide +kernel)
set_option maxRecDepth 20000 in
theorem gL_law_X7_take : GoodIn wsL_law (wsV RL 61 RX7 yX7_take wsX7_take) := goodIn_app (goodIn_of _ (by decide +kernel)) ggL_law_X7_take
set_option maxRecDepth 20000 in
theorem ggL_law_X8_take : GoodIn wsL_law wsX8_take := goodIn_r _ [425, 165, 166, 366, 127, 131, 132, 406, 407, 408, 5, 409, 167, 168, 169, 768, 769, 770, 771, 772, 773, 774, 775, 776, 777, 778, 779, 780, 781, 782, 783, 784, 785, 786, 787, 788, 789, 790, 791, 792, 793, 794, 795, 796, 797, 798, 799, 800, 801, 802, 803, 804, 805] (by decide +kernel) (by decide +kernel)
set_option maxRecDepth 20000 in
theorem gL_law_X8_take : GoodIn wsL_law (wsV RL 65 RX8 yX8_take wsX8_take) := goodIn_app (goodIn_of _ (by decide +kernel)) ggL_law_X8_take
set_option maxRecDepth 20000 in
theorem ggL_law_X7_frost : GoodIn wsL_law wsX7_frost := goodIn_r _ [429, 22, 430, 327, 328, 2, 329, 154, 155, 156, 755, 756, 757, 758, 759, 760, 761, 762, 763, 764, 765, 766, 767, 812, 813, 814, 815] (by decide +kernel) (by decide +kernel)
set_option maxRecDepth 20000 in
theorem gL_law_X7_frost : GoodIn wsL_law (wsV RL 66 RX7 yX7_frost wsX7_frost) := goodIn_app (goodIn_of _ (by decide +kernel)) ggL_law_X7_frost
set_option maxRecDepth 20000 in
theorem ggL_law_X8_frost : GoodIn wsL_law wsX8_frost := goodIn_r _ [434, 165, 130, 335, 336, 5, 337, 167, 168, 169, 768, 769, 770, 771, 772, 773, 774, 775, 776, 777, 778, 779, 780, 781, 782, 783, 784, 785, 786, 787, 788, 789, 790, 791, 792, 793, 794, 795, 796, 797, 798, 799, 800, 801, 802, 803, 804, 805] (by decide +kernel) (by decide +kernel)
set_option maxRecDepth 20000 in
theorem gL_law_X8_frost : GoodIn wsL_law (wsV RL 69 RX8 yX8_frost wsX8_frost) := goodIn_app (goodIn_of _ (by decide +kernel)) ggL_law_X8_frost
set_option maxRecDepth 20000 in
theorem ggL_law_X7_silence : GoodIn wsL_law wsX7_silence := goodIn_r _ [438, 22, 439, 440, 154, 155, 2, 156, 755, 756, 757, 758, 759, 760, 761, 762, 763, 764, 765, 766, 767, 812, 813, 814, 815] (by decide +kernel) (by decide +kernel)
set_option maxRecDepth 20000 in
theorem gL_law_X7_silence : GoodIn wsL_law (wsV RL 70 RX7 yX7_silence wsX7_silence) := goodIn_app (goodIn_of _ (by decide +kernel)) ggL_law_X7_silence
set_option maxRecDepth 20000 in
theorem ggL_law_X8_silence : GoodIn wsL_law wsX8_silence := goodIn_r _ [444, 165, 445, 446, 167, 168, 5, 169, 768, 769, 770, 771, 772, 773, 774, 775, 776, 777, 778, 779, 780, 781, 782, 783, 784, 785, 786, 787, 788, 789, 790, 791, 792, 793, 794, 795, 796, 797, 798, 799, 800, 801, 802, 803, 804, 805] (by decide +kernel) (by decide +kernel)
set_option maxRecDepth 20000 in
theorem gL_law_X8_silence : GoodIn wsL_law (wsV RL 73 RX8 yX8_silence wsX8_silence) := goodIn_app (goodIn_of _ (by decide +kernel)) ggL_law_X8_silence
set_option maxRecDepth 20000 in
theorem ggL_law_X7_tank : GoodIn wsL_law wsX7_tank := goodIn_r _ [450, 34, 451, 452, 453, 33, 454, 455, 100, 99, 155, 2, 156, 456, 457, 458, 459, 755, 756, 757, 758, 759, 760, 761, 762, 763, 764, 765, 766, 767, 830, 831, 832, 833, 834, 835, 836, 837] (by decide +kernel) (by decide +kernel)
set_option maxRecDepth 20000 in
theorem gL_law_X7_tank : GoodIn wsL_law (wsV RL 74 RX7 yX7_tank wsX7_tank) := goodIn_app (goodIn_of _ (by decide +kernel)) ggL_law_X7_tank
set_option maxRecDepth 20000 in
theorem ggL_law_X8_tank : GoodIn wsL_law wsX8_tank := goodIn_r _ [463, 165, 334, 134, 464, 167, 168, 5, 169, 768, 769, 770, 771, 772, 773, 774, 775, 776, 777, 778, 779, 780, 781, 782, 783, 784, 785, 786, 787, 788, 789, 790, 791, 792, 793, 794, 795, 796, 797, 798, 799, 800, 801, 802, 803, 804, 805] (by decide +kernel) (by decide +kernel)
set_option maxRecDepth 20000 in
theorem gL_law_X8_tank : GoodIn wsL_law (wsV RL 77 RX8 yX8_tank wsX8_tank) := goodIn_app (goodIn_of _ (by decide +kernel)) ggL_law_X8_tank
set_option maxRecDepth 20000 in
theorem ggL_law_X7_type : GoodIn wsL_law wsX7_type := goodIn_r _ [468, 30, 154, 155, 2, 156, 469, 470, 471, 29, 472, 89, 88, 755, 756, 757, 758, 759, 760, 761, 762, 763, 764, 765, 766, 767, 823, 824, 825, 826, 827, 828, 829] (by decide +kernel) (by decide +kernel)
set_option maxRecDepth 20000 in
theorem gL_law_X7_type : GoodIn wsL_law (wsV RL 80 RX7 yX7_type wsX7_type) := goodIn_app (goodIn_of _ (by decide +kernel)) ggL_law_X7_type
set_option maxRecDepth 20000 in
theorem ggL_law_X8_type : GoodIn wsL_law wsX8_type := goodIn_r _ [476, 165, 477, 135, 478, 167, 168, 5, 169, 768, 769, 770, 771, 772, 773, 774, 775, 776, 777, 778, 779, 780, 781, 782, 783, 784, 785, 786, 787, 788, 789, 790, 791, 792, 793, 794, 795, 796, 797, 798, 799, 800, 801, 802, 803, 804, 805] (by decide +kernel) (by decide +kernel)
set_option maxRecDepth 20000 in
theorem gL_law_X8_type : GoodIn wsL_law (wsV RL 84 RX8 yX8_type wsX8_type) := goodIn_app (goodIn_of _ (by decide +kernel)) ggL_law_X8_type
set_option maxRecDepth 20000 in
theorem ggL_law_X7_clear : GoodIn wsL_law wsX7_clear := goodIn_r _ [482, 30, 483, 755, 756, 757, 758, 759, 760, 761, 762, 763, 764, 765, 766, 767, 823, 824, 825, 826, 827, 828, 829] (by decide +kernel) (by decide +kernel)
set_option maxRecDepth 20000 in
theorem gL_law_X7_clear : GoodIn wsL_law (wsV RL 85 RX7 yX7_clear wsX7_clear) := goodIn_app (goodIn_of _ (by decide +kernel)) ggL_law_X7_clear
set_option maxRecDepth 20000 in
theorem ggL_law_X8_clear : GoodIn wsL_law wsX8_clear := goodIn_r _ [487, 165, 477, 768, 769, 770, 771, 772, 773, 774, 775, 776, 777, 778, 779, 780, 781, 782, 783, 784, 785, 786, 787, 788, 789, 790, 791, 792, 793, 794, 795, 796, 797, 798, 799, 800, 801, 802, 803, 804, 805] (by decide +kernel) (by decide +kernel)
set_option maxRecDepth 20000 in
theorem gL_law_X8_clear : GoodIn wsL_law (wsV RL 88 RX8 yX8_clear wsX8_clear) := goodIn_app (goodIn_of _ (by decide +kernel)) ggL_law_X8_clear
set_option maxRecDepth 20000 in
theorem ggL_law_X7_rights : GoodIn wsL_law wsX7_rights := goodIn_r _ [491, 30, 492, 493, 494, 29, 495, 92, 93, 94, 89, 91, 496, 59, 60, 61, 90, 497, 71, 72, 73, 498, 499, 500, 501, 502, 503, 504, 505, 88, 506, 507, 508, 509, 510, 511, 512, 513, 755, 756, 757, 758, 759, 760, 761, 762, 763, 764, 765, 766, 767, 823, 824, 825, 826, 827, 828, 829] (by decide +kernel) (by decide +kernel)
set_option maxRecDepth 20000 in
theorem gL_law_X7_rights : GoodIn wsL_law (wsV RL 89 RX7 yX7_rights wsX7_rights) := goodIn_app (goodIn_of _ (by decide +kernel)) ggL_law_X7_rights
set_option maxRecDepth 20000 in
theorem ggL_law_X8_rights : GoodIn wsL_law wsX8_rights := goodIn_r _ [517, 165, 518, 477, 519, 136, 137, 520, 521, 522, 523, 5, 524, 525, 526, 527, 528, 529, 530, 531, 532, 533, 135, 167, 168, 169, 534, 535, 536, 537, 768, 769, 770, 771, 772, 773, 774, 775, 776, 777, 778, 779, 780, 781, 782, 783, 784, 785, 786, 787, 788, 789, 790, 791, 792, 793, 794, 795, 796, 797, 798, 799, 800, 801, 802, 803, 804, 805] (by decide +kernel) (by decide +kernel)
set_option maxRecDepth 20000 in
theorem gL_law_X8_rights : GoodIn wsL_law (wsV RL 92 RX8 yX8_rights wsX8_rights) := goodIn_app (goodIn_of _ (by decide +kernel)) ggL_law_X8_rights
set_option maxRecDepth 20000 in
theorem ggL_law_X7_right : GoodIn wsL_law wsX7_right := goodIn_r _ [541, 30, 154, 155, 2, 156, 542, 543, 544, 29, 545, 91, 755, 756, 757, 758, 759, 760, 761, 762, 763, 764, 765, 766, 767, 823, 824, 825, 826, 827, 828, 829] (by decide +kernel) (by decide +kernel)
set_option maxRecDepth 20000 in
theorem gL_law_X7_right : GoodIn wsL_law (wsV RL 93 RX7 yX7_right wsX7_right) := goodIn_app (goodIn_of _ (by decide +kernel)) ggL_law_X7_right
set_option maxRecDepth 20000 in
theorem ggL_law_X8_right : GoodIn wsL_law wsX8_right := goodIn_r _ [549, 165, 167, 168, 5, 169, 550, 551, 552, 553, 520, 136, 768, 769, 770, 771, 772, 773, 774, 775, 776, 777, 778, 779, 780, 781, 782, 783, 784, 785, 786, 787, 788, 789, 790, 791, 792, 793, 794, 795, 796, 797, 798, 799, 800, 801, 802, 803, 804, 805] (by decide +kernel) (by decide +kernel)
set_option maxRecDepth 20000 in
theorem gL_law_X8_right : GoodIn wsL_law (wsV RL 96 RX8 yX8_right wsX8_right) := goodIn_app (goodIn_of _ (by decide +kernel)) ggL_law_X8_right
set_option maxRecDepth 20000 in
theorem ggL_law_X7_hours : GoodIn wsL_law wsX7_hours := goodIn_r _ [557, 34, 558, 30, 45, 154, 155, 2, 156, 559, 560, 561, 562, 22, 326, 43, 15, 14, 178, 179, 180, 17, 181, 52, 563, 564, 565, 21, 566, 68, 69, 67, 567, 302, 303, 304, 305, 301, 291, 292, 293, 294, 295, 235, 236, 237, 54, 238, 239, 240, 241, 53, 56, 57, 55, 242, 243, 244, 296, 266, 267, 268, 306, 258, 259, 260, 261, 262, 263, 264, 208, 209, 210, 211, 212, 213, 214, 297, 298, 299, 300, 568, 569, 570, 33, 571, 100, 101, 102, 572, 573, 574, 575, 576, 577, 578, 579, 158, 159, 160, 580, 581, 582, 583, 99, 584, 103, 542, 543, 544, 29, 545, 91, 585, 586, 587, 588, 589, 104, 105, 107, 590, 591, 592, 593, 44, 755, 756, 757, 758, 759, 760, 761, 762, 763, 764, 765, 766, 767, 830, 831, 832, 833, 834, 835, 836, 837, 812, 813, 814, 815, 806, 807, 808, 809, 810, 811, 823, 824, 825, 826, 827, 828, 829] (by decide +kernel) (by decide +kernel)
set_option maxRecDepth 20000 in
theorem gL_law_X7_hours : GoodIn wsL_law (wsV RL 97 RX7 yX7_hours wsX7_hours) := goodIn_app (goodIn_of _ (by decide +kernel)) ggL_law_X7_hours
set_option maxRecDepth 20000 in
theorem ggL_law_X8_hours : GoodIn wsL_law wsX8_hours := goodIn_r _ [597, 165, 167, 168, 5, 169, 598, 599, 600, 601, 129, 602, 603, 445, 446, 166, 128, 130, 273, 138, 464, 134, 127, 604, 222, 223, 224, 225, 317, 318, 319, 320, 277, 275, 276, 278, 279, 280, 281, 274, 282, 283, 284, 285, 226, 227, 228, 229, 550, 551, 552, 553, 520, 136, 768, 769, 770, 771, 772, 773, 774, 775, 776, 777, 778, 779, 780, 781, 782, 783, 784, 785, 786, 787, 788, 789, 790, 791, 792, 793, 794, 795, 796, 797, 798, 799, 800, 801, 802, 803, 804, 805] (by decide +kernel) (by decide +kernel)
set_option maxRecDepth 20000 in
theorem gL_law_X8_hours : GoodIn wsL_law (wsV RL 100 RX8 yX8_hours wsX8_hours) := goodIn_app (goodIn_of _ (by decide +kernel)) ggL_law_X8_hours
set_option maxRecDepth 20000 in
theorem ggL_law_X7_book : GoodIn wsL_law wsX7_book := goodIn_r _ [608, 34, 609, 610, 611, 612, 558, 613, 614, 615, 154, 155, 2, 156, 755, 756, 757, 758, 759, 760, 761, 762, 763, 764, 765, 766, 767, 830, 831, 832, 833, 834, 835, 836, 837] (by decide +kernel) (by decide +kernel)
set_option maxRecDepth 20000 in
theorem gL_law_X7_book : GoodIn wsL_law (wsV RL 101 RX7 yX7_book wsX7_book) := goodIn_app (goodIn_of _ (by decide +kernel)) ggL_law_X7_book
set_option maxRecDepth 20000 in
theorem ggL_law_X8_book : GoodIn wsL_law wsX8_book := goodIn_r _ [619, 165, 405, 464, 138, 167, 168, 5, 169, 768, 769, 770, 771, 772, 773, 774, 775, 776, 777, 778, 779, 780, 781, 782, 783, 784, 785, 786, 787, 788, 789, 790, 791, 792, 793, 794, 795, 796, 797, 798, 799, 800, 801, 802, 803, 804, 805] (by decide +kernel) (by decide +kernel)
set_option maxRecDepth 20000 in
theorem gL_law_X8_book : GoodIn wsL_law (wsV RL 105 RX8 yX8_book wsX8_book) := goodIn_app (goodIn_of _ (by decide +kernel)) ggL_law_X8_book
set_option maxRecDepth 20000 in
theorem ggL_law_X7_read : GoodIn wsL_law wsX7_read := goodIn_r _ [623, 38, 624, 625, 2, 626, 325, 154, 155, 156, 174, 175, 176, 177, 15, 627, 628, 629, 37, 630, 114, 111, 112, 113, 755, 756, 757, 758, 759, 760, 761, 762, 763, 764, 765, 766, 767, 838, 839, 840, 841, 842, 843] (by decide +kernel) (by decide +kernel)
set_option maxRecDepth 20000 in
theorem gL_law_X7_read : GoodIn wsL_law (wsV RL 106 RX7 yX7_read wsX7_read) := goodIn_app (goodIn_of _ (by decide +kernel)) ggL_law_X7_read
set_option maxRecDepth 20000 in
theorem ggL_law_X8_read : GoodIn wsL_law wsX8_read := goodIn_r _ [634, 165, 635, 139, 140, 141, 186, 187, 188, 5, 189, 166, 167, 168, 169, 636, 637, 638, 334, 768, 769, 770, 771, 772, 773, 774, 775, 776, 777, 778, 779, 780, 781, 782, 783, 784, 785, 786, 787, 788, 789, 790, 791, 792, 793, 794, 795, 796, 797, 798, 799, 800, 801, 802, 803, 804, 805] (by decide +kernel) (by decide +kernel)
set_option maxRecDepth 20000 in
theorem gL_law_X8_read : GoodIn wsL_law (wsV RL 109 RX8 yX8_read wsX8_read) := goodIn_app (goodIn_of _ (by decide +kernel)) ggL_law_X8_read
set_option maxRecDepth 20000 in
theorem ggL_law_X7_wipe : GoodIn wsL_law wsX7_wipe := goodIn_r _ [642, 38, 643, 755, 756, 757, 758, 759, 760, 761, 762, 763, 764, 765, 766, 767, 838, 839, 840, 841, 842, 843] (by decide +kernel) (by decide +kernel)
set_option maxRecDepth 20000 in
theorem gL_law_X7_wipe : GoodIn wsL_law (wsV RL 110 RX7 yX7_wipe wsX7_wipe) := goodIn_app (goodIn_of _ (by decide +kernel)) ggL_law_X7_wipe
set_option maxRecDepth 20000 in
theorem ggL_law_X8_wipe : GoodIn wsL_law wsX8_wipe := goodIn_r _ [647, 165, 635, 768, 769, 770, 771, 772, 773, 774, 775, 776, 777, 778, 779, 780, 781, 782, 783, 784, 785, 786, 787, 788, 789, 790, 791, 792, 793, 794, 795, 796, 797, 798, 799, 800, 801, 802, 803, 804, 805] (by decide +kernel) (by decide +kernel)
set_option maxRecDepth 20000 in
theorem gL_law_X8_wipe : GoodIn wsL_law (wsV RL 113 RX8 yX8_wipe wsX8_wipe) := goodIn_app (goodIn_of _ (by decide +kernel)) ggL_law_X8_wipe
set_option maxRecDepth 20000 in
theorem ggL_law_X7_tolerance : GoodIn wsL_law wsX7_tolerance := goodIn_r _ [651, 38, 652, 653, 154, 155, 2, 156, 755, 756, 757, 758, 759, 760, 761, 762, 763, 764, 765, 766, 767, 838, 839, 840, 841, 842, 843] (by decide +kernel) (by decide +kernel)
set_option maxRecDepth 20000 in
theorem gL_law_X7_tolerance : GoodIn wsL_law (wsV RL 114 RX7 yX7_tolerance wsX7_tolerance) := goodIn_app (goodIn_of _ (by decide +kernel)) ggL_law_X7_tolerance
set_option maxRecDepth 20000 in
theorem ggL_law_X8_tolerance : GoodIn wsL_law wsX8_tolerance := goodIn_r _ [657, 165, 142, 143, 167, 168, 5, 169, 768, 769, 770, 771, 772, 773, 774, 775, 776, 777, 778, 779, 780, 781, 782, 783, 784, 785, 786, 787, 788, 789, 790, 791, 792, 793, 794, 795, 796, 797, 798, 799, 800, 801, 802, 803, 804, 805] (by decide +kernel) (by decide +kernel)
set_option maxRecDepth 20000 in
theorem gL_law_X8_tolerance : GoodIn wsL_law (wsV RL 117 RX8 yX8_tolerance wsX8_tolerance) := goodIn_app (goodIn_of _ (by decide +kernel)) ggL_law_X8_tolerance
set_option maxRecDepth 20000 in
theorem ggL_law_X7_fits : GoodIn wsL_law wsX7_fits := goodIn_r _ [661, 18, 14, 38, 174, 175, 176, 2, 177, 15, 154, 155, 156, 342, 343, 344, 17, 345, 52, 58, 59, 60, 61, 53, 662, 663, 664, 665, 579, 158, 159, 160, 666, 667, 668, 37, 669, 114, 111, 670, 291, 292, 293, 294, 295, 235, 236, 237, 54, 238, 239, 240, 241, 56, 57, 55, 242, 243, 244, 296, 266, 267, 268, 671, 303, 304, 305, 301, 306, 258, 259, 260, 261, 262, 263, 264, 208, 209, 210, 211, 212, 213, 214, 672, 673, 674, 675, 112, 676, 677, 678, 115, 679, 680, 681, 682, 113, 116, 755, 756, 757, 758, 759, 760, 761, 762, 763, 764, 765, 766, 767, 806, 807, 808, 809, 810, 811, 838, 839, 840, 841, 842, 843] (by decide +kernel) (by decide +kernel)
set_option maxRecDepth 20000 in
theorem gL_law_X7_fits : GoodIn wsL_law (wsV RL 118 RX7 yX7_fits wsX7_fits) := goodIn_app (goodIn_of _ (by decide +kernel)) ggL_law_X7_fits
set_option maxRecDepth 20000 in
theorem ggL_law_X8_fits : GoodIn wsL_law wsX8_fits := goodIn_r _ [686, 165, 186, 187, 188, 5, 189, 166, 167, 168, 169, 687, 688, 689, 690, 128, 635, 139, 140, 142, 141, 143, 282, 222, 223, 224, 225, 127, 691, 692, 693, 317, 318, 319, 320, 277, 275, 276, 278, 279, 280, 281, 274, 273, 283, 284, 285, 226, 227, 228, 229, 768, 769, 770, 771, 772, 773, 774, 775, 776, 777, 778, 779, 780, 781, 782, 783, 784, 785, 786, 787, 788, 789, 790, 791, 792, 793, 794, 795, 796, 797, 798, 799, 800, 801, 802, 803, 804, 805] (by decide +kernel) (by decide +kernel)
set_option maxRecDepth 20000 in
theorem gL_law_X8_fits : GoodIn wsL_law (wsV RL 121 RX8 yX8_fits wsX8_fits) := goodIn_app (goodIn_of _ (by decide +kernel)) ggL_law_X8_fits
set_option maxRecDepth 20000 in
theorem ggL_law_X7_ails : GoodIn wsL_law wsX7_ails := goodIn_r _ [697, 42, 698, 699, 174, 175, 176, 2, 177, 15, 154, 155, 156, 700, 701, 702, 703, 18, 14, 38, 704, 705, 706, 41, 707, 120, 121, 122, 708, 71, 72, 73, 342, 343, 344, 17, 345, 52, 58, 59, 60, 61, 53, 662, 663, 664, 665, 579, 158, 159, 160, 666, 667, 668, 37, 669, 114, 111, 670, 291, 292, 293, 294, 295, 235, 236, 237, 54, 238, 239, 240, 241, 56, 57, 55, 242, 243, 244, 296, 266, 267, 268, 671, 303, 304, 305, 301, 306, 258, 259, 260, 261, 262, 263, 264, 208, 209, 210, 211, 212, 213, 214, 672, 673, 674, 675, 112, 676, 677, 678, 115, 679, 680, 681, 682, 113, 116, 709, 710, 711, 712, 713, 714, 715, 716, 717, 718, 719, 720, 721, 577, 578, 755, 756, 757, 758, 759, 760, 761, 762, 763, 764, 765, 766, 767, 844, 845, 846, 806, 807, 808, 809, 810, 811, 838, 839, 840, 841, 842, 843] (by decide +kernel) (by decide +kernel)
set_option maxRecDepth 20000 in
theorem gL_law_X7_ails : GoodIn wsL_law (wsV RL 122 RX7 yX7_ails wsX7_ails) := goodIn_app (goodIn_of _ (by decide +kernel)) ggL_law_X7_ails
set_option maxRecDepth 20000 in
theorem ggL_law_X8_ails : GoodIn wsL_law wsX8_ails := goodIn_r _ [725, 165, 144, 186, 187, 188, 5, 189, 166, 167, 168, 169, 687, 688, 689, 690, 128, 635, 139, 140, 142, 141, 143, 282, 222, 223, 224, 225, 127, 691, 692, 693, 317, 318, 319, 320, 277, 275, 276, 278, 279, 280, 281, 274, 273, 283, 284, 285, 226, 227, 228, 229, 768, 769, 770, 771, 772, 773, 774, 775, 776, 777, 778, 779, 780, 781, 782, 783, 784, 785, 786, 787, 788, 789, 790, 791, 792, 793, 794, 795, 796, 797, 798, 799, 800, 801, 802, 803, 804, 805] (by decide +kernel) (by decide +kernel)
set_option maxRecDepth 20000 in
theorem gL_law_X8_ails : GoodIn wsL_law (wsV RL 125 RX8 yX8_ails wsX8_ails) := goodIn_app (goodIn_of _ (by decide +kernel)) ggL_law_X8_ails
set_option maxRecDepth 20000 in
theorem ggL_law_X7_sure : GoodIn wsL_law wsX7_sure := goodIn_r _ [729, 42, 174, 175, 176, 2, 177, 15, 154, 155, 156, 700, 701, 702, 703, 18, 14, 38, 704, 705, 706, 41, 707, 120, 121, 122, 708, 71, 72, 73, 342, 343, 344, 17, 345, 52, 58, 59, 60, 61, 53, 662, 663, 664, 665, 579, 158, 159, 160, 666, 667, 668, 37, 669, 114, 111, 670, 291, 292, 293, 294, 295, 235, 236, 237, 54, 238, 239, 240, 241, 56, 57, 55, 242, 243, 244, 296, 266, 267, 268, 671, 303, 304, 305, 301, 306, 258, 259, 260, 261, 262, 263, 264, 208, 209, 210, 211, 212, 213, 214, 672, 673, 674, 675, 112, 676, 677, 678, 115, 679, 680, 681, 682, 113, 116, 709, 710, 711, 712, 730, 731, 732, 733, 755, 756, 757, 758, 759, 760, 761, 762, 763, 764, 765, 766, 767, 844, 845, 846, 806, 807, 808, 809, 810, 811, 838, 839, 840, 841, 842, 843] (by decide +kernel) (by decide +kernel)
set_option maxRecDepth 20000 in
theorem gL_law_X7_sure : GoodIn wsL_law (wsV RL 126 RX7 yX7_sure wsX7_sure) := goodIn_app (goodIn_of _ (by decide +kernel)) ggL_law_X7_sure
set_option maxRecDepth 20000 in
theorem ggL_law_X8_sure : GoodIn wsL_law wsX8_sure := goodIn_r _ [737, 165, 186, 187, 188, 5, 189, 166, 167, 168, 169, 687, 688, 689, 690, 128, 635, 139, 140, 142, 141, 143, 282, 222, 223, 224, 225, 127, 691, 692, 693, 317, 318, 319, 320, 277, 275, 276, 278, 279, 280, 281, 274, 273, 283, 284, 285, 226, 227, 228, 229, 768, 769, 770, 771, 772, 773, 774, 775, 776, 777, 778, 779, 780, 781, 782, 783, 784, 785, 786, 787, 788, 789, 790, 791, 792, 793, 794, 795, 796, 797, 798, 799, 800, 801, 802, 803, 804, 805] (by decide +kernel) (by decide +kernel)
set_option maxRecDepth 20000 in
theorem gL_law_X8_sure : GoodIn wsL_law (wsV RL 129 RX8 yX8_sure wsX8_sure) := goodIn_app (goodIn_of _ (by decide +kernel)) ggL_law_X8_sure
set_option maxRecDepth 20000 in
theorem ggL_law_X7_count : GoodIn wsL_law wsX7_count := goodIn_r _ [741, 15, 26, 371, 30, 742, 38, 643, 43, 44, 45, 483, 755, 756, 757, 758, 759, 760, 761, 762, 763, 764, 765, 766, 767, 816, 817, 818, 819, 820, 821, 822, 823, 824, 825, 826, 827, 828, 829, 838, 839, 840, 841, 842, 843] (by decide +kernel) (by decide +kernel)
set_option maxRecDepth 20000 in
theorem gL_law_X7_count : GoodIn wsL_law (wsV RL 130 RX7 yX7_count wsX7_count) := goodIn_app (goodIn_of _ (by decide +kernel)) ggL_law_X7_count
set_option maxRecDepth 20000 in
theorem ggL_law_X8_count : GoodIn wsL_law wsX8_count := goodIn_r _ [746, 165, 166, 366, 520, 635, 602, 604, 603, 477, 768, 769, 770, 771, 772, 773, 774, 775, 776, 777, 778, 779, 780, 781, 782, 783, 784, 785, 786, 787, 788, 789, 790, 791, 792, 793, 794, 795, 796, 797, 798, 799, 800, 801, 802, 803, 804, 805] (by decide +kernel) (by decide +kernel)
set_option maxRecDepth 20000 in
theorem gL_law_X8_count : GoodIn wsL_law (wsV RL 133 RX8 yX8_count wsX8_count) := goodIn_app (goodIn_of _ (by decide +kernel)) ggL_law_X8_count
set_option maxRecDepth 20000 in
theorem ggL_law_X7_trace : GoodIn wsL_law wsX7_trace := goodIn_r _ [750, 46, 755, 756, 757, 758, 759, 760, 761, 762, 763, 764, 765, 766, 767] (by decide +kernel) (by decide +kernel)
set_option maxRecDepth 20000 in
theorem gL_law_X7_trace : GoodIn wsL_law (wsV RL 134 RX7 yX7_trace wsX7_trace) := goodIn_app (goodIn_of _ (by decide +kernel)) ggL_law_X7_trace
set_option maxRecDepth 20000 in
theorem ggL_law_X8_trace : GoodIn wsL_law wsX8_trace := goodIn_r _ [754, 165, 219, 768, 769, 770, 771, 772, 773, 774, 775, 776, 777, 778, 779, 780, 781, 782, 783, 784, 785, 786, 787, 788, 789, 790, 791, 792, 793, 794, 795, 796, 797, 798, 799, 800, 801, 802, 803, 804, 805] (by decide +kernel) (by decide +kernel)
set_option maxRecDepth 20000 in
theorem gL_law_X8_trace : GoodIn wsL_law (wsV RL 138 RX8 yX8_trace wsX8_trace) := goodIn_app (goodIn_of _ (by decide +kernel)) ggL_law_X8_trace
end
section
/-! the memory as two tables, the judgement V, contracts CON -/
abbrev MI : Type := Nat → Nat → Int32
abbrev MJ : Type := Nat → Nat → Int64
def w2 (I : MI) (c k : Nat) (x : Int32) : MI := fun c' => if c' = c then upd (I c) k x else I c'
def w2J (J : MJ) (c k : Nat) (x : Int64) : MJ := fun c' => if c' = c then vp_updL (J c) k x else J c'
abbrev GG : Type := (Nat → Nat) × (Nat → ClassId)
abbrev tg (g : GG) : List (ClassId × FieldType) := [(g.2 0, .byte), (g.2 1, .int), (g.2 2, .long), (g.2 3, .object RX1)]
def sLST (j : Nat) : Int32 := ([5, 6, 20, 1, 5, 1, 0, 0, 0, 0, 0, 0, 0] : List Int32).getD j 0
def sMST (j : Nat) : Int32 := ([200, 1000, 900, 9, 400, 9, 100, 3, 3, 3, 2, 1, 1] : List Int32).getD j 0
def sTRC (j : Nat) : Int32 := ([1, 11, 111] : List Int32).getD j 0
def sAIR (j : Nat) : Int32 := ([100, 60, 20, 0] : List Int32).getD j 0
/-- the class's static arrays: where they are, what they hold, outside A -/
def Stt (g : GG) (A : Nat → Prop) (U : State) : Prop :=
  (va_Z RX7 "LEAST" "[I" (.ref (g.1 100)) A U U.heap ∧ va_T .int (g.1 100) 13 (fun j => .int (sLST j)) A U U.heap) ∧
  (va_Z RX7 "MOST" "[I" (.ref (g.1 101)) A U U.heap ∧ va_T .int (g.1 101) 13 (fun j => .int (sMST j)) A U U.heap) ∧
  (va_Z RX7 "TRACE_OF_KIND" "[I" (.ref (g.1 102)) A U U.heap ∧ va_T .int (g.1 102) 3 (fun j => .int (sTRC j)) A U U.heap) ∧
  (va_Z RX7 "AIR_OF_PLACE" "[I" (.ref (g.1 103)) A U U.heap ∧ va_T .int (g.1 103) 4 (fun j => .int (sAIR j)) A U U.heap)
theorem Stt1 {C n d : String} {t N : Nat} {f : Nat → Value} {A B : Nat → Prop} {s U : State} {H : Heap} {locs : List Loc} (h : va_Z C n d (.ref t) A s s.heap ∧ va_T .int t N f A s s.heap) (hS : va_S A s.heap H locs) (hvm : s.vm.Alike U.vm) (hU : U.heap = H) (hAB : ∀ q, B q → A q) : va_Z C n d (.ref t) B U U.heap ∧ va_T .int t N f B U U.heap := by
  rw [hU]
  exact ⟨((h.1.kept (H1 := H) hS.2.1).moved hvm).narrow hAB, ((h.2.kept (H1 := H) hS.2.1).moved hvm).narrow hAB⟩
theorem Stt.go {g : GG} {A B : Nat → Prop} {s U : State} {H : Heap} {locs : List Loc} (h : Stt g A s) (hS : va_S A s.heap H locs) (hvm : s.vm.Alike U.vm) (hU : U.heap = H) (hAB : ∀ q, B q → A q) : Stt g B U :=
  ⟨Stt1 h.1 hS hvm hU hAB, Stt1 h.2.1 hS hvm hU hAB, Stt1 h.2.2.1 hS hvm hU hAB, Stt1 h.2.2.2 hS hvm hU hAB⟩

/-- the links between nest mates -/
def Nst (U : State) : Prop := va_Nw (.methodLinkNest RX7 33 yX6_init RX7) U ∧ va_Nw (.methodLinkNest RX7 40 yX3_init RX7) U ∧ va_Nw (.methodLinkNest RX7 47 yX5_init RX7) U ∧ va_Nw (.methodLinkNest RX7 54 yX2_init RX7) U ∧ va_Nw (.methodLinkNest RX7 61 yX0_init RX7) U ∧ va_Nw (.methodLinkNest RX1 41 yX7_within RX7) U ∧ va_Nw (.methodLinkNest RX5 40 yX7_within RX7) U ∧ va_Nw (.methodLinkNest RX6 59 yX7_within RX7) U ∧ va_Nw (.fieldLinkNest RX1 32 RX7 "LEAST" "[I" RX7) U ∧ va_Nw (.fieldLinkNest RX1 49 RX7 "AIR_OF_PLACE" "[I" RX7) U ∧ va_Nw (.fieldLinkNest RX1 100 RX7 "MOST" "[I" RX7) U
theorem Nst.warm {s U : State} (hW : s.WarmedH U.vm) (h : Nst s) : Nst U := ⟨va_Nw.warmM hW (h.1), va_Nw.warmM hW (h.2.1), va_Nw.warmM hW (h.2.2.1), va_Nw.warmM hW (h.2.2.2.1), va_Nw.warmM hW (h.2.2.2.2.1), va_Nw.warmM hW (h.2.2.2.2.2.1), va_Nw.warmM hW (h.2.2.2.2.2.2.1), va_Nw.warmM hW (h.2.2.2.2.2.2.2.1), va_Nw.warmF hW (h.2.2.2.2.2.2.2.2.1), va_Nw.warmF hW (h.2.2.2.2.2.2.2.2.2.1), va_Nw.warmF hW (h.2.2.2.2.2.2.2.2.2.2)⟩
theorem Nst.same {s U : State} (e : s.vm = U.vm) (h : Nst s) : Nst U := ⟨va_Nw.same rfl e (h.1), va_Nw.same rfl e (h.2.1), va_Nw.same rfl e (h.2.2.1), va_Nw.same rfl e (h.2.2.2.1), va_Nw.same rfl e (h.2.2.2.2.1), va_Nw.same rfl e (h.2.2.2.2.2.1), va_Nw.same rfl e (h.2.2.2.2.2.2.1), va_Nw.same rfl e (h.2.2.2.2.2.2.2.1), va_Nw.same rfl e (h.2.2.2.2.2.2.2.2.1), va_Nw.same rfl e (h.2.2.2.2.2.2.2.2.2.1), va_Nw.same rfl e (h.2.2.2.2.2.2.2.2.2.2)⟩
/-- a walk's fixed things: program, launch, env, room, state, method, args, below, meth, code, goal, free cells, tables, locals, cells, slots -/
abbrev CT : Type := Program × Launch × Env × Room × State × MethodId × Array Value × List Frame × Method × Code × (State → Prop) × (Nat → Prop) × va_G × Nat × Nat × Nat
abbrev kp (k : CT) : Program := k.1
abbrev kl (k : CT) : Launch := k.2.1
abbrev ke (k : CT) : Env := k.2.2.1
abbrev kR (k : CT) : Room := k.2.2.2.1
abbrev ks (k : CT) : State := k.2.2.2.2.1
abbrev km (k : CT) : MethodId := k.2.2.2.2.2.1
abbrev ka (k : CT) : Array Value := k.2.2.2.2.2.2.1
abbrev kb (k : CT) : List Frame := k.2.2.2.2.2.2.2.1
abbrev kM (k : CT) : Method := k.2.2.2.2.2.2.2.2.1
abbrev kc (k : CT) : Code := k.2.2.2.2.2.2.2.2.2.1
abbrev kQ (k : CT) : State → Prop := k.2.2.2.2.2.2.2.2.2.2.1
abbrev kA (k : CT) : Nat → Prop := k.2.2.2.2.2.2.2.2.2.2.2.1
abbrev kD (k : CT) : va_G := k.2.2.2.2.2.2.2.2.2.2.2.2.1
abbrev kn (k : CT) : Nat := k.2.2.2.2.2.2.2.2.2.2.2.2.2.1
abbrev kx (k : CT) : Nat := k.2.2.2.2.2.2.2.2.2.2.2.2.2.2.1
abbrev ky (k : CT) : Nat := k.2.2.2.2.2.2.2.2.2.2.2.2.2.2.2
def V (k : CT) (ws : va_W) (pc : Nat) (lv : List (Nat × Value)) (st : List Value) : Prop := ∀ (ls : Array Slot) (H : Heap) (locs : List Loc), lv_has ls (kn k) lv → va_P (kD k) vwCl ws H → va_D (kA k) ws → va_S (kA k) (ks k).heap H locs → W (kp k) (kl k) (ke k) (kR k) (ks k) (km k) (ka k) (kb k) (kM k) (kc k) H locs (kx k) (ky k) (kQ k) (F0 (km k) pc ls st)
def CX (k : CT) (cc : ByteArray) (nL : Nat) (own : String) (Ts : List Cond) (R : Room) (g : GG) : Prop := (kp k).tables.exec = Jvm.exec ∧ (kc k).code = cc ∧ (kc k).maxLocals = kn k ∧ kn k = nL ∧ (ks k).vm.findClass own = some (km k).cls ∧ (∀ w ∈ Ts, w.before (ka k) (ks k) = true) ∧ va_K (kD k) vwCl (tg g) (ks k) ∧ (∀ q, (ks k).heap.size ≤ q → kA k q) ∧ Stt g (kA k) (ks k) ∧ Nst (ks k) ∧ kR k = R ∧ kx k ≤ R.cells ∧ ky k ≤ R.slots
section ROWS
variable {k : CT} {cc : ByteArray} {nL : Nat} {own : String} {Ts : List Cond} {R : Room} {g : GG} {ws : va_W} {pc : Nat} {lv : List (Nat × Value)} {st : List Value}
theorem CX.x (C : CX k cc nL own Ts R g) : (kp k).tables.exec = Jvm.exec := C.1
theorem CX.b (C : CX k cc nL own Ts R g) : (kc k).code = cc := C.2.1
theorem CX.ml (C : CX k cc nL own Ts R g) : (kc k).maxLocals = kn k := C.2.2.1
theorem CX.n (C : CX k cc nL own Ts R g) : kn k = nL := C.2.2.2.1
theorem CX.o (C : CX k cc nL own Ts R g) : (ks k).vm.findClass own = some (km k).cls := C.2.2.2.2.1
theorem CX.t (C : CX k cc nL own Ts R g) : ∀ w ∈ Ts, w.before (ka k) (ks k) = true := C.2.2.2.2.2.1
theorem CX.K (C : CX k cc nL own Ts R g) : va_K (kD k) vwCl (tg g) (ks k) := C.2.2.2.2.2.2.1
theorem CX.A (C : CX k cc nL own Ts R g) : ∀ q, (ks k).heap.size ≤ q → kA k q := C.2.2.2.2.2.2.2.1
theorem CX.S (C : CX k cc nL own Ts R g) : Stt g (kA k) (ks k) := C.2.2.2.2.2.2.2.2.1
theorem CX.N (C : CX k cc nL own Ts R g) : Nst (ks k) := C.2.2.2.2.2.2.2.2.2.1
theorem CX.R (C : CX k cc nL own Ts R g) : kR k = R := C.2.2.2.2.2.2.2.2.2.2.1
theorem CX.cx (C : CX k cc nL own Ts R g) : kx k ≤ R.cells := C.2.2.2.2.2.2.2.2.2.2.2.1
theorem CX.cy (C : CX k cc nL own Ts R g) : ky k ≤ R.slots := C.2.2.2.2.2.2.2.2.2.2.2.2
/-- other names for what the locals and the stack hold -/
theorem V.lv {lv' : List (Nat × Value)} (pl : List Nat) (hl : lv_pick lv pl = lv') (kk : V k ws pc lv' st) : V k ws pc lv st := fun ls H locs h hP hD hS => kk ls H locs (lv_sub h pl hl) hP hD hS
theorem r_nmi {x : Int32} (kk : ∀ y : Int32, y = x → V k ws pc lv (.int y :: st)) : V k ws pc lv (.int x :: st) := kk x rfl
theorem r_nml {x : Int64} (kk : ∀ y : Int64, y = x → V k ws pc lv (.long y :: st)) : V k ws pc lv (.long x :: st) := kk x rfl
theorem r_iconst (C : CX k cc nL own Ts R g) {n : Int} {v : Int32} (d : decode cc pc = .ok (.iconst n, 1)) (hv : Int32.ofInt n = v) (kk : V k ws (pc + 1) lv (.int v :: st)) : V k ws pc lv st := fun ls H locs hl hP hD hS => lv_iconst C.x C.b d hv (kk ls H locs hl hP hD hS)
theorem r_bipush (C : CX k cc nL own Ts R g) {n : Int} {v : Int32} (d : decode cc pc = .ok (.bipush n, 2)) (hv : (Int8.ofInt n).toInt32 = v) (kk : V k ws (pc + 2) lv (.int v :: st)) : V k ws pc lv st := fun ls H locs hl hP hD hS => lv_bipush C.x C.b d hv (kk ls H locs hl hP hD hS)
theorem r_sipush (C : CX k cc nL own Ts R g) {n : Int} {v : Int32} (d : decode cc pc = .ok (.sipush n, 3)) (hv : (Int16.ofInt n).toInt32 = v) (kk : V k ws (pc + 3) lv (.int v :: st)) : V k ws pc lv st := fun ls H locs hl hP hD hS => lv_sipush C.x C.b d hv (kk ls H locs hl hP hD hS)
theorem r_lconst (C : CX k cc nL own Ts R g) {n : Fin 2} {v : Int64} (d : decode cc pc = .ok (.lconst n, 1)) (hv : Int64.ofNat (n : Nat) = v) (kk : V k ws (pc + 1) lv (.long v :: st)) : V k ws pc lv st := fun ls H locs hl hP hD hS => lv_lconst C.x C.b d hv (kk ls H locs hl hP hD hS)
theorem r_ldc (C : CX k cc nL own Ts R g) {index : Nat} {v : Int32} (d : decode cc pc = .ok (.ldc index, 2)) (hw : Jvm.Cond.constant own index v ∈ Ts) (kk : V k ws (pc + 2) lv (.int v :: st)) : V k ws pc lv st := fun ls H locs hl hP hD hS => lv_ldc C.x C.b C.o (C.t _ hw) d (kk ls H locs hl hP hD hS)
theorem r_ldc2 (C : CX k cc nL own Ts R g) {index : Nat} {v : Int64} (d : decode cc pc = .ok (.ldc2_w index, 3)) (hw : Jvm.Cond.constantLong own index v ∈ Ts) (kk : V k ws (pc + 3) lv (.long v :: st)) : V k ws pc lv st := fun ls H locs hl hP hD hS => lv_ldc2 C.x C.b C.o (C.t _ hw) d (kk ls H locs hl hP hD hS)
theorem r_iload_n (C : CX k cc nL own Ts R g) {j : Fin 4} {i : Nat} {x : Int32} (d : decode cc pc = .ok (.iload_n j, 1)) (hi : (j : Nat) = i) (pl : Nat) (h : lv[pl]? = some (i, .int x)) (kk : V k ws (pc + 1) lv (.int x :: st)) : V k ws pc lv st := fun ls H locs hl hP hD hS => lv_iload_n C.x C.b d hi (lv_at hl pl h) (kk ls H locs hl hP hD hS)
theorem r_iload (C : CX k cc nL own Ts R g) {i : Nat} {x : Int32} (d : decode cc pc = .ok (.iload i, 2)) (pl : Nat) (h : lv[pl]? = some (i, .int x)) (kk : V k ws (pc + 2) lv (.int x :: st)) : V k ws pc lv st := fun ls H locs hl hP hD hS => lv_iload C.x C.b d (lv_at hl pl h) (kk ls H locs hl hP hD hS)
theorem r_istore_n (C : CX k cc nL own Ts R g) {j : Fin 4} {i : Nat} {x : Int32} {lv' : List (Nat × Value)} (d : decode cc pc = .ok (.istore_n j, 1)) (hi : (j : Nat) = i) (hn : i < nL) (pl : List Nat) (h : lv_pick ((i, Value.int x) :: lv.filter (fun q => !(q.1 == i) && !(q.1 + 1 == i && q.2.category == 2))) pl = lv') (kk : V k ws (pc + 1) lv' st) : V k ws pc lv (.int x :: st) := fun ls H locs hl hP hD hS => lv_istore_n C.x C.b d hi hl (C.n ▸ hn) rfl (fun ls hl => kk ls H locs (lv_sub hl pl h) hP hD hS)
theorem r_istore (C : CX k cc nL own Ts R g) {i : Nat} {x : Int32} {lv' : List (Nat × Value)} (d : decode cc pc = .ok (.istore i, 2)) (hn : i < nL) (pl : List Nat) (h : lv_pick ((i, Value.int x) :: lv.filter (fun q => !(q.1 == i) && !(q.1 + 1 == i && q.2.category == 2))) pl = lv') (kk : V k ws (pc + 2) lv' st) : V k ws pc lv (.int x :: st) := fun ls H locs hl hP hD hS => lv_istore C.x C.b d hl (C.n ▸ hn) rfl (fun ls hl => kk ls H locs (lv_sub hl pl h) hP hD hS)
theorem r_lload_n (C : CX k cc nL own Ts R g) {j : Fin 4} {i : Nat} {x : Int64} (d : decode cc pc = .ok (.lload_n j, 1)) (hi : (j : Nat) = i) (pl : Nat) (h : lv[pl]? = some (i, .long x)) (kk : V k ws (pc + 1) lv (.long x :: st)) : V k ws pc lv st := fun ls H locs hl hP hD hS => lv_lload_n C.x C.b d hi (lv_at hl pl h) (kk ls H locs hl hP hD hS)
theorem r_lload (C : CX k cc nL own Ts R g) {i : Nat} {x : Int64} (d : decode cc pc = .ok (.lload i, 2)) (pl : Nat) (h : lv[pl]? = some (i, .long x)) (kk : V k ws (pc + 2) lv (.long x :: st)) : V k ws pc lv st := fun ls H locs hl hP hD hS => lv_lload C.x C.b d (lv_at hl pl h) (kk ls H locs hl hP hD hS)
theorem r_lstore_n (C : CX k cc nL own Ts R g) {j : Fin 4} {i : Nat} {x : Int64} {lv' : List (Nat × Value)} (d : decode cc pc = .ok (.lstore_n j, 1)) (hi : (j : Nat) = i) (hn : i + 1 < nL) (pl : List Nat) (h : lv_pick ((i, Value.long x) :: lv.filter (fun q => !(q.1 == i) && (!(q.1 == i + 1) && !(q.1 + 1 == i && q.2.category == 2)))) pl = lv') (kk : V k ws (pc + 1) lv' st) : V k ws pc lv (.long x :: st) := fun ls H locs hl hP hD hS => lv_lstore_n C.x C.b d hi hl (C.n ▸ hn) rfl (fun ls hl => kk ls H locs (lv_sub hl pl h) hP hD hS)
theorem r_lstore (C : CX k cc nL own Ts R g) {i : Nat} {x : Int64} {lv' : List (Nat × Value)} (d : decode cc pc = .ok (.lstore i, 2)) (hn : i + 1 < nL) (pl : List Nat) (h : lv_pick ((i, Value.long x) :: lv.filter (fun q => !(q.1 == i) && (!(q.1 == i + 1) && !(q.1 + 1 == i && q.2.category == 2)))) pl = lv') (kk : V k ws (pc + 2) lv' st) : V k ws pc lv (.long x :: st) := fun ls H locs hl hP hD hS => lv_lstore C.x C.b d hl (C.n ▸ hn) rfl (fun ls hl => kk ls H locs (lv_sub hl pl h) hP hD hS)
theorem r_aload_n (C : CX k cc nL own Ts R g) {j : Fin 4} {i : Nat} {x : Nat} (d : decode cc pc = .ok (.aload_n j, 1)) (hi : (j : Nat) = i) (pl : Nat) (h : lv[pl]? = some (i, .ref x)) (kk : V k ws (pc + 1) lv (.ref x :: st)) : V k ws pc lv st := fun ls H locs hl hP hD hS => lv_aload_n C.x C.b d hi (lv_at hl pl h) (kk ls H locs hl hP hD hS)
theorem r_aload (C : CX k cc nL own Ts R g) {i : Nat} {x : Nat} (d : decode cc pc = .ok (.aload i, 2)) (pl : Nat) (h : lv[pl]? = some (i, .ref x)) (kk : V k ws (pc + 2) lv (.ref x :: st)) : V k ws pc lv st := fun ls H locs hl hP hD hS => lv_aload C.x C.b d (lv_at hl pl h) (kk ls H locs hl hP hD hS)
theorem r_astore_n (C : CX k cc nL own Ts R g) {j : Fin 4} {i : Nat} {x : Nat} {lv' : List (Nat × Value)} (d : decode cc pc = .ok (.astore_n j, 1)) (hi : (j : Nat) = i) (hn : i < nL) (pl : List Nat) (h : lv_pick ((i, Value.ref x) :: lv.filter (fun q => !(q.1 == i) && !(q.1 + 1 == i && q.2.category == 2))) pl = lv') (kk : V k ws (pc + 1) lv' st) : V k ws pc lv (.ref x :: st) := fun ls H locs hl hP hD hS => lv_astore_n C.x C.b d hi hl (C.n ▸ hn) rfl (fun ls hl => kk ls H locs (lv_sub hl pl h) hP hD hS)
theorem r_astore (C : CX k cc nL own Ts R g) {i : Nat} {x : Nat} {lv' : List (Nat × Value)} (d : decode cc pc = .ok (.astore i, 2)) (hn : i < nL) (pl : List Nat) (h : lv_pick ((i, Value.ref x) :: lv.filter (fun q => !(q.1 == i) && !(q.1 + 1 == i && q.2.category == 2))) pl = lv') (kk : V k ws (pc + 2) lv' st) : V k ws pc lv (.ref x :: st) := fun ls H locs hl hP hD hS => lv_astore C.x C.b d hl (C.n ▸ hn) rfl (fun ls hl => kk ls H locs (lv_sub hl pl h) hP hD hS)
theorem r_iinc (C : CX k cc nL own Ts R g) {i : Nat} {n : Int} {x v : Int32} {lv' : List (Nat × Value)} (d : decode cc pc = .ok (.iinc i n, 3)) (kl : Nat) (hk : lv[kl]? = some (i, .int x)) (hv : x + Int32.ofInt n = v) (hn : i < nL) (pl : List Nat) (h : lv_pick ((i, Value.int v) :: lv.filter (fun q => !(q.1 == i) && !(q.1 + 1 == i && q.2.category == 2))) pl = lv') (kk : V k ws (pc + 3) lv' st) : V k ws pc lv st := fun ls H locs hl hP hD hS => lv_iinc C.x C.b d hl hk hv (C.n ▸ hn) rfl (fun ls hl => kk ls H locs (lv_sub hl pl h) hP hD hS)
theorem r_iadd (C : CX k cc nL own Ts R g) {x y : Int32} (d : decode cc pc = .ok (.iadd, 1)) (kk : V k ws (pc + 1) lv (.int (x + y) :: st)) : V k ws pc lv (.int y :: .int x :: st) := fun ls H locs hl hP hD hS => lv_iadd C.x C.b d (kk ls H locs hl hP hD hS)
theorem r_isub (C : CX k cc nL own Ts R g) {x y : Int32} (d : decode cc pc = .ok (.isub, 1)) (kk : V k ws (pc + 1) lv (.int (x - y) :: st)) : V k ws pc lv (.int y :: .int x :: st) := fun ls H locs hl hP hD hS => lv_isub C.x C.b d (kk ls H locs hl hP hD hS)
theorem r_imul (C : CX k cc nL own Ts R g) {x y : Int32} (d : decode cc pc = .ok (.imul, 1)) (kk : V k ws (pc + 1) lv (.int (x * y) :: st)) : V k ws pc lv (.int y :: .int x :: st) := fun ls H locs hl hP hD hS => lv_imul C.x C.b d (kk ls H locs hl hP hD hS)
theorem r_iand (C : CX k cc nL own Ts R g) {x y : Int32} (d : decode cc pc = .ok (.iand, 1)) (kk : V k ws (pc + 1) lv (.int (x &&& y) :: st)) : V k ws pc lv (.int y :: .int x :: st) := fun ls H locs hl hP hD hS => lv_iand C.x C.b d (kk ls H locs hl hP hD hS)
theorem r_ior (C : CX k cc nL own Ts R g) {x y : Int32} (d : decode cc pc = .ok (.ior, 1)) (kk : V k ws (pc + 1) lv (.int (x ||| y) :: st)) : V k ws pc lv (.int y :: .int x :: st) := fun ls H locs hl hP hD hS => lv_ior C.x C.b d (kk ls H locs hl hP hD hS)
theorem r_ixor (C : CX k cc nL own Ts R g) {x y : Int32} (d : decode cc pc = .ok (.ixor, 1)) (kk : V k ws (pc + 1) lv (.int (x ^^^ y) :: st)) : V k ws pc lv (.int y :: .int x :: st) := fun ls H locs hl hP hD hS => lv_ixor C.x C.b d (kk ls H locs hl hP hD hS)
theorem r_ishl (C : CX k cc nL own Ts R g) {x y : Int32} (d : decode cc pc = .ok (.ishl, 1)) (kk : V k ws (pc + 1) lv (.int (x <<< (y &&& 31)) :: st)) : V k ws pc lv (.int y :: .int x :: st) := fun ls H locs hl hP hD hS => lv_ishl C.x C.b d (kk ls H locs hl hP hD hS)
theorem r_ishr (C : CX k cc nL own Ts R g) {x y : Int32} (d : decode cc pc = .ok (.ishr, 1)) (kk : V k ws (pc + 1) lv (.int (x >>> (y &&& 31)) :: st)) : V k ws pc lv (.int y :: .int x :: st) := fun ls H locs hl hP hD hS => lv_ishr C.x C.b d (kk ls H locs hl hP hD hS)
theorem r_ladd (C : CX k cc nL own Ts R g) {x y : Int64} (d : decode cc pc = .ok (.ladd, 1)) (kk : V k ws (pc + 1) lv (.long (x + y) :: st)) : V k ws pc lv (.long y :: .long x :: st) := fun ls H locs hl hP hD hS => lv_ladd C.x C.b d (kk ls H locs hl hP hD hS)
theorem r_lsub (C : CX k cc nL own Ts R g) {x y : Int64} (d : decode cc pc = .ok (.lsub, 1)) (kk : V k ws (pc + 1) lv (.long (x - y) :: st)) : V k ws pc lv (.long y :: .long x :: st) := fun ls H locs hl hP hD hS => lv_lsub C.x C.b d (kk ls H locs hl hP hD hS)
theorem r_lmul (C : CX k cc nL own Ts R g) {x y : Int64} (d : decode cc pc = .ok (.lmul, 1)) (kk : V k ws (pc + 1) lv (.long (x * y) :: st)) : V k ws pc lv (.long y :: .long x :: st) := fun ls H locs hl hP hD hS => lv_lmul C.x C.b d (kk ls H locs hl hP hD hS)
theorem r_land (C : CX k cc nL own Ts R g) {x y : Int64} (d : decode cc pc = .ok (.land, 1)) (kk : V k ws (pc + 1) lv (.long (x &&& y) :: st)) : V k ws pc lv (.long y :: .long x :: st) := fun ls H locs hl hP hD hS => lv_land C.x C.b d (kk ls H locs hl hP hD hS)
theorem r_lor (C : CX k cc nL own Ts R g) {x y : Int64} (d : decode cc pc = .ok (.lor, 1)) (kk : V k ws (pc + 1) lv (.long (x ||| y) :: st)) : V k ws pc lv (.long y :: .long x :: st) := fun ls H locs hl hP hD hS => lv_lor C.x C.b d (kk ls H locs hl hP hD hS)
theorem r_lxor (C : CX k cc nL own Ts R g) {x y : Int64} (d : decode cc pc = .ok (.lxor, 1)) (kk : V k ws (pc + 1) lv (.long (x ^^^ y) :: st)) : V k ws pc lv (.long y :: .long x :: st) := fun ls H locs hl hP hD hS => lv_lxor C.x C.b d (kk ls H locs hl hP hD hS)
theorem r_idiv (C : CX k cc nL own Ts R g) {x y : Int32} (d : decode cc pc = .ok (.idiv, 1)) (hne : ¬ y = 0) (kk : V k ws (pc + 1) lv (.int (x / y) :: st)) : V k ws pc lv (.int y :: .int x :: st) := fun ls H locs hl hP hD hS => lv_idiv C.x C.b d hne (kk ls H locs hl hP hD hS)
theorem r_irem (C : CX k cc nL own Ts R g) {x y : Int32} (d : decode cc pc = .ok (.irem, 1)) (hne : ¬ y = 0) (kk : V k ws (pc + 1) lv (.int (x - x / y * y) :: st)) : V k ws pc lv (.int y :: .int x :: st) := fun ls H locs hl hP hD hS => lv_irem C.x C.b d hne (kk ls H locs hl hP hD hS)
theorem r_ldiv (C : CX k cc nL own Ts R g) {x y : Int64} (d : decode cc pc = .ok (.ldiv, 1)) (hne : ¬ y = 0) (kk : V k ws (pc + 1) lv (.long (x / y) :: st)) : V k ws pc lv (.long y :: .long x :: st) := fun ls H locs hl hP hD hS => lv_ldiv C.x C.b d hne (kk ls H locs hl hP hD hS)
theorem r_lrem (C : CX k cc nL own Ts R g) {x y : Int64} (d : decode cc pc = .ok (.lrem, 1)) (hne : ¬ y = 0) (kk : V k ws (pc + 1) lv (.long (x - x / y * y) :: st)) : V k ws pc lv (.long y :: .long x :: st) := fun ls H locs hl hP hD hS => lv_lrem C.x C.b d hne (kk ls H locs hl hP hD hS)
theorem r_ineg (C : CX k cc nL own Ts R g) {x : Int32} (d : decode cc pc = .ok (.ineg, 1)) (kk : V k ws (pc + 1) lv (.int (-x) :: st)) : V k ws pc lv (.int x :: st) := fun ls H locs hl hP hD hS => lv_ineg C.x C.b d (kk ls H locs hl hP hD hS)
theorem r_i2l (C : CX k cc nL own Ts R g) {x : Int32} (d : decode cc pc = .ok (.i2l, 1)) (kk : V k ws (pc + 1) lv (.long x.toInt64 :: st)) : V k ws pc lv (.int x :: st) := fun ls H locs hl hP hD hS => lv_i2l C.x C.b d rfl (kk ls H locs hl hP hD hS)
theorem r_l2i (C : CX k cc nL own Ts R g) {x : Int64} (d : decode cc pc = .ok (.l2i, 1)) (kk : V k ws (pc + 1) lv (.int x.toInt32 :: st)) : V k ws pc lv (.long x :: st) := fun ls H locs hl hP hD hS => lv_l2i C.x C.b d rfl (kk ls H locs hl hP hD hS)
theorem r_i2b (C : CX k cc nL own Ts R g) {x : Int32} (d : decode cc pc = .ok (.i2b, 1)) (kk : V k ws (pc + 1) lv (.int x.toInt8.toInt32 :: st)) : V k ws pc lv (.int x :: st) := fun ls H locs hl hP hD hS => lv_i2b C.x C.b d rfl (kk ls H locs hl hP hD hS)
theorem r_lshl (C : CX k cc nL own Ts R g) {x : Int64} {y : Int32} (d : decode cc pc = .ok (.lshl, 1)) (kk : V k ws (pc + 1) lv (.long (x <<< (y.toInt64 &&& 63)) :: st)) : V k ws pc lv (.int y :: .long x :: st) := fun ls H locs hl hP hD hS => lv_lshl C.x C.b d rfl (kk ls H locs hl hP hD hS)
theorem r_lshr (C : CX k cc nL own Ts R g) {x : Int64} {y : Int32} (d : decode cc pc = .ok (.lshr, 1)) (kk : V k ws (pc + 1) lv (.long (x >>> (y.toInt64 &&& 63)) :: st)) : V k ws pc lv (.int y :: .long x :: st) := fun ls H locs hl hP hD hS => lv_lshr C.x C.b d rfl (kk ls H locs hl hP hD hS)
theorem r_dup (C : CX k cc nL own Ts R g) {va : Value} (d : decode cc pc = .ok (.dup, 1)) (hva : va.category = 1) (kk : V k ws (pc + 1) lv (va :: va :: st)) : V k ws pc lv (va :: st) := fun ls H locs hl hP hD hS => lv_dup C.x C.b d hva (kk ls H locs hl hP hD hS)
theorem r_pop (C : CX k cc nL own Ts R g) {va : Value} (d : decode cc pc = .ok (.pop, 1)) (hva : va.category = 1) (kk : V k ws (pc + 1) lv st) : V k ws pc lv (va :: st) := fun ls H locs hl hP hD hS => lv_pop C.x C.b d hva (kk ls H locs hl hP hD hS)
theorem r_dup2 (C : CX k cc nL own Ts R g) {va vb : Value} (d : decode cc pc = .ok (.dup2, 1)) (hva : va.category = 1) (hvb : vb.category = 1) (kk : V k ws (pc + 1) lv (va :: vb :: va :: vb :: st)) : V k ws pc lv (va :: vb :: st) := fun ls H locs hl hP hD hS => lv_dup2_11 C.x C.b d hva hvb (kk ls H locs hl hP hD hS)
theorem r_if_eq (C : CX k cc nL own Ts R g) {x : Int32} {off : Int} {tgt : Nat} (d : decode cc pc = .ok (.ifCond .eq off, 3)) (ht : (pc : Int) + off = (tgt : Int)) (kt : x = 0 → V k ws tgt lv st) (kf : ¬ x = 0 → V k ws (pc + 3) lv st) : V k ws pc lv (.int x :: st) := fun ls H locs hl hP hD hS => lv_if_eq C.x C.b d ht (fun c => kt c ls H locs hl hP hD hS) (fun c => kf c ls H locs hl hP hD hS)
theorem r_icmp_eq (C : CX k cc nL own Ts R g) {x y : Int32} {off : Int} {tgt : Nat} (d : decode cc pc = .ok (.if_icmp .eq off, 3)) (ht : (pc : Int) + off = (tgt : Int)) (kt : x = y → V k ws tgt lv st) (kf : ¬ x = y → V k ws (pc + 3) lv st) : V k ws pc lv (.int y :: .int x :: st) := fun ls H locs hl hP hD hS => lv_icmp_eq C.x C.b d ht (fun c => kt c ls H locs hl hP hD hS) (fun c => kf c ls H locs hl hP hD hS)
theorem r_if_ne (C : CX k cc nL own Ts R g) {x : Int32} {off : Int} {tgt : Nat} (d : decode cc pc = .ok (.ifCond .ne off, 3)) (ht : (pc : Int) + off = (tgt : Int)) (kt : ¬ x = 0 → V k ws tgt lv st) (kf : x = 0 → V k ws (pc + 3) lv st) : V k ws pc lv (.int x :: st) := fun ls H locs hl hP hD hS => lv_if_ne C.x C.b d ht (fun c => kt c ls H locs hl hP hD hS) (fun c => kf c ls H locs hl hP hD hS)
theorem r_icmp_ne (C : CX k cc nL own Ts R g) {x y : Int32} {off : Int} {tgt : Nat} (d : decode cc pc = .ok (.if_icmp .ne off, 3)) (ht : (pc : Int) + off = (tgt : Int)) (kt : ¬ x = y → V k ws tgt lv st) (kf : x = y → V k ws (pc + 3) lv st) : V k ws pc lv (.int y :: .int x :: st) := fun ls H locs hl hP hD hS => lv_icmp_ne C.x C.b d ht (fun c => kt c ls H locs hl hP hD hS) (fun c => kf c ls H locs hl hP hD hS)
theorem r_if_lt (C : CX k cc nL own Ts R g) {x : Int32} {off : Int} {tgt : Nat} (d : decode cc pc = .ok (.ifCond .lt off, 3)) (ht : (pc : Int) + off = (tgt : Int)) (kt : x < 0 → V k ws tgt lv st) (kf : ¬ x < 0 → V k ws (pc + 3) lv st) : V k ws pc lv (.int x :: st) := fun ls H locs hl hP hD hS => lv_if_lt C.x C.b d ht (fun c => kt c ls H locs hl hP hD hS) (fun c => kf c ls H locs hl hP hD hS)
theorem r_icmp_lt (C : CX k cc nL own Ts R g) {x y : Int32} {off : Int} {tgt : Nat} (d : decode cc pc = .ok (.if_icmp .lt off, 3)) (ht : (pc : Int) + off = (tgt : Int)) (kt : x < y → V k ws tgt lv st) (kf : ¬ x < y → V k ws (pc + 3) lv st) : V k ws pc lv (.int y :: .int x :: st) := fun ls H locs hl hP hD hS => lv_icmp_lt C.x C.b d ht (fun c => kt c ls H locs hl hP hD hS) (fun c => kf c ls H locs hl hP hD hS)
theorem r_if_ge (C : CX k cc nL own Ts R g) {x : Int32} {off : Int} {tgt : Nat} (d : decode cc pc = .ok (.ifCond .ge off, 3)) (ht : (pc : Int) + off = (tgt : Int)) (kt : 0 ≤ x → V k ws tgt lv st) (kf : ¬ 0 ≤ x → V k ws (pc + 3) lv st) : V k ws pc lv (.int x :: st) := fun ls H locs hl hP hD hS => lv_if_ge C.x C.b d ht (fun c => kt c ls H locs hl hP hD hS) (fun c => kf c ls H locs hl hP hD hS)
theorem r_icmp_ge (C : CX k cc nL own Ts R g) {x y : Int32} {off : Int} {tgt : Nat} (d : decode cc pc = .ok (.if_icmp .ge off, 3)) (ht : (pc : Int) + off = (tgt : Int)) (kt : y ≤ x → V k ws tgt lv st) (kf : ¬ y ≤ x → V k ws (pc + 3) lv st) : V k ws pc lv (.int y :: .int x :: st) := fun ls H locs hl hP hD hS => lv_icmp_ge C.x C.b d ht (fun c => kt c ls H locs hl hP hD hS) (fun c => kf c ls H locs hl hP hD hS)
theorem r_if_gt (C : CX k cc nL own Ts R g) {x : Int32} {off : Int} {tgt : Nat} (d : decode cc pc = .ok (.ifCond .gt off, 3)) (ht : (pc : Int) + off = (tgt : Int)) (kt : 0 < x → V k ws tgt lv st) (kf : ¬ 0 < x → V k ws (pc + 3) lv st) : V k ws pc lv (.int x :: st) := fun ls H locs hl hP hD hS => lv_if_gt C.x C.b d ht (fun c => kt c ls H locs hl hP hD hS) (fun c => kf c ls H locs hl hP hD hS)
theorem r_icmp_gt (C : CX k cc nL own Ts R g) {x y : Int32} {off : Int} {tgt : Nat} (d : decode cc pc = .ok (.if_icmp .gt off, 3)) (ht : (pc : Int) + off = (tgt : Int)) (kt : y < x → V k ws tgt lv st) (kf : ¬ y < x → V k ws (pc + 3) lv st) : V k ws pc lv (.int y :: .int x :: st) := fun ls H locs hl hP hD hS => lv_icmp_gt C.x C.b d ht (fun c => kt c ls H locs hl hP hD hS) (fun c => kf c ls H locs hl hP hD hS)
theorem r_if_le (C : CX k cc nL own Ts R g) {x : Int32} {off : Int} {tgt : Nat} (d : decode cc pc = .ok (.ifCond .le off, 3)) (ht : (pc : Int) + off = (tgt : Int)) (kt : x ≤ 0 → V k ws tgt lv st) (kf : ¬ x ≤ 0 → V k ws (pc + 3) lv st) : V k ws pc lv (.int x :: st) := fun ls H locs hl hP hD hS => lv_if_le C.x C.b d ht (fun c => kt c ls H locs hl hP hD hS) (fun c => kf c ls H locs hl hP hD hS)
theorem r_icmp_le (C : CX k cc nL own Ts R g) {x y : Int32} {off : Int} {tgt : Nat} (d : decode cc pc = .ok (.if_icmp .le off, 3)) (ht : (pc : Int) + off = (tgt : Int)) (kt : x ≤ y → V k ws tgt lv st) (kf : ¬ x ≤ y → V k ws (pc + 3) lv st) : V k ws pc lv (.int y :: .int x :: st) := fun ls H locs hl hP hD hS => lv_icmp_le C.x C.b d ht (fun c => kt c ls H locs hl hP hD hS) (fun c => kf c ls H locs hl hP hD hS)
theorem lg3 (x y : Int64) : (y < x ∧ ¬ x = y ∧ ¬ x < y ∧ lg_cmp x y = 1) ∨ (x = y ∧ ¬ y < x ∧ ¬ x < y ∧ lg_cmp x y = 0) ∨ (x < y ∧ ¬ x = y ∧ ¬ y < x ∧ lg_cmp x y = -1) := by
  by_cases h1 : y < x
  · refine Or.inl ⟨h1, fun h => ?_, fun h => ?_, by simp [lg_cmp, h1]⟩
    · subst h; rw [Int64.lt_iff_toInt_lt] at h1; omega
    · rw [Int64.lt_iff_toInt_lt] at h1 h; omega
  · by_cases h2 : x = y
    · subst h2; exact Or.inr (Or.inl ⟨rfl, h1, h1, by simp [lg_cmp]⟩)
    · refine Or.inr (Or.inr ⟨?_, h2, h1, by simp [lg_cmp, h1, h2]⟩)
      rw [Int64.lt_iff_toInt_lt] at h1 ⊢
      have : x.toInt ≠ y.toInt := fun h => h2 (Int64.toInt_inj.mp h)
      omega
theorem lg_eq {x y : Int64} : lg_cmp x y = 0 ↔ x = y := by
  rcases lg3 x y with ⟨a, b, c, d⟩ | ⟨a, b, c, d⟩ | ⟨a, b, c, d⟩ <;> rw [d] <;> simp [a, b]
theorem lg_lt {x y : Int64} : lg_cmp x y < 0 ↔ x < y := by
  rcases lg3 x y with ⟨a, b, c, d⟩ | ⟨a, b, c, d⟩ | ⟨a, b, c, d⟩ <;> rw [d]
  · exact ⟨fun h => absurd h (by decide), fun h => absurd h c⟩
  · exact ⟨fun h => absurd h (by decide), fun h => absurd h c⟩
  · exact ⟨fun _ => a, fun _ => by decide⟩
theorem lg_gt {x y : Int64} : 0 < lg_cmp x y ↔ y < x := by
  rcases lg3 x y with ⟨a, b, c, d⟩ | ⟨a, b, c, d⟩ | ⟨a, b, c, d⟩ <;> rw [d]
  · exact ⟨fun _ => a, fun _ => by decide⟩
  · exact ⟨fun h => absurd h (by decide), fun h => absurd h b⟩
  · exact ⟨fun h => absurd h (by decide), fun h => absurd h c⟩
theorem l_nlt {x y : Int64} : ¬ x < y ↔ y ≤ x := by rw [Int64.lt_iff_toInt_lt, Int64.le_iff_toInt_le]; omega
theorem i_nlt {x y : Int32} : ¬ x < y ↔ y ≤ x := by rw [Int32.lt_iff_toInt_lt, Int32.le_iff_toInt_le]; omega
theorem lg_ge {x y : Int64} : 0 ≤ lg_cmp x y ↔ y ≤ x := by rw [← l_nlt, ← i_nlt, lg_lt]
theorem lg_le {x y : Int64} : lg_cmp x y ≤ 0 ↔ x ≤ y := by rw [← l_nlt, ← i_nlt, lg_gt]
theorem r_lcmp_eq (C : CX k cc nL own Ts R g) {x y : Int64} {off : Int} {tgt : Nat} (d0 : decode cc pc = .ok (.lcmp, 1)) (d : decode cc (pc + 1) = .ok (.ifCond .eq off, 3)) (ht : ((pc + 1 : Nat) : Int) + off = (tgt : Int)) (kt : x = y → V k ws tgt lv st) (kf : ¬ x = y → V k ws (pc + 1 + 3) lv st) : V k ws pc lv (.long y :: .long x :: st) := fun ls H locs hl hP hD hS => W.lcmp C.x C.b d0 (lv_if_eq C.x C.b d ht (fun c => kt (lg_eq.mp c) ls H locs hl hP hD hS) (fun c => kf (fun h => c (lg_eq.mpr h)) ls H locs hl hP hD hS))
theorem r_lcmp_ne (C : CX k cc nL own Ts R g) {x y : Int64} {off : Int} {tgt : Nat} (d0 : decode cc pc = .ok (.lcmp, 1)) (d : decode cc (pc + 1) = .ok (.ifCond .ne off, 3)) (ht : ((pc + 1 : Nat) : Int) + off = (tgt : Int)) (kt : ¬ x = y → V k ws tgt lv st) (kf : x = y → V k ws (pc + 1 + 3) lv st) : V k ws pc lv (.long y :: .long x :: st) := fun ls H locs hl hP hD hS => W.lcmp C.x C.b d0 (lv_if_ne C.x C.b d ht (fun c => kt (fun h => c (lg_eq.mpr h)) ls H locs hl hP hD hS) (fun c => kf (lg_eq.mp c) ls H locs hl hP hD hS))
theorem r_lcmp_lt (C : CX k cc nL own Ts R g) {x y : Int64} {off : Int} {tgt : Nat} (d0 : decode cc pc = .ok (.lcmp, 1)) (d : decode cc (pc + 1) = .ok (.ifCond .lt off, 3)) (ht : ((pc + 1 : Nat) : Int) + off = (tgt : Int)) (kt : x < y → V k ws tgt lv st) (kf : ¬ x < y → V k ws (pc + 1 + 3) lv st) : V k ws pc lv (.long y :: .long x :: st) := fun ls H locs hl hP hD hS => W.lcmp C.x C.b d0 (lv_if_lt C.x C.b d ht (fun c => kt (lg_lt.mp c) ls H locs hl hP hD hS) (fun c => kf (fun h => c (lg_lt.mpr h)) ls H locs hl hP hD hS))
theorem r_lcmp_ge (C : CX k cc nL own Ts R g) {x y : Int64} {off : Int} {tgt : Nat} (d0 : decode cc pc = .ok (.lcmp, 1)) (d : decode cc (pc + 1) = .ok (.ifCond .ge off, 3)) (ht : ((pc + 1 : Nat) : Int) + off = (tgt : Int)) (kt : y ≤ x → V k ws tgt lv st) (kf : ¬ y ≤ x → V k ws (pc + 1 + 3) lv st) : V k ws pc lv (.long y :: .long x :: st) := fun ls H locs hl hP hD hS => W.lcmp C.x C.b d0 (lv_if_ge C.x C.b d ht (fun c => kt (lg_ge.mp c) ls H locs hl hP hD hS) (fun c => kf (fun h => c (lg_ge.mpr h)) ls H locs hl hP hD hS))
theorem r_lcmp_gt (C : CX k cc nL own Ts R g) {x y : Int64} {off : Int} {tgt : Nat} (d0 : decode cc pc = .ok (.lcmp, 1)) (d : decode cc (pc + 1) = .ok (.ifCond .gt off, 3)) (ht : ((pc + 1 : Nat) : Int) + off = (tgt : Int)) (kt : y < x → V k ws tgt lv st) (kf : ¬ y < x → V k ws (pc + 1 + 3) lv st) : V k ws pc lv (.long y :: .long x :: st) := fun ls H locs hl hP hD hS => W.lcmp C.x C.b d0 (lv_if_gt C.x C.b d ht (fun c => kt (lg_gt.mp c) ls H locs hl hP hD hS) (fun c => kf (fun h => c (lg_gt.mpr h)) ls H locs hl hP hD hS))
theorem r_lcmp_le (C : CX k cc nL own Ts R g) {x y : Int64} {off : Int} {tgt : Nat} (d0 : decode cc pc = .ok (.lcmp, 1)) (d : decode cc (pc + 1) = .ok (.ifCond .le off, 3)) (ht : ((pc + 1 : Nat) : Int) + off = (tgt : Int)) (kt : x ≤ y → V k ws tgt lv st) (kf : ¬ x ≤ y → V k ws (pc + 1 + 3) lv st) : V k ws pc lv (.long y :: .long x :: st) := fun ls H locs hl hP hD hS => W.lcmp C.x C.b d0 (lv_if_le C.x C.b d ht (fun c => kt (lg_le.mp c) ls H locs hl hP hD hS) (fun c => kf (fun h => c (lg_le.mpr h)) ls H locs hl hP hD hS))
theorem r_goto (C : CX k cc nL own Ts R g) {off : Int} {tgt : Nat} (d : decode cc pc = .ok (.goto off, 3)) (ht : (pc : Int) + off = (tgt : Int)) (kk : V k ws tgt lv st) : V k ws pc lv st := fun ls H locs hl hP hD hS => lv_goto C.x C.b d ht (kk ls H locs hl hP hD hS)
theorem r_tabOut (C : CX k cc nL own Ts R g) {dflt lo hi : Int} {offs : Array Int} {len : Nat} {x : Int32} {tgt : Nat} (d : decode cc pc = .ok (.tableswitch dflt lo hi offs, len)) (h : x.toInt < lo ∨ hi < x.toInt) (ht : (pc : Int) + dflt = (tgt : Int)) (kk : V k ws tgt lv st) : V k ws pc lv (.int x :: st) := fun ls H locs hl hP hD hS => lv_tableOut C.x C.b d h ht (kk ls H locs hl hP hD hS)
theorem r_tabIn (C : CX k cc nL own Ts R g) {dflt lo hi : Int} {offs : Array Int} {len : Nat} {x : Int32} {off : Int} {tgt : Nat} (d : decode cc pc = .ok (.tableswitch dflt lo hi offs, len)) (h1 : ¬ x.toInt < lo) (h2 : ¬ hi < x.toInt) (ho : offs[(x.toInt - lo).toNat]? = some off) (ht : (pc : Int) + off = (tgt : Int)) (kk : V k ws tgt lv st) : V k ws pc lv (.int x :: st) := fun ls H locs hl hP hD hS => lv_tableIn C.x C.b d h1 h2 ho ht (kk ls H locs hl hP hD hS)
theorem r_look (C : CX k cc nL own Ts R g) {dflt : Int} {ps : Array (Int × Int)} {len : Nat} {x : Int32} {off : Int} {tgt : Nat} (d : decode cc pc = .ok (.lookupswitch dflt ps, len)) (hp : (ps.toList.zip (ps.toList.drop 1)).all (fun (a, next) => a.1 < next.1) = true) (ho : Op.lookupswitch.offset ps.toList dflt x.toInt = off) (ht : (pc : Int) + off = (tgt : Int)) (kk : V k ws tgt lv st) : V k ws pc lv (.int x :: st) := fun ls H locs hl hP hD hS => lv_lookup C.x C.b d hp ho ht (kk ls H locs hl hP hD hS)
theorem r_get (C : CX k cc nL own Ts R g) {Cn : String} {T : u_T} {N ci index a : Nat} {fs : List Value} {v : Value} (d : decode cc pc = .ok (.getfield index, 3)) (hin : ∀ w ∈ u_ws Cn T N, w ∈ Ts) (q0 : Nat) (he : ws[q0]? = some (a, .inr (ci, fs))) (hc : vwCl[ci]? = some (Cn, T, N)) (kf : Nat) (hk : kf < N) (hw : Cond.fieldLink own index (T kf).1 (T kf).2.1 (T kf).2.2.1 ∈ Ts) (hv : fs[kf]? = some v) (kk : V k ws (pc + 3) lv (v :: st)) : V k ws pc lv (.ref a :: st) := fun ls H locs hl hP hD hS => va_get C.x C.b C.t hin C.o C.K hP q0 he hc kf hk (C.t _ hw) (fun _ h => h) hv d (kk ls H locs hl hP hD hS)
theorem r_put (C : CX k cc nL own Ts R g) {Cn : String} {T : u_T} {N ci index a : Nat} {fs : List Value} {v : Value} {ty : FieldType} {ws' : va_W} (d : decode cc pc = .ok (.putfield index, 3)) (hin : ∀ w ∈ u_ws Cn T N, w ∈ Ts) (ty0 : Nat → FieldType) (hty : ∀ k, k < N → parseFieldDescriptor (T k).2.2.1 = some (ty0 k)) (hnm : ∀ a, a < N → ∀ b, b < N → a ≠ b → (T a).2.1 ≠ (T b).2.1) (q0 : Nat) (he : ws[q0]? = some (a, .inr (ci, fs))) (hc : vwCl[ci]? = some (Cn, T, N)) (kf : Nat) (hk : kf < N) (hw : Cond.fieldLink own index (T kf).1 (T kf).2.1 (T kf).2.2.1 ∈ Ts) (hfin : (T kf).2.2.2 = false) (hd : parseFieldDescriptor (T kf).2.2.1 = some ty) (hn : narrow ty v = v) (hfit : fits ty v = true) (hlen : kf < fs.length) (hset : ws.set q0 (a, .inr (ci, fs.set kf v)) = ws') (kk : V k ws' (pc + 3) lv st) : V k ws pc lv (v :: .ref a :: st) := by
  subst hset
  exact fun ls H locs hl hP hD hS => va_put C.x C.b C.t hin ty0 hty hnm C.o C.K hP hD hS q0 he hc kf hk (C.t _ hw) (fun _ h => h) hfin hd hn hfit hlen d (fun H1 locs1 hP hD hS => kk ls H1 locs1 hl hP hD hS)
theorem r_iald (C : CX k cc nL own Ts R g) {a n : Nat} {f : Nat → Int32} {i : Int32} (d : decode cc pc = .ok (.iaload, 1)) (q0 : Nat) (ha : ws[q0]? = some (a, .inl (g.2 1, n, .inl f))) (hi : vp_in i n) (kk : V k ws (pc + 1) lv (.int (f i.toNatClampNeg) :: st)) : V k ws pc lv (.int i :: .ref a :: st) := fun ls H locs hl hP hD hS => va_iald C.x C.b C.K hP q0 1 ha rfl hi d (kk ls H locs hl hP hD hS)
theorem r_bald (C : CX k cc nL own Ts R g) {a n : Nat} {f : Nat → Int32} {i : Int32} (d : decode cc pc = .ok (.baload, 1)) (q0 : Nat) (ha : ws[q0]? = some (a, .inl (g.2 0, n, .inl f))) (hi : vp_in i n) (kk : V k ws (pc + 1) lv (.int (f i.toNatClampNeg) :: st)) : V k ws pc lv (.int i :: .ref a :: st) := fun ls H locs hl hP hD hS => va_bald C.x C.b C.K hP q0 0 ha rfl hi d (kk ls H locs hl hP hD hS)
theorem r_lald (C : CX k cc nL own Ts R g) {a n : Nat} {f : Nat → Int64} {i : Int32} (d : decode cc pc = .ok (.laload, 1)) (q0 : Nat) (ha : ws[q0]? = some (a, .inl (g.2 2, n, .inr (.inl f)))) (hi : vp_in i n) (kk : V k ws (pc + 1) lv (.long (f i.toNatClampNeg) :: st)) : V k ws pc lv (.int i :: .ref a :: st) := fun ls H locs hl hP hD hS => va_lald C.x C.b C.K hP q0 2 ha rfl hi d (kk ls H locs hl hP hD hS)
theorem r_aald (C : CX k cc nL own Ts R g) {a n : Nat} {f : Nat → Option Nat} {i : Int32} {b : Nat} (d : decode cc pc = .ok (.aaload, 1)) (q0 : Nat) (ha : ws[q0]? = some (a, .inl (g.2 3, n, .inr (.inr (.inr (.inr f)))))) (hi : vp_in i n) (hf : f i.toNatClampNeg = some b) (kk : V k ws (pc + 1) lv (.ref b :: st)) : V k ws pc lv (.int i :: .ref a :: st) := fun ls H locs hl hP hD hS => va_aldq C.x C.b C.K hP q0 3 ha rfl hi d (by rw [hf]; exact (kk ls H locs hl hP hD hS))
theorem r_iast (C : CX k cc nL own Ts R g) {a n : Nat} {f : Nat → Int32} {i x : Int32} {ws' : va_W} (d : decode cc pc = .ok (.iastore, 1)) (q0 : Nat) (ha : ws[q0]? = some (a, .inl (g.2 1, n, .inl f))) (hi : vp_in i n) (hset : ws.set q0 (a, .inl (g.2 1, n, .inl (upd f i.toNatClampNeg x))) = ws') (kk : V k ws' (pc + 1) lv st) : V k ws pc lv (.int x :: .int i :: .ref a :: st) := by
  subst hset
  exact fun ls H locs hl hP hD hS => va_iast C.x C.b C.K hP hD hS q0 1 ha rfl hi d (fun H1 locs1 hP hD hS => kk ls H1 locs1 hl hP hD hS)
theorem r_bast (C : CX k cc nL own Ts R g) {a n : Nat} {f : Nat → Int32} {i x : Int32} {ws' : va_W} (d : decode cc pc = .ok (.bastore, 1)) (q0 : Nat) (ha : ws[q0]? = some (a, .inl (g.2 0, n, .inl f))) (hi : vp_in i n) (hset : ws.set q0 (a, .inl (g.2 0, n, .inl (upd f i.toNatClampNeg (vp_nar .byte x)))) = ws') (kk : V k ws' (pc + 1) lv st) : V k ws pc lv (.int x :: .int i :: .ref a :: st) := by
  subst hset
  exact fun ls H locs hl hP hD hS => va_bast C.x C.b C.K hP hD hS q0 0 ha rfl hi d (fun H1 locs1 hP hD hS => kk ls H1 locs1 hl hP hD hS)
theorem r_last (C : CX k cc nL own Ts R g) {a n : Nat} {f : Nat → Int64} {i : Int32} {x : Int64} {ws' : va_W} (d : decode cc pc = .ok (.lastore, 1)) (q0 : Nat) (ha : ws[q0]? = some (a, .inl (g.2 2, n, .inr (.inl f)))) (hi : vp_in i n) (hset : ws.set q0 (a, .inl (g.2 2, n, .inr (.inl (vp_updL f i.toNatClampNeg x)))) = ws') (kk : V k ws' (pc + 1) lv st) : V k ws pc lv (.long x :: .int i :: .ref a :: st) := by
  subst hset
  exact fun ls H locs hl hP hD hS => va_last C.x C.b C.K hP hD hS q0 2 ha rfl hi d (fun H1 locs1 hP hD hS => kk ls H1 locs1 hl hP hD hS)
theorem r_alen (C : CX k cc nL own Ts R g) {a : Nat} {x : vp_A} {v : Int32} (d : decode cc pc = .ok (.arraylength, 1)) (q0 : Nat) (ha : ws[q0]? = some (a, .inl (g.2 1, x))) (hv : Int32.ofNat x.1 = v) (kk : V k ws (pc + 1) lv (.int v :: st)) : V k ws pc lv (.ref a :: st) := fun ls H locs hl hP hD hS => va_alen C.x C.b C.K hP q0 1 ha rfl hv d (kk ls H locs hl hP hD hS)
theorem r_gets (C : CX k cc nL own Ts R g) {n dd : String} {t N index : Nat} {f : Nat → Value} (d : decode cc pc = .ok (.getstatic index, 3)) (hZ : va_Z RX7 n dd (.ref t) (kA k) (ks k) (ks k).heap ∧ va_T .int t N f (kA k) (ks k) (ks k).heap) (hw : Cond.fieldLink own index RX7 n dd ∈ Ts) (kk : V k ws (pc + 3) lv (.ref t :: st)) : V k ws pc lv st := fun ls H locs hl hP hD hS => va_gets C.x C.b hZ.1 hS C.o (C.t _ hw) (fun _ h => h) d (kk ls H locs hl hP hD hS)
theorem r_getsN (C : CX k cc nL own Ts R g) {n dd : String} {t N index : Nat} {f : Nat → Value} (d : decode cc pc = .ok (.getstatic index, 3)) (hZ : va_Z RX7 n dd (.ref t) (kA k) (ks k) (ks k).heap ∧ va_T .int t N f (kA k) (ks k) (ks k).heap) (hw : va_Nw (.fieldLinkNest own index RX7 n dd RX7) (ks k)) (kk : V k ws (pc + 3) lv (.ref t :: st)) : V k ws pc lv st := fun ls H locs hl hP hD hS => va_getsN C.x C.b hZ.1 hS C.o (va_Nw.use rfl hw) (fun _ h => h) d (kk ls H locs hl hP hD hS)
theorem r_tald (C : CX k cc nL own Ts R g) {n dd : String} {t N : Nat} {f : Nat → Int32} {i : Int32} (d : decode cc pc = .ok (.iaload, 1)) (hZ : va_Z RX7 n dd (.ref t) (kA k) (ks k) (ks k).heap ∧ va_T .int t N (fun j => .int (f j)) (kA k) (ks k) (ks k).heap) (hi : vp_in i N) (kk : V k ws (pc + 1) lv (.int (f i.toNatClampNeg) :: st)) : V k ws pc lv (.int i :: .ref t :: st) := fun ls H locs hl hP hD hS => va_ti C.x C.b hZ.2 hS hi rfl d (kk ls H locs hl hP hD hS)
def imin (x y : Int32) : Int32 := if y < x then y else x
def imax (x y : Int32) : Int32 := if x < y then y else x
def iabs (x : Int32) : Int32 := if 0 ≤ x then x else 0 - x
theorem r_mmin (C : CX k cc nL own Ts R g) {index : Nat} {x y : Int32} (d : decode cc pc = .ok (.invokestatic index, 3)) (h1 : Cond.methodLink own index Lib.Math.min.name ∈ Ts) (h2 : Cond.static Lib.Math.min.name ∈ Ts) (h3 : Cond.initialized "java/lang/Math" ∈ Ts) (h4 : Cond.code Lib.Math.min.name Lib.Math.min.code 2 (some .int) ∈ Ts) (hfr : 1 ≤ R.frames) (hlo : (st.map fun v => v.category).sum + 13 ≤ R.locals) (kk : V k ws (pc + 3) lv (.int (imin x y) :: st)) : V k ws pc lv (.int y :: .int x :: st) := fun ls H locs hl hP hD hS => va_mmin C.x C.b (C.ml.trans hl.1.symm) C.o (C.t _ h1) (C.t _ h2) (C.t _ h3) (C.t _ h4) (C.R ▸ hfr) (C.R ▸ hlo) (C.R ▸ C.cx) (C.R ▸ C.cy) d (kk ls H locs hl hP hD hS)
theorem r_mmax (C : CX k cc nL own Ts R g) {index : Nat} {x y : Int32} (d : decode cc pc = .ok (.invokestatic index, 3)) (h1 : Cond.methodLink own index Lib.Math.max.name ∈ Ts) (h2 : Cond.static Lib.Math.max.name ∈ Ts) (h3 : Cond.initialized "java/lang/Math" ∈ Ts) (h4 : Cond.code Lib.Math.max.name Lib.Math.max.code 2 (some .int) ∈ Ts) (hfr : 1 ≤ R.frames) (hlo : (st.map fun v => v.category).sum + 13 ≤ R.locals) (kk : V k ws (pc + 3) lv (.int (imax x y) :: st)) : V k ws pc lv (.int y :: .int x :: st) := fun ls H locs hl hP hD hS => va_mmax C.x C.b (C.ml.trans hl.1.symm) C.o (C.t _ h1) (C.t _ h2) (C.t _ h3) (C.t _ h4) (C.R ▸ hfr) (C.R ▸ hlo) (C.R ▸ C.cx) (C.R ▸ C.cy) d (kk ls H locs hl hP hD hS)
theorem r_mabs (C : CX k cc nL own Ts R g) {index : Nat} {x : Int32} (d : decode cc pc = .ok (.invokestatic index, 3)) (h1 : Cond.methodLink own index Lib.Math.abs.name ∈ Ts) (h2 : Cond.static Lib.Math.abs.name ∈ Ts) (h3 : Cond.initialized "java/lang/Math" ∈ Ts) (h4 : Cond.code Lib.Math.abs.name Lib.Math.abs.code 1 (some .int) ∈ Ts) (hfr : 1 ≤ R.frames) (hlo : (st.map fun v => v.category).sum + 13 ≤ R.locals) (kk : V k ws (pc + 3) lv (.int (iabs x) :: st)) : V k ws pc lv (.int x :: st) := fun ls H locs hl hP hD hS => va_mabs C.x C.b (C.ml.trans hl.1.symm) C.o (C.t _ h1) (C.t _ h2) (C.t _ h3) (C.t _ h4) (C.R ▸ hfr) (C.R ▸ hlo) (C.R ▸ C.cx) (C.R ▸ C.cy) d (kk ls H locs hl hP hD hS)
theorem r_copyi (C : CX k cc nL own Ts R g) {index a0 a n0 n1 : Nat} {f h : Nat → Int32} {sp dp n : Int32} {ws' : va_W} (d : decode cc pc = .ok (.invokestatic index, 3)) (w1 : Cond.methodLink own index arraycopyName ∈ Ts) (w2 : Cond.native arraycopyName ∈ Ts) (w3 : Cond.static arraycopyName ∈ Ts) (w4 : Cond.initialized "java/lang/System" ∈ Ts) (q0 q1 : Nat) (ha0 : ws[q0]? = some (a0, .inl (g.2 1, n0, .inl f))) (ha1 : ws[q1]? = some (a, .inl (g.2 1, n1, .inl h))) (h1 : ¬ sp < 0) (h2 : ¬ dp < 0) (h3 : ¬ n < 0) (h4 : sp.toNatClampNeg + n.toNatClampNeg ≤ n0) (h5 : dp.toNatClampNeg + n.toNatClampNeg ≤ n1) (hfr : 1 ≤ R.frames) (hlo : (st.map fun v => v.category).sum + (nativeFrameWords "java/lang/System" "arraycopy" 5 + 11) ≤ R.locals) (hset : ws.set q1 (a, .inl (g.2 1, n1, .inl (va_cpy f h sp.toNatClampNeg dp.toNatClampNeg n.toNatClampNeg))) = ws') (kk : V k ws' (pc + 3) lv st) : V k ws pc lv (.int n :: .int dp :: .ref a :: .int sp :: .ref a0 :: st) := by
  subst hset
  exact fun ls H locs hl hP hD hS => va_copyi C.x C.b (C.ml.trans hl.1.symm) C.o (C.t _ w1) (C.t _ w2) (C.t _ w3) (C.t _ w4) C.K hP hD hS q0 q1 1 1 ha0 ha1 rfl rfl rfl h1 h2 h3 h4 h5 (fun _ _ => rfl) (C.R ▸ hfr) (C.R ▸ hlo) d (fun H1 locs1 hP hD hS => kk ls H1 locs1 hl hP hD hS)
/-- a contract's start and end -/
def PRE (D : va_G) (g : GG) (w : va_W) (sz : Nat) (U : State) : Prop := U.heap.size = sz ∧ va_P D vwCl w U.heap ∧ va_K D vwCl (tg g) U ∧ va_D (fun _ => True) w ∧ Stt g (va_A w sz) U ∧ Nst U
def POST (D : va_G) (g : GG) (w' : va_W) (A : Nat → Prop) (o : Option Value) : Array Value → State → Outcome → State → Prop := fun _ st oc t => (oc = .returned o ∧ va_P D vwCl w' t.heap ∧ va_K D vwCl (tg g) t ∧ va_D A w') ∧ va_F A st t
def CON (l : Launch) (y : MethodName) (wsm : List Cond) (rm : Room) (D : va_G) (g : GG) (w : va_W) (As : List Value) (o : Option Value) (w' : va_W) : Prop := ∀ sz : Nat, Met l y wsm rm (va_Pc As (PRE D g w sz)) (POST D g w' (va_A w sz) o) 0 0 (va_A w sz)
theorem pre_blind {D : va_G} {g : GG} {w : va_W} {sz : Nat} {As : List Value} : FrameBlind (va_Pc As (PRE D g w sz)) := by
  intro a U f mk q
  obtain ⟨q0, q1, qP, qK, qD, qS, qN⟩ := q
  refine ⟨q0, q1, qP, va_K.moved (u := U) (U := U.calling f mk a) (Vm.Alike.refl U.vm) qK, qD, ?_, Nst.same rfl qN⟩
  exact Stt.go (U := U.calling f mk a) (H := U.heap) (locs := []) qS va_S.rf (Vm.Alike.refl U.vm) rfl (fun _ h => h)
theorem fr_all {A : Nat → Prop} {ws : va_W} {H0 H : Heap} {locs : List Loc} (hD : va_D A ws) (hS : va_S A H0 H locs) (hA : ∀ q, H0.size ≤ q → A q) : ∀ q, va_A ws H.size q → A q := by
  intro q h
  rcases h with ⟨j, e, h⟩ | h
  · exact hD.2 j (q, e) h
  · exact hA q (Nat.le_trans hS.1 h)
section CALLS
variable {y : MethodName} {wsc ws'' : List Cond} {rm : Room} {w w' : va_W} {As rest : List Value} {o : Option Value} {bytes : ByteArray} {maxL n index b : Nat} {ret : Option FieldType} {Cn : String}
theorem pre_here (C : CX k cc nL own Ts R g) {H : Heap} {locs : List Loc} (hP : va_P (kD k) vwCl w H) (hD : va_D (kA k) w) (hS : va_S (kA k) (ks k).heap H locs) : ∀ U : State, U.heap = H → (ks k).WarmedH U.vm → va_Pc As (PRE (kD k) g w H.size) As.toArray U := fun U hU hW => ⟨rfl, by rw [hU], by rw [hU]; exact hP, va_K.moved hW.alike C.K, hD.weaken (fun _ _ _ _ => trivial), C.S.go hS hW.alike hU (fr_all hD hS C.A), C.N.warm hW⟩
theorem r_run (C : CX k cc nL own Ts R g) {ls : Array Slot} {H : Heap} {locs : List Loc} {st0 : List Value} {a : Array Value} (hl : lv_has ls (kn k) lv) (hD : va_D (kA k) w) (hS : va_S (kA k) (ks k).heap H locs)
    (hr : va_Run (kp k) (kl k) (ke k) (kR k) (ks k) (km k) (ka k) (kb k) (kM k) (kc k) H locs (kx k) (ky k) 0 0 (F0 (km k) pc ls st0) rest (POST (kD k) g w' (va_A w H.size) o a) (va_A w H.size))
    (kk : V k w' (pc + 3) lv (o.toList ++ rest)) : W (kp k) (kl k) (ke k) (kR k) (ks k) (km k) (ka k) (kb k) (kM k) (kc k) H locs (kx k) (ky k) (kQ k) (F0 (km k) pc ls st0) := by
  intro T hT X
  have hF := fr_all hD hS C.A
  obtain ⟨v, st₀, t, T', L, h0, X', hL, e1, e2, ⟨⟨hv, hP1, hK1, hD1⟩, hz, hk⟩, st⟩ := hr T hT X
  cases hv
  rw [h0] at hz hk
  obtain ⟨t2, a1, b1⟩ := kk ls T'.heap (locs ++ L) hl (by rw [e1]; exact hP1) (hD1.weaken (fun _ q _ h => hF q.1 h))
    ⟨Nat.le_trans hS.1 (by rw [e1]; exact hz), fun q h1 h2 => by rw [e1, hk q (Nat.lt_of_lt_of_le h1 hS.1) (fun z => h2 (hF q z))]; exact hS.2.1 q h1 h2, fun q hq => by
      rcases List.mem_append.mp hq with h | h
      · exact hS.2.2 q h
      · exact hF _ (hL q h)⟩ T' rfl X'
  exact ⟨t2, st t2 a1, b1⟩
/-- a virtual call, the world as it stands -/
theorem r_callV (C : CX k cc nL own Ts R g) (hM : CON (kl k) y wsc rm (kD k) g w (.ref b :: As) o w') (d : decode cc pc = .ok (.invokevirtual index, 3)) (hG : GoodIn Ts (wsV own index Cn y wsc)) (hw : wsc = Cond.code y bytes maxL ret :: ws'') (hrc : rm.cells = 0) (hrs : rm.slots = 0)
    (hd : y.cls = Cn ∧ y.cls ≠ "java/lang/invoke/MethodHandle" ∧ y.cls ≠ "java/lang/invoke/VarHandle" ∧ (parseMethodDescriptor y.desc).map (fun d => d.parameters.length) = some n) (hR : rm.frames + 1 ≤ R.frames ∧ 8 + (maxL + 11) + rm.locals ≤ R.locals)
    (q0 : Nat) {ci : Nat} {fs : List Value} {q : vw_C} (he : w[q0]? = some (b, .inr (ci, fs))) (hc : vwCl[ci]? = some q) (hq : q.1 = Cn) (hn : As.length = n) (hst : st = As.reverse ++ .ref b :: rest) (hW : (rest.map fun v => v.category).sum ≤ 8)
    (kk : V k w' (pc + 3) lv (o.toList ++ rest)) : V k w pc lv st := by
  subst hst; subst hq
  intro ls H locs hl hP hD hS
  refine r_run C hl hD hS (va_runV (As := As) (rest := rest) (nL := kn k) ⟨C.x, C.b, C.ml, C.o, C.t⟩ (hM H.size) (cwV n C.t hG hw hrc hrs hd (C.R ▸ hR)) ⟨pre_blind, va_recv C.K hP hc he, pre_here C hP hD hS⟩ rfl hn hl.1 rfl (lv_room hW) d ⟨C.R ▸ C.cx, C.R ▸ C.cy⟩) kk
theorem r_callS (C : CX k cc nL own Ts R g) (hM : CON (kl k) y wsc rm (kD k) g w As o w') (d : decode cc pc = .ok (.invokestatic index, 3)) (hG : GoodIn Ts (va_wsS own index y wsc)) (hw : wsc = Cond.code y bytes maxL ret :: ws'') (hrc : rm.cells = 0) (hrs : rm.slots = 0)
    (hd : y.cls ≠ "java/lang/invoke/MethodHandle" ∧ y.cls ≠ "java/lang/invoke/VarHandle" ∧ (parseMethodDescriptor y.desc).map (fun d => d.parameters.length) = some n) (hR : rm.frames + 1 ≤ R.frames ∧ 8 + (maxL + 11) + rm.locals ≤ R.locals)
    (hn : As.length = n) (hst : st = As.reverse ++ rest) (hW : (rest.map fun v => v.category).sum ≤ 8)
    (kk : V k w' (pc + 3) lv (o.toList ++ rest)) : V k w pc lv st := by
  subst hst
  intro ls H locs hl hP hD hS
  refine r_run C hl hD hS (va_runS (As := As) (rest := rest) (nL := kn k) ⟨C.x, C.b, C.ml, C.o, C.t⟩ (hM H.size) (va_cwS n C.t hG hw hrc hrs hd (C.R ▸ hR)) ⟨pre_blind, pre_here C hP hD hS⟩ rfl hn hl.1 rfl (lv_room hW) d ⟨C.R ▸ C.cx, C.R ▸ C.cy⟩) kk
theorem r_callSN {host : String} (C : CX k cc nL own Ts R g) (hM : CON (kl k) y wsc rm (kD k) g w As o w') (d : decode cc pc = .ok (.invokestatic index, 3)) (hG : GoodIn Ts wsc) (hw : wsc = Cond.code y bytes maxL ret :: ws'') (hrc : rm.cells = 0) (hrs : rm.slots = 0)
    (hnw : va_Nw (.methodLinkNest own index y host) (ks k)) (hini : Cond.initialized y.cls ∈ Ts) (hsta : Cond.static y ∈ Ts)
    (hd : y.cls ≠ "java/lang/invoke/MethodHandle" ∧ y.cls ≠ "java/lang/invoke/VarHandle" ∧ (parseMethodDescriptor y.desc).map (fun d => d.parameters.length) = some n) (hR : rm.frames + 1 ≤ R.frames ∧ 8 + (maxL + 11) + rm.locals ≤ R.locals)
    (hn : As.length = n) (hst : st = As.reverse ++ rest) (hW : (rest.map fun v => v.category).sum ≤ 8)
    (kk : V k w' (pc + 3) lv (o.toList ++ rest)) : V k w pc lv st := by
  subst hst
  intro ls H locs hl hP hD hS
  refine r_run C hl hD hS (va_runSN (As := As) (rest := rest) (nL := kn k) ⟨C.x, C.b, C.ml, C.o, C.t⟩ (hM H.size) ⟨va_cnB n C.t hG hw hrc hrs hnw (C.t _ hini) hd (C.R ▸ hR), C.t _ hsta, trivial⟩ ⟨pre_blind, pre_here C hP hD hS⟩ rfl hn hl.1 rfl (lv_room hW) d ⟨C.R ▸ C.cx, C.R ▸ C.cy⟩) kk
end CALLS
end ROWS
/-- a method's contract out of a walk of its body -/
theorem con_of {l : Launch} {y : MethodName} {wsm ws' : List Cond} {rm : Room} {D : va_G} {g : GG} {w w' : va_W} {As : List Value} {o : Option Value} {cc : ByteArray} {maxL : Nat} {ret : Option FieldType} (hy : plainName y.cls = true) (hw : wsm = Cond.code y cc maxL ret :: ws') (hAs : (lg_sl As).length ≤ maxL) (hrc : rm.cells = 0) (hrs : rm.slots = 0)
    (body : ∀ k : CT, CX k cc maxL y.cls wsm rm g → kl k = l → kD k = D →
      (∀ (pc : Nat) (lv : List (Nat × Value)), decode cc pc = .ok (.return_, 1) → ret = none → o = none → V k w' pc lv []) →
      (∀ (pc : Nat) (lv : List (Nat × Value)) (v : Int32) (ty : FieldType), decode cc pc = .ok (.ireturn, 1) → ret = some ty → narrow ty (.int v) = .int v → o = some (.int v) → V k w' pc lv [.int v]) →
      (∀ (pc : Nat) (lv : List (Nat × Value)) (v : Int64), decode cc pc = .ok (.lreturn, 1) → ret = some .long → o = some (.long v) → V k w' pc lv [.long v]) →
      V k w 0 (lv_args 0 As) []) : CON l y wsm rm D g w As o w' := by
  intro sz
  refine Met.ofW (cc := cc) (maxL := maxL) (ret := ret) hy hw ?_
  intro p e s m args below meth c s₁ B hml hv
  obtain ⟨rfl, hsz, hP, hK, hD0, hSt, hN⟩ := hv
  subst hsz
  have hlocks := B.notSynchronized
  have hD := hD0.self (sz := s.heap.size)
  have hA : ∀ q : Nat, s.heap.size ≤ q → va_A w s.heap.size q := fun q h => Or.inr h
  have hl := lv_entry As (n := maxL) hAs
  rw [lg_entry_eq]
  have key := body (p, l, e, (headSpec wsm rm).room, s, m, As.toArray, below, meth, c, MQ below (POST D g w' (va_A w s.heap.size) o) As.toArray s 0 0 (va_A w s.heap.size), va_A w s.heap.size, D, maxL, 0, 0)
    ⟨B.exec, B.bytes, hml, rfl, findClass_of_methodNamed B.named, atoms_spec (ws := wsm) B.pre, hK, hA, hSt, hN, rfl, Nat.zero_le _, Nat.zero_le _⟩ rfl rfl
    (fun pc lv d h1 h2 => by
      subst h2
      intro ls H locs hl hP hD hS
      exact W.vret B.exec B.bytes (B.returns.trans h1) (fun t ht hW => ⟨⟨rfl, by rw [ht]; exact hP, va_K.moved hW.alike hK, hD⟩, hS.F ht⟩) hS.2.2 d)
    (fun pc lv v ty d h1 hn h2 => by
      subst h2
      intro ls H locs hl hP hD hS
      exact W.zret B.exec B.bytes (B.returns.trans h1) hn (fun t ht hW => ⟨⟨rfl, by rw [ht]; exact hP, va_K.moved hW.alike hK, hD⟩, hS.F ht⟩) hS.2.2 d)
    (fun pc lv v d h1 h2 => by
      subst h2
      intro ls H locs hl hP hD hS
      exact W.lret B.exec B.bytes (B.returns.trans h1) (fun t ht hW => ⟨⟨rfl, by rw [ht]; exact hP, va_K.moved hW.alike hK, hD⟩, hS.F ht⟩) hS.2.2 d)
  exact key _ s.heap [] hl hP hD va_S.rf
end
