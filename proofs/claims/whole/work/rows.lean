section
-- ===== PART A: goes FIRST, ahead of the names: the tables' words, and 'selects' of the private methods out of them =====
/-- a private method of a class that the tables say can be made, by its rows of tables_1 -/
def lw_okq (q : MethodName × Nat) : Prop := (q.1.cls ≠ "java/lang/invoke/MethodHandle" ∧ q.1.cls ≠ "java/lang/invoke/VarHandle") ∧ Cond.instantiable q.1.cls q.2 ∈ tables_1 ∧ Cond.privateMethod q.1 ∈ tables_1 ∧ Cond.instanceMethod q.1 ∈ tables_1
theorem lw_p0 : lw_okq (⟨"GlassBooths", "searchTeams", "(I)V"⟩, 7) := ⟨⟨by decide +kernel, by decide +kernel⟩, List.mem_of_getElem? (i := 11) (by decide +kernel), List.mem_of_getElem? (i := 204) (by decide +kernel), List.mem_of_getElem? (i := 205) (by decide +kernel)⟩
theorem lw_p1 : lw_okq (⟨"GlassBooths$Search", "placeFrom", "(I)V"⟩, 14) := ⟨⟨by decide +kernel, by decide +kernel⟩, List.mem_of_getElem? (i := 49) (by decide +kernel), List.mem_of_getElem? (i := 213) (by decide +kernel), List.mem_of_getElem? (i := 214) (by decide +kernel)⟩
theorem lw_p2 : lw_okq (⟨"GlassBooths$Search", "weighIfWhole", "()V"⟩, 14) := ⟨⟨by decide +kernel, by decide +kernel⟩, List.mem_of_getElem? (i := 49) (by decide +kernel), List.mem_of_getElem? (i := 218) (by decide +kernel), List.mem_of_getElem? (i := 219) (by decide +kernel)⟩
theorem lw_p3 : lw_okq (⟨"GlassBooths$Search", "shareKnown", "()V"⟩, 14) := ⟨⟨by decide +kernel, by decide +kernel⟩, List.mem_of_getElem? (i := 49) (by decide +kernel), List.mem_of_getElem? (i := 222) (by decide +kernel), List.mem_of_getElem? (i := 223) (by decide +kernel)⟩
theorem lw_p4 : lw_okq (⟨"GlassBooths$Search", "reachesFloors", "(I)Z"⟩, 14) := ⟨⟨by decide +kernel, by decide +kernel⟩, List.mem_of_getElem? (i := 49) (by decide +kernel), List.mem_of_getElem? (i := 234) (by decide +kernel), List.mem_of_getElem? (i := 235) (by decide +kernel)⟩
theorem lw_p5 : lw_okq (⟨"GlassBooths$Search", "weigh", "()V"⟩, 14) := ⟨⟨by decide +kernel, by decide +kernel⟩, List.mem_of_getElem? (i := 49) (by decide +kernel), List.mem_of_getElem? (i := 238) (by decide +kernel), List.mem_of_getElem? (i := 239) (by decide +kernel)⟩
theorem lw_p6 : lw_okq (⟨"GlassBooths$Search", "keepIfCheaper", "(I)V"⟩, 14) := ⟨⟨by decide +kernel, by decide +kernel⟩, List.mem_of_getElem? (i := 49) (by decide +kernel), List.mem_of_getElem? (i := 250) (by decide +kernel), List.mem_of_getElem? (i := 251) (by decide +kernel)⟩
theorem lw_p7 : lw_okq (⟨"GlassBooths$Search", "keepIfNearer", "(II)V"⟩, 14) := ⟨⟨by decide +kernel, by decide +kernel⟩, List.mem_of_getElem? (i := 49) (by decide +kernel), List.mem_of_getElem? (i := 257) (by decide +kernel), List.mem_of_getElem? (i := 258) (by decide +kernel)⟩
theorem lw_p8 : lw_okq (⟨"GlassBooths$Search", "placeIn", "(II)V"⟩, 14) := ⟨⟨by decide +kernel, by decide +kernel⟩, List.mem_of_getElem? (i := 49) (by decide +kernel), List.mem_of_getElem? (i := 261) (by decide +kernel), List.mem_of_getElem? (i := 262) (by decide +kernel)⟩
theorem lw_p9 : lw_okq (⟨"GlassBooths$Day", "playHalf", "(I)V"⟩, 6) := ⟨⟨by decide +kernel, by decide +kernel⟩, List.mem_of_getElem? (i := 108) (by decide +kernel), List.mem_of_getElem? (i := 359) (by decide +kernel), List.mem_of_getElem? (i := 360) (by decide +kernel)⟩
theorem lw_p10 : lw_okq (⟨"GlassBooths$Day", "chooseOn", "()V"⟩, 6) := ⟨⟨by decide +kernel, by decide +kernel⟩, List.mem_of_getElem? (i := 108) (by decide +kernel), List.mem_of_getElem? (i := 363) (by decide +kernel), List.mem_of_getElem? (i := 364) (by decide +kernel)⟩
theorem lw_p11 : lw_okq (⟨"GlassBooths$Day", "isFresher", "(II)Z"⟩, 6) := ⟨⟨by decide +kernel, by decide +kernel⟩, List.mem_of_getElem? (i := 108) (by decide +kernel), List.mem_of_getElem? (i := 369) (by decide +kernel), List.mem_of_getElem? (i := 370) (by decide +kernel)⟩
theorem lw_p12 : lw_okq (⟨"GlassBooths$Day", "wayFrom", "(II)I"⟩, 6) := ⟨⟨by decide +kernel, by decide +kernel⟩, List.mem_of_getElem? (i := 108) (by decide +kernel), List.mem_of_getElem? (i := 374) (by decide +kernel), List.mem_of_getElem? (i := 375) (by decide +kernel)⟩
theorem lw_p13 : lw_okq (⟨"GlassBooths$Day", "tire", "(I)V"⟩, 6) := ⟨⟨by decide +kernel, by decide +kernel⟩, List.mem_of_getElem? (i := 108) (by decide +kernel), List.mem_of_getElem? (i := 380) (by decide +kernel), List.mem_of_getElem? (i := 381) (by decide +kernel)⟩
theorem lw_p14 : lw_okq (⟨"GlassBooths$Day", "isTurning", "(I)Z"⟩, 6) := ⟨⟨by decide +kernel, by decide +kernel⟩, List.mem_of_getElem? (i := 108) (by decide +kernel), List.mem_of_getElem? (i := 384) (by decide +kernel), List.mem_of_getElem? (i := 385) (by decide +kernel)⟩
theorem lw_p15 : lw_okq (⟨"GlassBooths$Day", "lateIn", "(II)I"⟩, 6) := ⟨⟨by decide +kernel, by decide +kernel⟩, List.mem_of_getElem? (i := 108) (by decide +kernel), List.mem_of_getElem? (i := 407) (by decide +kernel), List.mem_of_getElem? (i := 408) (by decide +kernel)⟩
def lw_privs_1 : List (MethodName × Nat) := [(⟨"GlassBooths", "searchTeams", "(I)V"⟩, 7), (⟨"GlassBooths$Search", "placeFrom", "(I)V"⟩, 14), (⟨"GlassBooths$Search", "weighIfWhole", "()V"⟩, 14), (⟨"GlassBooths$Search", "shareKnown", "()V"⟩, 14), (⟨"GlassBooths$Search", "reachesFloors", "(I)Z"⟩, 14), (⟨"GlassBooths$Search", "weigh", "()V"⟩, 14), (⟨"GlassBooths$Search", "keepIfCheaper", "(I)V"⟩, 14), (⟨"GlassBooths$Search", "keepIfNearer", "(II)V"⟩, 14), (⟨"GlassBooths$Search", "placeIn", "(II)V"⟩, 14), (⟨"GlassBooths$Day", "playHalf", "(I)V"⟩, 6), (⟨"GlassBooths$Day", "chooseOn", "()V"⟩, 6), (⟨"GlassBooths$Day", "isFresher", "(II)Z"⟩, 6), (⟨"GlassBooths$Day", "wayFrom", "(II)I"⟩, 6), (⟨"GlassBooths$Day", "tire", "(I)V"⟩, 6), (⟨"GlassBooths$Day", "isTurning", "(I)Z"⟩, 6), (⟨"GlassBooths$Day", "lateIn", "(II)I"⟩, 6)]
theorem lw_r1 : ∀ q ∈ lw_privs_1, lw_okq q := List.forall_mem_cons.mpr ⟨lw_p0, List.forall_mem_cons.mpr ⟨lw_p1, List.forall_mem_cons.mpr ⟨lw_p2, List.forall_mem_cons.mpr ⟨lw_p3, List.forall_mem_cons.mpr ⟨lw_p4, List.forall_mem_cons.mpr ⟨lw_p5, List.forall_mem_cons.mpr ⟨lw_p6, List.forall_mem_cons.mpr ⟨lw_p7, List.forall_mem_cons.mpr ⟨lw_p8, List.forall_mem_cons.mpr ⟨lw_p9, List.forall_mem_cons.mpr ⟨lw_p10, List.forall_mem_cons.mpr ⟨lw_p11, List.forall_mem_cons.mpr ⟨lw_p12, List.forall_mem_cons.mpr ⟨lw_p13, List.forall_mem_cons.mpr ⟨lw_p14, List.forall_mem_cons.mpr ⟨lw_p15, fun _ h => absurd h List.not_mem_nil⟩⟩⟩⟩⟩⟩⟩⟩⟩⟩⟩⟩⟩⟩⟩⟩
theorem lw_p16 : lw_okq (⟨"GlassBooths$Day", "tiredAbove", "(I)I"⟩, 6) := ⟨⟨by decide +kernel, by decide +kernel⟩, List.mem_of_getElem? (i := 108) (by decide +kernel), List.mem_of_getElem? (i := 419) (by decide +kernel), List.mem_of_getElem? (i := 420) (by decide +kernel)⟩
theorem lw_p17 : lw_okq (⟨"GlassBoothsModel", "isPerson", "(I)Z"⟩, 25) := ⟨⟨by decide +kernel, by decide +kernel⟩, List.mem_of_getElem? (i := 438) (by decide +kernel), List.mem_of_getElem? (i := 532) (by decide +kernel), List.mem_of_getElem? (i := 533) (by decide +kernel)⟩
theorem lw_p18 : lw_okq (⟨"GlassBoothsModel", "findTeams", "(I)V"⟩, 25) := ⟨⟨by decide +kernel, by decide +kernel⟩, List.mem_of_getElem? (i := 438) (by decide +kernel), List.mem_of_getElem? (i := 551) (by decide +kernel), List.mem_of_getElem? (i := 552) (by decide +kernel)⟩
theorem lw_p19 : lw_okq (⟨"GlassBoothsModel", "isTeam", "(I)Z"⟩, 25) := ⟨⟨by decide +kernel, by decide +kernel⟩, List.mem_of_getElem? (i := 438) (by decide +kernel), List.mem_of_getElem? (i := 555) (by decide +kernel), List.mem_of_getElem? (i := 556) (by decide +kernel)⟩
theorem lw_p20 : lw_okq (⟨"GlassBoothsModel", "isWhole", "(I)Z"⟩, 25) := ⟨⟨by decide +kernel, by decide +kernel⟩, List.mem_of_getElem? (i := 438) (by decide +kernel), List.mem_of_getElem? (i := 562) (by decide +kernel), List.mem_of_getElem? (i := 563) (by decide +kernel)⟩
theorem lw_p21 : lw_okq (⟨"GlassBoothsModel", "allKnow", "(II)Z"⟩, 25) := ⟨⟨by decide +kernel, by decide +kernel⟩, List.mem_of_getElem? (i := 438) (by decide +kernel), List.mem_of_getElem? (i := 566) (by decide +kernel), List.mem_of_getElem? (i := 567) (by decide +kernel)⟩
theorem lw_p22 : lw_okq (⟨"GlassBoothsModel", "seated", "()I"⟩, 25) := ⟨⟨by decide +kernel, by decide +kernel⟩, List.mem_of_getElem? (i := 438) (by decide +kernel), List.mem_of_getElem? (i := 586) (by decide +kernel), List.mem_of_getElem? (i := 587) (by decide +kernel)⟩
theorem lw_p23 : lw_okq (⟨"GlassBoothsModel", "goTo", "(I)V"⟩, 25) := ⟨⟨by decide +kernel, by decide +kernel⟩, List.mem_of_getElem? (i := 438) (by decide +kernel), List.mem_of_getElem? (i := 624) (by decide +kernel), List.mem_of_getElem? (i := 625) (by decide +kernel)⟩
theorem lw_p24 : lw_okq (⟨"GlassBoothsModel", "findOn", "(I)V"⟩, 25) := ⟨⟨by decide +kernel, by decide +kernel⟩, List.mem_of_getElem? (i := 438) (by decide +kernel), List.mem_of_getElem? (i := 628) (by decide +kernel), List.mem_of_getElem? (i := 629) (by decide +kernel)⟩
theorem lw_p25 : lw_okq (⟨"GlassBoothsModel", "knowsIt", "(II)Z"⟩, 25) := ⟨⟨by decide +kernel, by decide +kernel⟩, List.mem_of_getElem? (i := 438) (by decide +kernel), List.mem_of_getElem? (i := 632) (by decide +kernel), List.mem_of_getElem? (i := 633) (by decide +kernel)⟩
def lw_privs_2 : List (MethodName × Nat) := [(⟨"GlassBooths$Day", "tiredAbove", "(I)I"⟩, 6), (⟨"GlassBoothsModel", "isPerson", "(I)Z"⟩, 25), (⟨"GlassBoothsModel", "findTeams", "(I)V"⟩, 25), (⟨"GlassBoothsModel", "isTeam", "(I)Z"⟩, 25), (⟨"GlassBoothsModel", "isWhole", "(I)Z"⟩, 25), (⟨"GlassBoothsModel", "allKnow", "(II)Z"⟩, 25), (⟨"GlassBoothsModel", "seated", "()I"⟩, 25), (⟨"GlassBoothsModel", "goTo", "(I)V"⟩, 25), (⟨"GlassBoothsModel", "findOn", "(I)V"⟩, 25), (⟨"GlassBoothsModel", "knowsIt", "(II)Z"⟩, 25)]
theorem lw_r2 : ∀ q ∈ lw_privs_2, lw_okq q := List.forall_mem_cons.mpr ⟨lw_p16, List.forall_mem_cons.mpr ⟨lw_p17, List.forall_mem_cons.mpr ⟨lw_p18, List.forall_mem_cons.mpr ⟨lw_p19, List.forall_mem_cons.mpr ⟨lw_p20, List.forall_mem_cons.mpr ⟨lw_p21, List.forall_mem_cons.mpr ⟨lw_p22, List.forall_mem_cons.mpr ⟨lw_p23, List.forall_mem_cons.mpr ⟨lw_p24, List.forall_mem_cons.mpr ⟨lw_p25, fun _ h => absurd h List.not_mem_nil⟩⟩⟩⟩⟩⟩⟩⟩⟩⟩
def lw_privs : List (MethodName × Nat) := lw_privs_1 ++ (lw_privs_2)
def lw_tbl : List Cond := k2_sels lw_privs ++ tables_1
theorem lw_privs_ok : ∀ q ∈ lw_privs, lw_okq q := by
  show ∀ q ∈ lw_privs_1 ++ (lw_privs_2), lw_okq q
  exact List.forall_mem_append.mpr ⟨lw_r1, lw_r2⟩
end
section
/-! ===== BEGIN words of one list among another's, by their places ===== -/
theorem goodIn_r {big : List Cond} (ws : List Cond) (ps : List Nat) (hp : ws = ps.filterMap (fun i => big[i]?)) (h : ws.all goodWord = true) : GoodIn big ws := by
  intro w hw
  have h1 := List.all_eq_true.mp h w hw
  rw [hp] at hw
  obtain ⟨i, -, hi⟩ := List.mem_filterMap.mp hw
  have hm : w ∈ big := by first | exact List.mem_of_getElem? hi | exact List.getElem?_mem hi
  exact ⟨hm, good_of_word h1⟩
theorem goodIn_app {big a b : List Cond} (ha : GoodIn big a) (hb : GoodIn big b) : GoodIn big (a ++ b) := fun w h => (List.mem_append.mp h).elim (ha w) (hb w)
theorem goodIn_ca {big a b : List Cond} {c : Cond} (ha : GoodIn big (c :: a)) (hb : GoodIn big b) : GoodIn big (c :: (a ++ b)) := fun w h => (List.mem_cons.mp h).elim (fun e => ha w (List.mem_cons.mpr (Or.inl e))) (fun h => (List.mem_append.mp h).elim (fun h => ha w (List.mem_cons.mpr (Or.inr h))) (hb w))
theorem goodIn_sub {big ws : List Cond} (hm : ∀ w ∈ ws, w ∈ big) (h : ws.all goodWord = true) : GoodIn big ws := fun w hw => ⟨hm w hw, good_of_word (List.all_eq_true.mp h w hw)⟩
/-! ===== END ===== -/

/-! ===== BEGIN printed: names, fields, word lists, decode rows ===== -/
def RX0 : String := "GlassBooths$Day"
def TX0 : u_T := fun k => match k with
  | 0 => ("GlassBooths$Day", "people", "LGlassBooths$People;", true)
  | 1 => ("GlassBooths$Day", "spoken", "[I", true)
  | 2 => ("GlassBooths$Day", "speeds", "[I", true)
  | 3 => ("GlassBooths$Day", "tiredness", "[I", true)
  | 4 => ("GlassBooths$Day", "onIn", "[I", true)
  | _ => ("GlassBooths$Day", "heardBy", "[I", true)
def tyX0 : Nat → FieldType := fun k => match k with
  | 0 => .object "GlassBooths$People"
  | 1 => .array .int
  | 2 => .array .int
  | 3 => .array .int
  | 4 => .array .int
  | _ => .array .int
abbrev wsX00 : List Cond := u_ws RX0 TX0 6
theorem nmX0 : ∀ a, a < 6 → ∀ b, b < 6 → a ≠ b → (TX0 a).2.1 ≠ (TX0 b).2.1 := by decide +kernel
theorem tyX0_ok : ∀ k, k < 6 → parseFieldDescriptor (TX0 k).2.2.1 = some (tyX0 k) := by decide +kernel
abbrev cX0_init : ByteArray := prog_2_method_1_code
def yX0_init : MethodName := ⟨RX0, "<init>", "(LGlassBooths$People;)V"⟩
abbrev cX0_setSpoken : ByteArray := prog_2_method_2_code
def yX0_setSpoken : MethodName := ⟨RX0, "setSpoken", "(III)V"⟩
abbrev cX0_setSilent : ByteArray := prog_2_method_3_code
def yX0_setSilent : MethodName := ⟨RX0, "setSilent", "(I)V"⟩
abbrev cX0_isSilent : ByteArray := prog_2_method_4_code
def yX0_isSilent : MethodName := ⟨RX0, "isSilent", "(I)Z"⟩
abbrev cX0_spokenHalves : ByteArray := prog_2_method_5_code
def yX0_spokenHalves : MethodName := ⟨RX0, "spokenHalves", "()I"⟩
abbrev cX0_playThrough : ByteArray := prog_2_method_6_code
def yX0_playThrough : MethodName := ⟨RX0, "playThrough", "(I)V"⟩
abbrev cX0_lateOverall : ByteArray := prog_2_method_7_code
def yX0_lateOverall : MethodName := ⟨RX0, "lateOverall", "(I)I"⟩
abbrev cX0_wornBits : ByteArray := prog_2_method_8_code
def yX0_wornBits : MethodName := ⟨RX0, "wornBits", "(I)I"⟩
abbrev cX0_playHalf : ByteArray := prog_2_method_9_code
def yX0_playHalf : MethodName := ⟨RX0, "playHalf", "(I)V"⟩
abbrev cX0_chooseOn : ByteArray := prog_2_method_10_code
def yX0_chooseOn : MethodName := ⟨RX0, "chooseOn", "()V"⟩
abbrev cX0_isFresher : ByteArray := prog_2_method_11_code
def yX0_isFresher : MethodName := ⟨RX0, "isFresher", "(II)Z"⟩
abbrev cX0_wayFrom : ByteArray := prog_2_method_12_code
def yX0_wayFrom : MethodName := ⟨RX0, "wayFrom", "(II)I"⟩
abbrev cX0_tire : ByteArray := prog_2_method_13_code
def yX0_tire : MethodName := ⟨RX0, "tire", "(I)V"⟩
abbrev cX0_isTurning : ByteArray := prog_2_method_14_code
def yX0_isTurning : MethodName := ⟨RX0, "isTurning", "(I)Z"⟩
abbrev cX0_lateIn : ByteArray := prog_2_method_15_code
def yX0_lateIn : MethodName := ⟨RX0, "lateIn", "(II)I"⟩
abbrev cX0_tiredAbove : ByteArray := prog_2_method_16_code
def yX0_tiredAbove : MethodName := ⟨RX0, "tiredAbove", "(I)I"⟩
def RX1 : String := "GlassBooths$People"
def TX1 : u_T := fun k => match k with
  | 0 => ("GlassBooths$People", "knownTongues", "[I", true)
  | 1 => ("GlassBooths$People", "spokenTongues", "[I", true)
  | 2 => ("GlassBooths$People", "pays", "[I", true)
  | 3 => ("GlassBooths$People", "booths", "[I", true)
  | 4 => ("GlassBooths$People", "size", "I", false)
  | _ => ("GlassBooths$People", "illBits", "I", false)
def tyX1 : Nat → FieldType := fun k => match k with
  | 0 => .array .int
  | 1 => .array .int
  | 2 => .array .int
  | 3 => .array .int
  | 4 => .int
  | _ => .int
abbrev wsX10 : List Cond := u_ws RX1 TX1 6
theorem nmX1 : ∀ a, a < 6 → ∀ b, b < 6 → a ≠ b → (TX1 a).2.1 ≠ (TX1 b).2.1 := by decide +kernel
theorem tyX1_ok : ∀ k, k < 6 → parseFieldDescriptor (TX1 k).2.2.1 = some (tyX1 k) := by decide +kernel
abbrev cX1_init : ByteArray := prog_3_method_1_code
def yX1_init : MethodName := ⟨RX1, "<init>", "()V"⟩
abbrev cX1_has : ByteArray := prog_3_method_2_code
def yX1_has : MethodName := ⟨RX1, "has", "(I)Z"⟩
abbrev cX1_add : ByteArray := prog_3_method_3_code
def yX1_add : MethodName := ⟨RX1, "add", "(III)I"⟩
abbrev cX1_isIll : ByteArray := prog_3_method_4_code
def yX1_isIll : MethodName := ⟨RX1, "isIll", "(I)Z"⟩
abbrev cX1_setIll : ByteArray := prog_3_method_5_code
def yX1_setIll : MethodName := ⟨RX1, "setIll", "(IZ)V"⟩
abbrev cX1_payOf : ByteArray := prog_3_method_6_code
def yX1_payOf : MethodName := ⟨RX1, "payOf", "(I)I"⟩
abbrev cX1_knownBy : ByteArray := prog_3_method_7_code
def yX1_knownBy : MethodName := ⟨RX1, "knownBy", "(I)I"⟩
abbrev cX1_boothOf : ByteArray := prog_3_method_8_code
def yX1_boothOf : MethodName := ⟨RX1, "boothOf", "(I)I"⟩
abbrev cX1_canTurnInto : ByteArray := prog_3_method_9_code
def yX1_canTurnInto : MethodName := ⟨RX1, "canTurnInto", "(II)Z"⟩
abbrev cX1_ableToTurnInto : ByteArray := prog_3_method_10_code
def yX1_ableToTurnInto : MethodName := ⟨RX1, "ableToTurnInto", "(I)I"⟩
abbrev cX1_seated : ByteArray := prog_3_method_11_code
def yX1_seated : MethodName := ⟨RX1, "seated", "()I"⟩
abbrev cX1_unseatAll : ByteArray := prog_3_method_12_code
def yX1_unseatAll : MethodName := ⟨RX1, "unseatAll", "()V"⟩
abbrev cX1_seatAs : ByteArray := prog_3_method_13_code
def yX1_seatAs : MethodName := ⟨RX1, "seatAs", "([I)V"⟩
def RX2 : String := "GlassBooths$Search"
def TX2 : u_T := fun k => match k with
  | 0 => ("GlassBooths$Search", "people", "LGlassBooths$People;", true)
  | 1 => ("GlassBooths$Search", "trial", "[I", true)
  | 2 => ("GlassBooths$Search", "freeSeats", "[I", true)
  | 3 => ("GlassBooths$Search", "sharedKnown", "[I", true)
  | 4 => ("GlassBooths$Search", "cheapestTeam", "[I", true)
  | 5 => ("GlassBooths$Search", "nearestTeam", "[I", true)
  | 6 => ("GlassBooths$Search", "openSeats", "I", false)
  | 7 => ("GlassBooths$Search", "floors", "I", false)
  | 8 => ("GlassBooths$Search", "wanted", "I", false)
  | 9 => ("GlassBooths$Search", "found", "I", false)
  | 10 => ("GlassBooths$Search", "sparedBits", "I", false)
  | 11 => ("GlassBooths$Search", "leastPay", "I", false)
  | 12 => ("GlassBooths$Search", "fewestMoved", "I", false)
  | _ => ("GlassBooths$Search", "payOfNearest", "I", false)
def tyX2 : Nat → FieldType := fun k => match k with
  | 0 => .object "GlassBooths$People"
  | 1 => .array .int
  | 2 => .array .int
  | 3 => .array .int
  | 4 => .array .int
  | 5 => .array .int
  | 6 => .int
  | 7 => .int
  | 8 => .int
  | 9 => .int
  | 10 => .int
  | 11 => .int
  | 12 => .int
  | _ => .int
abbrev wsX20 : List Cond := u_ws RX2 TX2 14
theorem nmX2 : ∀ a, a < 14 → ∀ b, b < 14 → a ≠ b → (TX2 a).2.1 ≠ (TX2 b).2.1 := by decide +kernel
theorem tyX2_ok : ∀ k, k < 14 → parseFieldDescriptor (TX2 k).2.2.1 = some (tyX2 k) := by decide +kernel
abbrev cX2_init : ByteArray := prog_4_method_1_code
def yX2_init : MethodName := ⟨RX2, "<init>", "(LGlassBooths$People;)V"⟩
abbrev cX2_prepare : ByteArray := prog_4_method_2_code
def yX2_prepare : MethodName := ⟨RX2, "prepare", "(III)V"⟩
abbrev cX2_placeFrom : ByteArray := prog_4_method_3_code
def yX2_placeFrom : MethodName := ⟨RX2, "placeFrom", "(I)V"⟩
abbrev cX2_placeIn : ByteArray := prog_4_method_4_code
def yX2_placeIn : MethodName := ⟨RX2, "placeIn", "(II)V"⟩
abbrev cX2_weighIfWhole : ByteArray := prog_4_method_5_code
def yX2_weighIfWhole : MethodName := ⟨RX2, "weighIfWhole", "()V"⟩
abbrev cX2_shareKnown : ByteArray := prog_4_method_6_code
def yX2_shareKnown : MethodName := ⟨RX2, "shareKnown", "()V"⟩
abbrev cX2_reachesFloors : ByteArray := prog_4_method_7_code
def yX2_reachesFloors : MethodName := ⟨RX2, "reachesFloors", "(I)Z"⟩
abbrev cX2_weigh : ByteArray := prog_4_method_8_code
def yX2_weigh : MethodName := ⟨RX2, "weigh", "()V"⟩
abbrev cX2_keepIfCheaper : ByteArray := prog_4_method_9_code
def yX2_keepIfCheaper : MethodName := ⟨RX2, "keepIfCheaper", "(I)V"⟩
abbrev cX2_keepIfNearer : ByteArray := prog_4_method_10_code
def yX2_keepIfNearer : MethodName := ⟨RX2, "keepIfNearer", "(II)V"⟩
def RX3 : String := "GlassBooths"
def TX3 : u_T := fun k => match k with
  | 0 => ("GlassBooths", "people", "LGlassBooths$People;", true)
  | 1 => ("GlassBooths", "search", "LGlassBooths$Search;", true)
  | 2 => ("GlassBooths", "day", "LGlassBooths$Day;", true)
  | 3 => ("GlassBooths", "floorsOf", "[I", true)
  | 4 => ("GlassBooths", "wantedIn", "[I", true)
  | 5 => ("GlassBooths", "seatsEach", "I", false)
  | _ => ("GlassBooths", "wornAbove", "I", false)
def tyX3 : Nat → FieldType := fun k => match k with
  | 0 => .object "GlassBooths$People"
  | 1 => .object "GlassBooths$Search"
  | 2 => .object "GlassBooths$Day"
  | 3 => .array .int
  | 4 => .array .int
  | 5 => .int
  | _ => .int
abbrev wsX30 : List Cond := u_ws RX3 TX3 7
theorem nmX3 : ∀ a, a < 7 → ∀ b, b < 7 → a ≠ b → (TX3 a).2.1 ≠ (TX3 b).2.1 := by decide +kernel
theorem tyX3_ok : ∀ k, k < 7 → parseFieldDescriptor (TX3 k).2.2.1 = some (tyX3 k) := by decide +kernel
abbrev cX3_init : ByteArray := prog_1_method_1_code
def yX3_init : MethodName := ⟨RX3, "<init>", "()V"⟩
abbrev cX3_person : ByteArray := prog_1_method_2_code
def yX3_person : MethodName := ⟨RX3, "person", "(III)I"⟩
abbrev cX3_ill : ByteArray := prog_1_method_3_code
def yX3_ill : MethodName := ⟨RX3, "ill", "(IZ)I"⟩
abbrev cX3_session : ByteArray := prog_1_method_4_code
def yX3_session : MethodName := ⟨RX3, "session", "(III)I"⟩
abbrev cX3_seats : ByteArray := prog_1_method_5_code
def yX3_seats : MethodName := ⟨RX3, "seats", "(I)I"⟩
abbrev cX3_whole : ByteArray := prog_1_method_6_code
def yX3_whole : MethodName := ⟨RX3, "whole", "(I)I"⟩
abbrev cX3_cheapest : ByteArray := prog_1_method_7_code
def yX3_cheapest : MethodName := ⟨RX3, "cheapest", "(I)I"⟩
abbrev cX3_nearest : ByteArray := prog_1_method_8_code
def yX3_nearest : MethodName := ⟨RX3, "nearest", "(I)I"⟩
abbrev cX3_take : ByteArray := prog_1_method_9_code
def yX3_take : MethodName := ⟨RX3, "take", "(II)I"⟩
abbrev cX3_leave : ByteArray := prog_1_method_10_code
def yX3_leave : MethodName := ⟨RX3, "leave", "()I"⟩
abbrev cX3_booth : ByteArray := prog_1_method_11_code
def yX3_booth : MethodName := ⟨RX3, "booth", "(I)I"⟩
abbrev cX3_lacking : ByteArray := prog_1_method_12_code
def yX3_lacking : MethodName := ⟨RX3, "lacking", "(I)I"⟩
abbrev cX3_needed : ByteArray := prog_1_method_13_code
def yX3_needed : MethodName := ⟨RX3, "needed", "(II)I"⟩
abbrev cX3_speak : ByteArray := prog_1_method_14_code
def yX3_speak : MethodName := ⟨RX3, "speak", "(III)I"⟩
abbrev cX3_silence : ByteArray := prog_1_method_15_code
def yX3_silence : MethodName := ⟨RX3, "silence", "(I)I"⟩
abbrev cX3_limit : ByteArray := prog_1_method_16_code
def yX3_limit : MethodName := ⟨RX3, "limit", "(I)I"⟩
abbrev cX3_on : ByteArray := prog_1_method_17_code
def yX3_on : MethodName := ⟨RX3, "on", "(II)I"⟩
abbrev cX3_heard : ByteArray := prog_1_method_18_code
def yX3_heard : MethodName := ⟨RX3, "heard", "(II)I"⟩
abbrev cX3_tired : ByteArray := prog_1_method_19_code
def yX3_tired : MethodName := ⟨RX3, "tired", "(II)I"⟩
abbrev cX3_late : ByteArray := prog_1_method_20_code
def yX3_late : MethodName := ⟨RX3, "late", "(I)I"⟩
abbrev cX3_worn : ByteArray := prog_1_method_21_code
def yX3_worn : MethodName := ⟨RX3, "worn", "()I"⟩
abbrev cX3_count : ByteArray := prog_1_method_22_code
def yX3_count : MethodName := ⟨RX3, "count", "(I)I"⟩
abbrev cX3_searchTeams : ByteArray := prog_1_method_23_code
def yX3_searchTeams : MethodName := ⟨RX3, "searchTeams", "(I)V"⟩
abbrev cX3_isSession : ByteArray := prog_1_method_24_code
def yX3_isSession : MethodName := ⟨RX3, "isSession", "(I)Z"⟩
abbrev cX3_isTongue : ByteArray := prog_1_method_25_code
def yX3_isTongue : MethodName := ⟨RX3, "isTongue", "(I)Z"⟩
abbrev cX3_isHalf : ByteArray := prog_1_method_26_code
def yX3_isHalf : MethodName := ⟨RX3, "isHalf", "(I)Z"⟩
abbrev cX3_areTongues : ByteArray := prog_1_method_27_code
def yX3_areTongues : MethodName := ⟨RX3, "areTongues", "(I)Z"⟩
abbrev cX3_holds : ByteArray := prog_1_method_28_code
def yX3_holds : MethodName := ⟨RX3, "holds", "(II)Z"⟩
def RX4 : String := "GlassBoothsModel"
def TX4 : u_T := fun k => match k with
  | 0 => ("GlassBoothsModel", "people", "I", false)
  | 1 => ("GlassBoothsModel", "knows", "[I", true)
  | 2 => ("GlassBoothsModel", "speaks", "[I", true)
  | 3 => ("GlassBoothsModel", "pay", "[I", true)
  | 4 => ("GlassBoothsModel", "isIll", "[Z", true)
  | 5 => ("GlassBoothsModel", "floors", "[I", true)
  | 6 => ("GlassBoothsModel", "wanted", "[I", true)
  | 7 => ("GlassBoothsModel", "seats", "I", false)
  | 8 => ("GlassBoothsModel", "booth", "[I", true)
  | 9 => ("GlassBoothsModel", "spoken", "[I", true)
  | 10 => ("GlassBoothsModel", "speed", "[I", true)
  | 11 => ("GlassBoothsModel", "limit", "I", false)
  | 12 => ("GlassBoothsModel", "row", "[I", true)
  | 13 => ("GlassBoothsModel", "wholeMany", "I", false)
  | 14 => ("GlassBoothsModel", "cheapest", "I", false)
  | 15 => ("GlassBoothsModel", "cheap", "[I", true)
  | 16 => ("GlassBoothsModel", "nearest", "I", false)
  | 17 => ("GlassBoothsModel", "nearPay", "I", false)
  | 18 => ("GlassBoothsModel", "near", "[I", true)
  | 19 => ("GlassBoothsModel", "always", "I", false)
  | 20 => ("GlassBoothsModel", "tired", "[I", true)
  | 21 => ("GlassBoothsModel", "on", "[I", true)
  | 22 => ("GlassBoothsModel", "heard", "[I", true)
  | 23 => ("GlassBoothsModel", "worn", "I", false)
  | _ => ("GlassBoothsModel", "lateOf", "[I", true)
def tyX4 : Nat → FieldType := fun k => match k with
  | 0 => .int
  | 1 => .array .int
  | 2 => .array .int
  | 3 => .array .int
  | 4 => .array .boolean
  | 5 => .array .int
  | 6 => .array .int
  | 7 => .int
  | 8 => .array .int
  | 9 => .array .int
  | 10 => .array .int
  | 11 => .int
  | 12 => .array .int
  | 13 => .int
  | 14 => .int
  | 15 => .array .int
  | 16 => .int
  | 17 => .int
  | 18 => .array .int
  | 19 => .int
  | 20 => .array .int
  | 21 => .array .int
  | 22 => .array .int
  | 23 => .int
  | _ => .array .int
abbrev wsX40 : List Cond := u_ws RX4 TX4 25
theorem nmX4 : ∀ a, a < 25 → ∀ b, b < 25 → a ≠ b → (TX4 a).2.1 ≠ (TX4 b).2.1 := by decide +kernel
theorem tyX4_ok : ∀ k, k < 25 → parseFieldDescriptor (TX4 k).2.2.1 = some (tyX4 k) := by decide +kernel
abbrev cX4_init : ByteArray := prog_6_method_1_code
def yX4_init : MethodName := ⟨RX4, "<init>", "()V"⟩
abbrev cX4_in : ByteArray := prog_6_method_2_code
def yX4_in : MethodName := ⟨RX4, "in", "(III)Z"⟩
abbrev cX4_isPerson : ByteArray := prog_6_method_3_code
def yX4_isPerson : MethodName := ⟨RX4, "isPerson", "(I)Z"⟩
abbrev cX4_isSession : ByteArray := prog_6_method_4_code
def yX4_isSession : MethodName := ⟨RX4, "isSession", "(I)Z"⟩
abbrev cX4_isTongue : ByteArray := prog_6_method_5_code
def yX4_isTongue : MethodName := ⟨RX4, "isTongue", "(I)Z"⟩
abbrev cX4_isHalf : ByteArray := prog_6_method_6_code
def yX4_isHalf : MethodName := ⟨RX4, "isHalf", "(I)Z"⟩
abbrev cX4_has : ByteArray := prog_6_method_7_code
def yX4_has : MethodName := ⟨RX4, "has", "(II)Z"⟩
abbrev cX4_person : ByteArray := prog_6_method_8_code
def yX4_person : MethodName := ⟨RX4, "person", "(III)I"⟩
abbrev cX4_ill : ByteArray := prog_6_method_9_code
def yX4_ill : MethodName := ⟨RX4, "ill", "(IZ)I"⟩
abbrev cX4_session : ByteArray := prog_6_method_10_code
def yX4_session : MethodName := ⟨RX4, "session", "(III)I"⟩
abbrev cX4_seats : ByteArray := prog_6_method_11_code
def yX4_seats : MethodName := ⟨RX4, "seats", "(I)I"⟩
abbrev cX4_isTeam : ByteArray := prog_6_method_12_code
def yX4_isTeam : MethodName := ⟨RX4, "isTeam", "(I)Z"⟩
abbrev cX4_allKnow : ByteArray := prog_6_method_13_code
def yX4_allKnow : MethodName := ⟨RX4, "allKnow", "(II)Z"⟩
abbrev cX4_isWhole : ByteArray := prog_6_method_14_code
def yX4_isWhole : MethodName := ⟨RX4, "isWhole", "(I)Z"⟩
abbrev cX4_findTeams : ByteArray := prog_6_method_15_code
def yX4_findTeams : MethodName := ⟨RX4, "findTeams", "(I)V"⟩
abbrev cX4_whole : ByteArray := prog_6_method_16_code
def yX4_whole : MethodName := ⟨RX4, "whole", "(I)I"⟩
abbrev cX4_cheapest : ByteArray := prog_6_method_17_code
def yX4_cheapest : MethodName := ⟨RX4, "cheapest", "(I)I"⟩
abbrev cX4_nearest : ByteArray := prog_6_method_18_code
def yX4_nearest : MethodName := ⟨RX4, "nearest", "(I)I"⟩
abbrev cX4_take : ByteArray := prog_6_method_19_code
def yX4_take : MethodName := ⟨RX4, "take", "(II)I"⟩
abbrev cX4_seated : ByteArray := prog_6_method_20_code
def yX4_seated : MethodName := ⟨RX4, "seated", "()I"⟩
abbrev cX4_leave : ByteArray := prog_6_method_21_code
def yX4_leave : MethodName := ⟨RX4, "leave", "()I"⟩
abbrev cX4_booth : ByteArray := prog_6_method_22_code
def yX4_booth : MethodName := ⟨RX4, "booth", "(I)I"⟩
abbrev cX4_lacking : ByteArray := prog_6_method_23_code
def yX4_lacking : MethodName := ⟨RX4, "lacking", "(I)I"⟩
abbrev cX4_needed : ByteArray := prog_6_method_24_code
def yX4_needed : MethodName := ⟨RX4, "needed", "(II)I"⟩
abbrev cX4_speak : ByteArray := prog_6_method_25_code
def yX4_speak : MethodName := ⟨RX4, "speak", "(III)I"⟩
abbrev cX4_silence : ByteArray := prog_6_method_26_code
def yX4_silence : MethodName := ⟨RX4, "silence", "(I)I"⟩
abbrev cX4_limit : ByteArray := prog_6_method_27_code
def yX4_limit : MethodName := ⟨RX4, "limit", "(I)I"⟩
abbrev cX4_knowsIt : ByteArray := prog_6_method_28_code
def yX4_knowsIt : MethodName := ⟨RX4, "knowsIt", "(II)Z"⟩
abbrev cX4_findOn : ByteArray := prog_6_method_29_code
def yX4_findOn : MethodName := ⟨RX4, "findOn", "(I)V"⟩
abbrev cX4_goTo : ByteArray := prog_6_method_30_code
def yX4_goTo : MethodName := ⟨RX4, "goTo", "(I)V"⟩
abbrev cX4_on : ByteArray := prog_6_method_31_code
def yX4_on : MethodName := ⟨RX4, "on", "(II)I"⟩
abbrev cX4_heard : ByteArray := prog_6_method_32_code
def yX4_heard : MethodName := ⟨RX4, "heard", "(II)I"⟩
abbrev cX4_tired : ByteArray := prog_6_method_33_code
def yX4_tired : MethodName := ⟨RX4, "tired", "(II)I"⟩
abbrev cX4_late : ByteArray := prog_6_method_34_code
def yX4_late : MethodName := ⟨RX4, "late", "(I)I"⟩
abbrev cX4_worn : ByteArray := prog_6_method_35_code
def yX4_worn : MethodName := ⟨RX4, "worn", "()I"⟩
abbrev cX4_count : ByteArray := prog_6_method_36_code
def yX4_count : MethodName := ⟨RX4, "count", "(I)I"⟩
def RJ6 : String := "java/lang/Integer"
def TJ6 : u_T := fun k => match k with
  | _ => ("", "", "", false)
def tyJ6 : Nat → FieldType := fun k => match k with
  | _ => .int
abbrev wsJ60 : List Cond := u_ws RJ6 TJ6 0
theorem nmJ6 : ∀ a, a < 0 → ∀ b, b < 0 → a ≠ b → (TJ6 a).2.1 ≠ (TJ6 b).2.1 := by decide +kernel
theorem tyJ6_ok : ∀ k, k < 0 → parseFieldDescriptor (TJ6 k).2.2.1 = some (tyJ6 k) := by decide +kernel
abbrev cJ6_bitCount_0f7a4 : ByteArray := prog_7_method_49_code
def yJ6_bitCount_0f7a4 : MethodName := ⟨RJ6, "bitCount", "(I)I"⟩
def RJ9 : String := "java/lang/Math"
def TJ9 : u_T := fun k => match k with
  | _ => ("", "", "", false)
def tyJ9 : Nat → FieldType := fun k => match k with
  | _ => .int
abbrev wsJ90 : List Cond := u_ws RJ9 TJ9 0
theorem nmJ9 : ∀ a, a < 0 → ∀ b, b < 0 → a ≠ b → (TJ9 a).2.1 ≠ (TJ9 b).2.1 := by decide +kernel
theorem tyJ9_ok : ∀ k, k < 0 → parseFieldDescriptor (TJ9 k).2.2.1 = some (tyJ9 k) := by decide +kernel
abbrev cJ9_max_7cf53 : ByteArray := prog_8_method_65_code
def yJ9_max_7cf53 : MethodName := ⟨RJ9, "max", "(II)I"⟩
def RJ10 : String := "java/lang/System"
def TJ10 : u_T := fun k => match k with
  | _ => ("", "", "", false)
def tyJ10 : Nat → FieldType := fun k => match k with
  | _ => .int
abbrev wsJ100 : List Cond := u_ws RJ10 TJ10 0
theorem nmJ10 : ∀ a, a < 0 → ∀ b, b < 0 → a ≠ b → (TJ10 a).2.1 ≠ (TJ10 b).2.1 := by decide +kernel
theorem tyJ10_ok : ∀ k, k < 0 → parseFieldDescriptor (TJ10 k).2.2.1 = some (tyJ10 k) := by decide +kernel
def RJ7 : String := "java/util/Arrays"
def TJ7 : u_T := fun k => match k with
  | _ => ("", "", "", false)
def tyJ7 : Nat → FieldType := fun k => match k with
  | _ => .int
abbrev wsJ70 : List Cond := u_ws RJ7 TJ7 0
theorem nmJ7 : ∀ a, a < 0 → ∀ b, b < 0 → a ≠ b → (TJ7 a).2.1 ≠ (TJ7 b).2.1 := by decide +kernel
theorem tyJ7_ok : ∀ k, k < 0 → parseFieldDescriptor (TJ7 k).2.2.1 = some (tyJ7 k) := by decide +kernel
abbrev cJ7_fill_53178 : ByteArray := prog_10_method_103_code
def yJ7_fill_53178 : MethodName := ⟨RJ7, "fill", "([II)V"⟩
def RL : String := "GlassBoothsLaw"
abbrev cL_law : ByteArray := code
def yL_law : MethodName := ⟨RL, "law", "([I)Z"⟩
def wsJ7_fill_53178 : List Cond := .code yJ7_fill_53178 cJ7_fill_53178 4 none :: ([])
def wsX0_init : List Cond := .code yX0_init cX0_init 2 none :: ([.methodLink RX0 3 objectInit, .instanceMethod objectInit, .code objectInit ⟨#[0xb1]⟩ 1 none, .arrayClass .int, .fieldLink RX0 9 "GlassBooths$Day" "spoken" "[I", .fieldLink RX0 15 "GlassBooths$Day" "speeds" "[I", .fieldLink RX0 18 "GlassBooths$Day" "tiredness" "[I", .fieldLink RX0 21 "GlassBooths$Day" "onIn" "[I", .fieldLink RX0 24 "GlassBooths$Day" "heardBy" "[I", .fieldLink RX0 27 "GlassBooths$Day" "people" "LGlassBooths$People;", .methodLink RX0 31 yJ7_fill_53178, .static yJ7_fill_53178, .initialized RJ7, .code yJ7_fill_53178 cJ7_fill_53178 4 none] ++ wsX00)
def wsX3_isHalf : List Cond := .code yX3_isHalf cX3_isHalf 1 (some .boolean) :: ([])
def wsX0_setSpoken : List Cond := .code yX0_setSpoken cX0_setSpoken 4 none :: ([.fieldLink RX0 9 "GlassBooths$Day" "spoken" "[I", .fieldLink RX0 15 "GlassBooths$Day" "speeds" "[I", .static yX3_isHalf, .initialized RX3, .code yX3_isHalf cX3_isHalf 1 (some .boolean)] ++ wsX00)
def wsX0_setSilent : List Cond := .code yX0_setSilent cX0_setSilent 2 none :: ([.methodLink RX0 41 yX0_setSpoken, .instanceMethod yX0_setSpoken, .selects RX0 yX0_setSpoken yX0_setSpoken, .initialized RX0, .code yX0_setSpoken cX0_setSpoken 4 none, .fieldLink RX0 9 "GlassBooths$Day" "spoken" "[I", .fieldLink RX0 15 "GlassBooths$Day" "speeds" "[I", .static yX3_isHalf, .initialized RX3, .code yX3_isHalf cX3_isHalf 1 (some .boolean)] ++ wsX00)
def wsX0_isSilent : List Cond := .code yX0_isSilent cX0_isSilent 2 (some .boolean) :: ([.fieldLink RX0 9 "GlassBooths$Day" "spoken" "[I", .static yX3_isHalf, .initialized RX3, .code yX3_isHalf cX3_isHalf 1 (some .boolean)] ++ wsX00)
def wsX0_spokenHalves : List Cond := .code yX0_spokenHalves cX0_spokenHalves 3 (some .int) :: ([.methodLink RX0 45 yX0_isSilent, .instanceMethod yX0_isSilent, .selects RX0 yX0_isSilent yX0_isSilent, .initialized RX0, .code yX0_isSilent cX0_isSilent 2 (some .boolean), .fieldLink RX0 9 "GlassBooths$Day" "spoken" "[I", .static yX3_isHalf, .initialized RX3, .code yX3_isHalf cX3_isHalf 1 (some .boolean)] ++ wsX00)
def wsX1_has : List Cond := .code yX1_has cX1_has 2 (some .boolean) :: ([.fieldLink RX1 24 "GlassBooths$People" "size" "I"] ++ wsX10)
def wsX1_boothOf : List Cond := .code yX1_boothOf cX1_boothOf 2 (some .int) :: ([.fieldLink RX1 21 "GlassBooths$People" "booths" "[I", .methodLink RX1 35 yX1_has, .instanceMethod yX1_has, .selects RX1 yX1_has yX1_has, .initialized RX1, .code yX1_has cX1_has 2 (some .boolean), .fieldLink RX1 24 "GlassBooths$People" "size" "I"] ++ wsX10)
def wsX3_isTongue : List Cond := .code yX3_isTongue cX3_isTongue 1 (some .boolean) :: ([])
def wsX0_isFresher : List Cond := .code yX0_isFresher cX0_isFresher 3 (some .boolean) :: ([.fieldLink RX0 27 "GlassBooths$Day" "people" "LGlassBooths$People;", .fieldLink RX0 18 "GlassBooths$Day" "tiredness" "[I", .methodLink RX0 85 yX1_has, .instanceMethod yX1_has, .selects RX1 yX1_has yX1_has, .initialized RX1, .code yX1_has cX1_has 2 (some .boolean), .fieldLink RX1 24 "GlassBooths$People" "size" "I"] ++ wsX00 ++ wsX10)
def wsX0_chooseOn_r1 : List Cond := [Cond.fieldLink RX0 21 "GlassBooths$Day" "onIn" "[I", Cond.fieldLink RX0 27 "GlassBooths$Day" "people" "LGlassBooths$People;", Cond.methodLink RX0 31 yJ7_fill_53178, Cond.static yJ7_fill_53178, Cond.initialized RJ7, Cond.code yJ7_fill_53178 cJ7_fill_53178 4 none, Cond.methodLink RX0 75 yX1_boothOf, Cond.instanceMethod yX1_boothOf, Cond.selects RX1 yX1_boothOf yX1_boothOf, Cond.initialized RX1, Cond.code yX1_boothOf cX1_boothOf 2 (some .int), Cond.fieldLink RX1 21 "GlassBooths$People" "booths" "[I", Cond.methodLink RX1 35 yX1_has, Cond.instanceMethod yX1_has, Cond.selects RX1 yX1_has yX1_has, Cond.code yX1_has cX1_has 2 (some .boolean), Cond.fieldLink RX1 24 "GlassBooths$People" "size" "I", Cond.static yX3_isTongue, Cond.initialized RX3, Cond.code yX3_isTongue cX3_isTongue 1 (some .boolean), Cond.methodLink RX0 81 yX0_isFresher, Cond.instanceMethod yX0_isFresher, Cond.selects RX0 yX0_isFresher yX0_isFresher, Cond.initialized RX0]
def wsX0_chooseOn_r2 : List Cond := [Cond.code yX0_isFresher cX0_isFresher 3 (some .boolean), Cond.fieldLink RX0 18 "GlassBooths$Day" "tiredness" "[I", Cond.methodLink RX0 85 yX1_has]
def wsX0_chooseOn : List Cond := .code yX0_chooseOn cX0_chooseOn 3 none :: ((wsX0_chooseOn_r1 ++ wsX0_chooseOn_r2) ++ wsX00 ++ wsX10)
def wsX1_knownBy : List Cond := .code yX1_knownBy cX1_knownBy 2 (some .int) :: ([.fieldLink RX1 9 "GlassBooths$People" "knownTongues" "[I", .methodLink RX1 35 yX1_has, .instanceMethod yX1_has, .selects RX1 yX1_has yX1_has, .initialized RX1, .code yX1_has cX1_has 2 (some .boolean), .fieldLink RX1 24 "GlassBooths$People" "size" "I"] ++ wsX10)
def wsX3_holds : List Cond := .code yX3_holds cX3_holds 2 (some .boolean) :: ([])
def wsX0_wayFrom : List Cond := .code yX0_wayFrom cX0_wayFrom 5 (some .int) :: ([.fieldLink RX0 21 "GlassBooths$Day" "onIn" "[I", .fieldLink RX0 27 "GlassBooths$Day" "people" "LGlassBooths$People;", .methodLink RX0 88 yX1_knownBy, .instanceMethod yX1_knownBy, .selects RX1 yX1_knownBy yX1_knownBy, .initialized RX1, .code yX1_knownBy cX1_knownBy 2 (some .int), .fieldLink RX1 9 "GlassBooths$People" "knownTongues" "[I", .methodLink RX1 35 yX1_has, .instanceMethod yX1_has, .selects RX1 yX1_has yX1_has, .code yX1_has cX1_has 2 (some .boolean), .fieldLink RX1 24 "GlassBooths$People" "size" "I", .static yX3_holds, .initialized RX3, .code yX3_holds cX3_holds 2 (some .boolean)] ++ wsX00 ++ wsX10)
def wsX0_isTurning : List Cond := .code yX0_isTurning cX0_isTurning 3 (some .boolean) :: ([.fieldLink RX0 27 "GlassBooths$Day" "people" "LGlassBooths$People;", .fieldLink RX0 21 "GlassBooths$Day" "onIn" "[I", .fieldLink RX0 24 "GlassBooths$Day" "heardBy" "[I", .methodLink RX0 75 yX1_boothOf, .instanceMethod yX1_boothOf, .selects RX1 yX1_boothOf yX1_boothOf, .initialized RX1, .code yX1_boothOf cX1_boothOf 2 (some .int), .fieldLink RX1 21 "GlassBooths$People" "booths" "[I", .methodLink RX1 35 yX1_has, .instanceMethod yX1_has, .selects RX1 yX1_has yX1_has, .code yX1_has cX1_has 2 (some .boolean), .fieldLink RX1 24 "GlassBooths$People" "size" "I", .static yX3_isTongue, .initialized RX3, .code yX3_isTongue cX3_isTongue 1 (some .boolean)] ++ wsX00 ++ wsX10)
def wsX0_tire_r1 : List Cond := [Cond.fieldLink RX0 27 "GlassBooths$Day" "people" "LGlassBooths$People;", Cond.fieldLink RX0 18 "GlassBooths$Day" "tiredness" "[I", Cond.methodLink RX0 97 Lib.Math.max.name, Cond.static Lib.Math.max.name, Cond.initialized "java/lang/Math", Cond.code Lib.Math.max.name Lib.Math.max.code 2 (some .int), Cond.methodLink RX0 94 yX0_isTurning, Cond.instanceMethod yX0_isTurning, Cond.selects RX0 yX0_isTurning yX0_isTurning, Cond.initialized RX0, Cond.code yX0_isTurning cX0_isTurning 3 (some .boolean), Cond.fieldLink RX0 21 "GlassBooths$Day" "onIn" "[I", Cond.fieldLink RX0 24 "GlassBooths$Day" "heardBy" "[I", Cond.methodLink RX0 75 yX1_boothOf, Cond.instanceMethod yX1_boothOf, Cond.selects RX1 yX1_boothOf yX1_boothOf, Cond.initialized RX1, Cond.code yX1_boothOf cX1_boothOf 2 (some .int), Cond.fieldLink RX1 21 "GlassBooths$People" "booths" "[I", Cond.methodLink RX1 35 yX1_has, Cond.instanceMethod yX1_has, Cond.selects RX1 yX1_has yX1_has, Cond.code yX1_has cX1_has 2 (some .boolean), Cond.fieldLink RX1 24 "GlassBooths$People" "size" "I"]
def wsX0_tire_r2 : List Cond := [Cond.static yX3_isTongue, Cond.initialized RX3, Cond.code yX3_isTongue cX3_isTongue 1 (some .boolean)]
def wsX0_tire : List Cond := .code yX0_tire cX0_tire 3 none :: ((wsX0_tire_r1 ++ wsX0_tire_r2) ++ wsX00 ++ wsX10)
def wsX0_playHalf_r1 : List Cond := [Cond.fieldLink RX0 24 "GlassBooths$Day" "heardBy" "[I", Cond.fieldLink RX0 9 "GlassBooths$Day" "spoken" "[I", Cond.fieldLink RX0 15 "GlassBooths$Day" "speeds" "[I", Cond.static yX3_isHalf, Cond.initialized RX3, Cond.code yX3_isHalf cX3_isHalf 1 (some .boolean), Cond.methodLink RX0 60 yX0_chooseOn, Cond.instanceMethod yX0_chooseOn, Cond.selects RX0 yX0_chooseOn yX0_chooseOn, Cond.initialized RX0, Cond.code yX0_chooseOn cX0_chooseOn 3 none, Cond.fieldLink RX0 21 "GlassBooths$Day" "onIn" "[I", Cond.fieldLink RX0 27 "GlassBooths$Day" "people" "LGlassBooths$People;", Cond.methodLink RX0 31 yJ7_fill_53178, Cond.static yJ7_fill_53178, Cond.initialized RJ7, Cond.code yJ7_fill_53178 cJ7_fill_53178 4 none, Cond.methodLink RX0 75 yX1_boothOf, Cond.instanceMethod yX1_boothOf, Cond.selects RX1 yX1_boothOf yX1_boothOf, Cond.initialized RX1, Cond.code yX1_boothOf cX1_boothOf 2 (some .int), Cond.fieldLink RX1 21 "GlassBooths$People" "booths" "[I", Cond.methodLink RX1 35 yX1_has]
def wsX0_playHalf_r2 : List Cond := [Cond.instanceMethod yX1_has, Cond.selects RX1 yX1_has yX1_has, Cond.code yX1_has cX1_has 2 (some .boolean), Cond.fieldLink RX1 24 "GlassBooths$People" "size" "I", Cond.static yX3_isTongue, Cond.code yX3_isTongue cX3_isTongue 1 (some .boolean), Cond.methodLink RX0 81 yX0_isFresher, Cond.instanceMethod yX0_isFresher, Cond.selects RX0 yX0_isFresher yX0_isFresher, Cond.code yX0_isFresher cX0_isFresher 3 (some .boolean), Cond.fieldLink RX0 18 "GlassBooths$Day" "tiredness" "[I", Cond.methodLink RX0 85 yX1_has, Cond.methodLink RX0 63 yX0_wayFrom, Cond.instanceMethod yX0_wayFrom, Cond.selects RX0 yX0_wayFrom yX0_wayFrom, Cond.code yX0_wayFrom cX0_wayFrom 5 (some .int), Cond.methodLink RX0 88 yX1_knownBy, Cond.instanceMethod yX1_knownBy, Cond.selects RX1 yX1_knownBy yX1_knownBy, Cond.code yX1_knownBy cX1_knownBy 2 (some .int), Cond.fieldLink RX1 9 "GlassBooths$People" "knownTongues" "[I", Cond.static yX3_holds, Cond.code yX3_holds cX3_holds 2 (some .boolean), Cond.methodLink RX0 66 yX0_tire]
def wsX0_playHalf_r3 : List Cond := [Cond.instanceMethod yX0_tire, Cond.selects RX0 yX0_tire yX0_tire, Cond.code yX0_tire cX0_tire 3 none, Cond.methodLink RX0 97 Lib.Math.max.name, Cond.static Lib.Math.max.name, Cond.initialized "java/lang/Math", Cond.code Lib.Math.max.name Lib.Math.max.code 2 (some .int), Cond.methodLink RX0 94 yX0_isTurning, Cond.instanceMethod yX0_isTurning, Cond.selects RX0 yX0_isTurning yX0_isTurning, Cond.code yX0_isTurning cX0_isTurning 3 (some .boolean)]
def wsX0_playHalf : List Cond := .code yX0_playHalf cX0_playHalf 3 none :: ((wsX0_playHalf_r1 ++ (wsX0_playHalf_r2 ++ wsX0_playHalf_r3)) ++ wsX00 ++ wsX10)
def wsX0_playThrough_r1 : List Cond := [Cond.fieldLink RX0 18 "GlassBooths$Day" "tiredness" "[I", Cond.methodLink RX0 31 yJ7_fill_53178, Cond.static yJ7_fill_53178, Cond.initialized RJ7, Cond.code yJ7_fill_53178 cJ7_fill_53178 4 none, Cond.methodLink RX0 48 yX0_playHalf, Cond.instanceMethod yX0_playHalf, Cond.selects RX0 yX0_playHalf yX0_playHalf, Cond.initialized RX0, Cond.code yX0_playHalf cX0_playHalf 3 none, Cond.fieldLink RX0 24 "GlassBooths$Day" "heardBy" "[I", Cond.fieldLink RX0 9 "GlassBooths$Day" "spoken" "[I", Cond.fieldLink RX0 15 "GlassBooths$Day" "speeds" "[I", Cond.static yX3_isHalf, Cond.initialized RX3, Cond.code yX3_isHalf cX3_isHalf 1 (some .boolean), Cond.methodLink RX0 60 yX0_chooseOn, Cond.instanceMethod yX0_chooseOn, Cond.selects RX0 yX0_chooseOn yX0_chooseOn, Cond.code yX0_chooseOn cX0_chooseOn 3 none, Cond.fieldLink RX0 21 "GlassBooths$Day" "onIn" "[I", Cond.fieldLink RX0 27 "GlassBooths$Day" "people" "LGlassBooths$People;", Cond.methodLink RX0 75 yX1_boothOf, Cond.instanceMethod yX1_boothOf]
def wsX0_playThrough_r2 : List Cond := [Cond.selects RX1 yX1_boothOf yX1_boothOf, Cond.initialized RX1, Cond.code yX1_boothOf cX1_boothOf 2 (some .int), Cond.fieldLink RX1 21 "GlassBooths$People" "booths" "[I", Cond.methodLink RX1 35 yX1_has, Cond.instanceMethod yX1_has, Cond.selects RX1 yX1_has yX1_has, Cond.code yX1_has cX1_has 2 (some .boolean), Cond.fieldLink RX1 24 "GlassBooths$People" "size" "I", Cond.static yX3_isTongue, Cond.code yX3_isTongue cX3_isTongue 1 (some .boolean), Cond.methodLink RX0 81 yX0_isFresher, Cond.instanceMethod yX0_isFresher, Cond.selects RX0 yX0_isFresher yX0_isFresher, Cond.code yX0_isFresher cX0_isFresher 3 (some .boolean), Cond.methodLink RX0 85 yX1_has, Cond.methodLink RX0 63 yX0_wayFrom, Cond.instanceMethod yX0_wayFrom, Cond.selects RX0 yX0_wayFrom yX0_wayFrom, Cond.code yX0_wayFrom cX0_wayFrom 5 (some .int), Cond.methodLink RX0 88 yX1_knownBy, Cond.instanceMethod yX1_knownBy, Cond.selects RX1 yX1_knownBy yX1_knownBy, Cond.code yX1_knownBy cX1_knownBy 2 (some .int)]
def wsX0_playThrough_r3 : List Cond := [Cond.fieldLink RX1 9 "GlassBooths$People" "knownTongues" "[I", Cond.static yX3_holds, Cond.code yX3_holds cX3_holds 2 (some .boolean), Cond.methodLink RX0 66 yX0_tire, Cond.instanceMethod yX0_tire, Cond.selects RX0 yX0_tire yX0_tire, Cond.code yX0_tire cX0_tire 3 none, Cond.methodLink RX0 97 Lib.Math.max.name, Cond.static Lib.Math.max.name, Cond.initialized "java/lang/Math", Cond.code Lib.Math.max.name Lib.Math.max.code 2 (some .int), Cond.methodLink RX0 94 yX0_isTurning, Cond.instanceMethod yX0_isTurning, Cond.selects RX0 yX0_isTurning yX0_isTurning, Cond.code yX0_isTurning cX0_isTurning 3 (some .boolean)]
def wsX0_playThrough : List Cond := .code yX0_playThrough cX0_playThrough 3 none :: ((wsX0_playThrough_r1 ++ (wsX0_playThrough_r2 ++ wsX0_playThrough_r3)) ++ wsX00 ++ wsX10)
def wsX0_lateIn : List Cond := .code yX0_lateIn cX0_lateIn 4 (some .int) :: ([.fieldLink RX0 24 "GlassBooths$Day" "heardBy" "[I", .fieldLink RX0 15 "GlassBooths$Day" "speeds" "[I", .static yX3_isHalf, .initialized RX3, .code yX3_isHalf cX3_isHalf 1 (some .boolean), .static yX3_isTongue, .code yX3_isTongue cX3_isTongue 1 (some .boolean)] ++ wsX00)
def wsX0_lateOverall_r1 : List Cond := [Cond.fieldLink RX0 18 "GlassBooths$Day" "tiredness" "[I", Cond.methodLink RX0 31 yJ7_fill_53178, Cond.static yJ7_fill_53178, Cond.initialized RJ7, Cond.code yJ7_fill_53178 cJ7_fill_53178 4 none, Cond.methodLink RX0 48 yX0_playHalf, Cond.instanceMethod yX0_playHalf, Cond.selects RX0 yX0_playHalf yX0_playHalf, Cond.initialized RX0, Cond.code yX0_playHalf cX0_playHalf 3 none, Cond.fieldLink RX0 24 "GlassBooths$Day" "heardBy" "[I", Cond.fieldLink RX0 9 "GlassBooths$Day" "spoken" "[I", Cond.fieldLink RX0 15 "GlassBooths$Day" "speeds" "[I", Cond.static yX3_isHalf, Cond.initialized RX3, Cond.code yX3_isHalf cX3_isHalf 1 (some .boolean), Cond.methodLink RX0 60 yX0_chooseOn, Cond.instanceMethod yX0_chooseOn, Cond.selects RX0 yX0_chooseOn yX0_chooseOn, Cond.code yX0_chooseOn cX0_chooseOn 3 none, Cond.fieldLink RX0 21 "GlassBooths$Day" "onIn" "[I", Cond.fieldLink RX0 27 "GlassBooths$Day" "people" "LGlassBooths$People;", Cond.methodLink RX0 75 yX1_boothOf, Cond.instanceMethod yX1_boothOf]
def wsX0_lateOverall_r2 : List Cond := [Cond.selects RX1 yX1_boothOf yX1_boothOf, Cond.initialized RX1, Cond.code yX1_boothOf cX1_boothOf 2 (some .int), Cond.fieldLink RX1 21 "GlassBooths$People" "booths" "[I", Cond.methodLink RX1 35 yX1_has, Cond.instanceMethod yX1_has, Cond.selects RX1 yX1_has yX1_has, Cond.code yX1_has cX1_has 2 (some .boolean), Cond.fieldLink RX1 24 "GlassBooths$People" "size" "I", Cond.static yX3_isTongue, Cond.code yX3_isTongue cX3_isTongue 1 (some .boolean), Cond.methodLink RX0 81 yX0_isFresher, Cond.instanceMethod yX0_isFresher, Cond.selects RX0 yX0_isFresher yX0_isFresher, Cond.code yX0_isFresher cX0_isFresher 3 (some .boolean), Cond.methodLink RX0 85 yX1_has, Cond.methodLink RX0 63 yX0_wayFrom, Cond.instanceMethod yX0_wayFrom, Cond.selects RX0 yX0_wayFrom yX0_wayFrom, Cond.code yX0_wayFrom cX0_wayFrom 5 (some .int), Cond.methodLink RX0 88 yX1_knownBy, Cond.instanceMethod yX1_knownBy, Cond.selects RX1 yX1_knownBy yX1_knownBy, Cond.code yX1_knownBy cX1_knownBy 2 (some .int)]
def wsX0_lateOverall_r3 : List Cond := [Cond.fieldLink RX1 9 "GlassBooths$People" "knownTongues" "[I", Cond.static yX3_holds, Cond.code yX3_holds cX3_holds 2 (some .boolean), Cond.methodLink RX0 66 yX0_tire, Cond.instanceMethod yX0_tire, Cond.selects RX0 yX0_tire yX0_tire, Cond.code yX0_tire cX0_tire 3 none, Cond.methodLink RX0 97 Lib.Math.max.name, Cond.static Lib.Math.max.name, Cond.initialized "java/lang/Math", Cond.code Lib.Math.max.name Lib.Math.max.code 2 (some .int), Cond.methodLink RX0 94 yX0_isTurning, Cond.instanceMethod yX0_isTurning, Cond.selects RX0 yX0_isTurning yX0_isTurning, Cond.code yX0_isTurning cX0_isTurning 3 (some .boolean), Cond.methodLink RX0 52 yX0_lateIn, Cond.instanceMethod yX0_lateIn, Cond.selects RX0 yX0_lateIn yX0_lateIn, Cond.code yX0_lateIn cX0_lateIn 4 (some .int)]
def wsX0_lateOverall : List Cond := .code yX0_lateOverall cX0_lateOverall 4 (some .int) :: ((wsX0_lateOverall_r1 ++ (wsX0_lateOverall_r2 ++ wsX0_lateOverall_r3)) ++ wsX00 ++ wsX10)
def wsX0_tiredAbove : List Cond := .code yX0_tiredAbove cX0_tiredAbove 4 (some .int) :: ([.fieldLink RX0 27 "GlassBooths$Day" "people" "LGlassBooths$People;", .fieldLink RX0 18 "GlassBooths$Day" "tiredness" "[I"] ++ wsX00 ++ wsX10)
def wsX0_wornBits_r1 : List Cond := [Cond.fieldLink RX0 18 "GlassBooths$Day" "tiredness" "[I", Cond.methodLink RX0 31 yJ7_fill_53178, Cond.static yJ7_fill_53178, Cond.initialized RJ7, Cond.code yJ7_fill_53178 cJ7_fill_53178 4 none, Cond.methodLink RX0 48 yX0_playHalf, Cond.instanceMethod yX0_playHalf, Cond.selects RX0 yX0_playHalf yX0_playHalf, Cond.initialized RX0, Cond.code yX0_playHalf cX0_playHalf 3 none, Cond.fieldLink RX0 24 "GlassBooths$Day" "heardBy" "[I", Cond.fieldLink RX0 9 "GlassBooths$Day" "spoken" "[I", Cond.fieldLink RX0 15 "GlassBooths$Day" "speeds" "[I", Cond.static yX3_isHalf, Cond.initialized RX3, Cond.code yX3_isHalf cX3_isHalf 1 (some .boolean), Cond.methodLink RX0 60 yX0_chooseOn, Cond.instanceMethod yX0_chooseOn, Cond.selects RX0 yX0_chooseOn yX0_chooseOn, Cond.code yX0_chooseOn cX0_chooseOn 3 none, Cond.fieldLink RX0 21 "GlassBooths$Day" "onIn" "[I", Cond.fieldLink RX0 27 "GlassBooths$Day" "people" "LGlassBooths$People;", Cond.methodLink RX0 75 yX1_boothOf, Cond.instanceMethod yX1_boothOf]
def wsX0_wornBits_r2 : List Cond := [Cond.selects RX1 yX1_boothOf yX1_boothOf, Cond.initialized RX1, Cond.code yX1_boothOf cX1_boothOf 2 (some .int), Cond.fieldLink RX1 21 "GlassBooths$People" "booths" "[I", Cond.methodLink RX1 35 yX1_has, Cond.instanceMethod yX1_has, Cond.selects RX1 yX1_has yX1_has, Cond.code yX1_has cX1_has 2 (some .boolean), Cond.fieldLink RX1 24 "GlassBooths$People" "size" "I", Cond.static yX3_isTongue, Cond.code yX3_isTongue cX3_isTongue 1 (some .boolean), Cond.methodLink RX0 81 yX0_isFresher, Cond.instanceMethod yX0_isFresher, Cond.selects RX0 yX0_isFresher yX0_isFresher, Cond.code yX0_isFresher cX0_isFresher 3 (some .boolean), Cond.methodLink RX0 85 yX1_has, Cond.methodLink RX0 63 yX0_wayFrom, Cond.instanceMethod yX0_wayFrom, Cond.selects RX0 yX0_wayFrom yX0_wayFrom, Cond.code yX0_wayFrom cX0_wayFrom 5 (some .int), Cond.methodLink RX0 88 yX1_knownBy, Cond.instanceMethod yX1_knownBy, Cond.selects RX1 yX1_knownBy yX1_knownBy, Cond.code yX1_knownBy cX1_knownBy 2 (some .int)]
def wsX0_wornBits_r3 : List Cond := [Cond.fieldLink RX1 9 "GlassBooths$People" "knownTongues" "[I", Cond.static yX3_holds, Cond.code yX3_holds cX3_holds 2 (some .boolean), Cond.methodLink RX0 66 yX0_tire, Cond.instanceMethod yX0_tire, Cond.selects RX0 yX0_tire yX0_tire, Cond.code yX0_tire cX0_tire 3 none, Cond.methodLink RX0 97 Lib.Math.max.name, Cond.static Lib.Math.max.name, Cond.initialized "java/lang/Math", Cond.code Lib.Math.max.name Lib.Math.max.code 2 (some .int), Cond.methodLink RX0 94 yX0_isTurning, Cond.instanceMethod yX0_isTurning, Cond.selects RX0 yX0_isTurning yX0_isTurning, Cond.code yX0_isTurning cX0_isTurning 3 (some .boolean), Cond.methodLink RX0 56 yX0_tiredAbove, Cond.instanceMethod yX0_tiredAbove, Cond.selects RX0 yX0_tiredAbove yX0_tiredAbove, Cond.code yX0_tiredAbove cX0_tiredAbove 4 (some .int)]
def wsX0_wornBits : List Cond := .code yX0_wornBits cX0_wornBits 4 (some .int) :: ((wsX0_wornBits_r1 ++ (wsX0_wornBits_r2 ++ wsX0_wornBits_r3)) ++ wsX00 ++ wsX10)
def wsX1_init : List Cond := .code yX1_init cX1_init 1 none :: ([.methodLink RX1 3 objectInit, .instanceMethod objectInit, .code objectInit ⟨#[0xb1]⟩ 1 none, .arrayClass .int, .fieldLink RX1 9 "GlassBooths$People" "knownTongues" "[I", .fieldLink RX1 15 "GlassBooths$People" "spokenTongues" "[I", .fieldLink RX1 18 "GlassBooths$People" "pays" "[I", .fieldLink RX1 21 "GlassBooths$People" "booths" "[I"] ++ wsX10)
def wsX1_add : List Cond := .code yX1_add cX1_add 4 (some .int) :: ([.fieldLink RX1 24 "GlassBooths$People" "size" "I", .fieldLink RX1 9 "GlassBooths$People" "knownTongues" "[I", .fieldLink RX1 15 "GlassBooths$People" "spokenTongues" "[I", .fieldLink RX1 18 "GlassBooths$People" "pays" "[I", .fieldLink RX1 21 "GlassBooths$People" "booths" "[I"] ++ wsX10)
def wsX1_isIll : List Cond := .code yX1_isIll cX1_isIll 2 (some .boolean) :: ([.fieldLink RX1 28 "GlassBooths$People" "illBits" "I", .static yX3_holds, .initialized RX3, .code yX3_holds cX3_holds 2 (some .boolean)] ++ wsX10)
def wsX1_setIll : List Cond := .code yX1_setIll cX1_setIll 4 none :: ([.fieldLink RX1 28 "GlassBooths$People" "illBits" "I"] ++ wsX10)
def wsX1_payOf : List Cond := .code yX1_payOf cX1_payOf 2 (some .int) :: ([.fieldLink RX1 18 "GlassBooths$People" "pays" "[I", .methodLink RX1 35 yX1_has, .instanceMethod yX1_has, .selects RX1 yX1_has yX1_has, .initialized RX1, .code yX1_has cX1_has 2 (some .boolean), .fieldLink RX1 24 "GlassBooths$People" "size" "I"] ++ wsX10)
def wsX1_canTurnInto : List Cond := .code yX1_canTurnInto cX1_canTurnInto 3 (some .boolean) :: ([.fieldLink RX1 15 "GlassBooths$People" "spokenTongues" "[I", .methodLink RX1 35 yX1_has, .instanceMethod yX1_has, .selects RX1 yX1_has yX1_has, .initialized RX1, .code yX1_has cX1_has 2 (some .boolean), .fieldLink RX1 24 "GlassBooths$People" "size" "I", .methodLink RX1 39 yX1_isIll, .instanceMethod yX1_isIll, .selects RX1 yX1_isIll yX1_isIll, .code yX1_isIll cX1_isIll 2 (some .boolean), .fieldLink RX1 28 "GlassBooths$People" "illBits" "I", .static yX3_holds, .initialized RX3, .code yX3_holds cX3_holds 2 (some .boolean)] ++ wsX10)
def wsX1_ableToTurnInto : List Cond := .code yX1_ableToTurnInto cX1_ableToTurnInto 4 (some .int) :: ([.fieldLink RX1 24 "GlassBooths$People" "size" "I", .methodLink RX1 42 yX1_canTurnInto, .instanceMethod yX1_canTurnInto, .selects RX1 yX1_canTurnInto yX1_canTurnInto, .initialized RX1, .code yX1_canTurnInto cX1_canTurnInto 3 (some .boolean), .fieldLink RX1 15 "GlassBooths$People" "spokenTongues" "[I", .methodLink RX1 35 yX1_has, .instanceMethod yX1_has, .selects RX1 yX1_has yX1_has, .code yX1_has cX1_has 2 (some .boolean), .methodLink RX1 39 yX1_isIll, .instanceMethod yX1_isIll, .selects RX1 yX1_isIll yX1_isIll, .code yX1_isIll cX1_isIll 2 (some .boolean), .fieldLink RX1 28 "GlassBooths$People" "illBits" "I", .static yX3_holds, .initialized RX3, .code yX3_holds cX3_holds 2 (some .boolean)] ++ wsX10)
def wsX1_seated : List Cond := .code yX1_seated cX1_seated 3 (some .int) :: ([.fieldLink RX1 24 "GlassBooths$People" "size" "I", .methodLink RX1 45 yX1_boothOf, .instanceMethod yX1_boothOf, .selects RX1 yX1_boothOf yX1_boothOf, .initialized RX1, .code yX1_boothOf cX1_boothOf 2 (some .int), .fieldLink RX1 21 "GlassBooths$People" "booths" "[I", .methodLink RX1 35 yX1_has, .instanceMethod yX1_has, .selects RX1 yX1_has yX1_has, .code yX1_has cX1_has 2 (some .boolean)] ++ wsX10)
def wsX1_unseatAll : List Cond := .code yX1_unseatAll cX1_unseatAll 1 none :: ([.fieldLink RX1 21 "GlassBooths$People" "booths" "[I", .methodLink RX1 49 yJ7_fill_53178, .static yJ7_fill_53178, .initialized RJ7, .code yJ7_fill_53178 cJ7_fill_53178 4 none] ++ wsX10)
def wsX1_seatAs : List Cond := .code yX1_seatAs cX1_seatAs 2 none :: ([.fieldLink RX1 21 "GlassBooths$People" "booths" "[I", .methodLink RX1 55 arraycopyName, .native arraycopyName, .static arraycopyName, .initialized "java/lang/System"] ++ wsX10)
def wsX2_init : List Cond := .code yX2_init cX2_init 2 none :: ([.methodLink RX2 3 objectInit, .instanceMethod objectInit, .code objectInit ⟨#[0xb1]⟩ 1 none, .arrayClass .int, .fieldLink RX2 9 "GlassBooths$Search" "trial" "[I", .fieldLink RX2 15 "GlassBooths$Search" "freeSeats" "[I", .fieldLink RX2 18 "GlassBooths$Search" "sharedKnown" "[I", .fieldLink RX2 21 "GlassBooths$Search" "cheapestTeam" "[I", .fieldLink RX2 24 "GlassBooths$Search" "nearestTeam" "[I", .fieldLink RX2 27 "GlassBooths$Search" "people" "LGlassBooths$People;", .methodLink RX2 31 yJ7_fill_53178, .static yJ7_fill_53178, .initialized RJ7, .code yJ7_fill_53178 cJ7_fill_53178 4 none] ++ wsX20)
def wsX2_prepare : List Cond := .code yX2_prepare cX2_prepare 5 none :: ([.fieldLink RX2 37 "GlassBooths$Search" "floors" "I", .fieldLink RX2 41 "GlassBooths$Search" "wanted" "I", .fieldLink RX2 44 "GlassBooths$Search" "found" "I", .fieldLink RX2 47 "GlassBooths$Search" "sparedBits" "I", .fieldLink RX2 50 "GlassBooths$Search" "leastPay" "I", .fieldLink RX2 53 "GlassBooths$Search" "fewestMoved" "I", .fieldLink RX2 56 "GlassBooths$Search" "payOfNearest" "I", .fieldLink RX2 59 "GlassBooths$Search" "openSeats" "I", .fieldLink RX2 15 "GlassBooths$Search" "freeSeats" "[I", .static yX3_holds, .initialized RX3, .code yX3_holds cX3_holds 2 (some .boolean)] ++ wsX20)
def wsX2_shareKnown : List Cond := .code yX2_shareKnown cX2_shareKnown 3 none :: ([.fieldLink RX2 18 "GlassBooths$Search" "sharedKnown" "[I", .fieldLink RX2 27 "GlassBooths$Search" "people" "LGlassBooths$People;", .fieldLink RX2 9 "GlassBooths$Search" "trial" "[I", .methodLink RX2 31 yJ7_fill_53178, .static yJ7_fill_53178, .initialized RJ7, .code yJ7_fill_53178 cJ7_fill_53178 4 none, .static yX3_isTongue, .initialized RX3, .code yX3_isTongue cX3_isTongue 1 (some .boolean), .methodLink RX2 101 yX1_knownBy, .instanceMethod yX1_knownBy, .selects RX1 yX1_knownBy yX1_knownBy, .initialized RX1, .code yX1_knownBy cX1_knownBy 2 (some .int), .fieldLink RX1 9 "GlassBooths$People" "knownTongues" "[I", .methodLink RX1 35 yX1_has, .instanceMethod yX1_has, .selects RX1 yX1_has yX1_has, .code yX1_has cX1_has 2 (some .boolean), .fieldLink RX1 24 "GlassBooths$People" "size" "I"] ++ wsX20 ++ wsX10)
def wsX2_reachesFloors : List Cond := .code yX2_reachesFloors cX2_reachesFloors 4 (some .boolean) :: ([.fieldLink RX2 18 "GlassBooths$Search" "sharedKnown" "[I", .fieldLink RX2 41 "GlassBooths$Search" "wanted" "I", .fieldLink RX2 37 "GlassBooths$Search" "floors" "I", .static yX3_holds, .initialized RX3, .code yX3_holds cX3_holds 2 (some .boolean)] ++ wsX20)
def wsX2_keepIfCheaper : List Cond := .code yX2_keepIfCheaper cX2_keepIfCheaper 2 none :: ([.fieldLink RX2 44 "GlassBooths$Search" "found" "I", .fieldLink RX2 50 "GlassBooths$Search" "leastPay" "I", .fieldLink RX2 9 "GlassBooths$Search" "trial" "[I", .fieldLink RX2 21 "GlassBooths$Search" "cheapestTeam" "[I", .methodLink RX2 117 arraycopyName, .native arraycopyName, .static arraycopyName, .initialized "java/lang/System"] ++ wsX20)
def wsX2_keepIfNearer : List Cond := .code yX2_keepIfNearer cX2_keepIfNearer 3 none :: ([.fieldLink RX2 44 "GlassBooths$Search" "found" "I", .fieldLink RX2 53 "GlassBooths$Search" "fewestMoved" "I", .fieldLink RX2 56 "GlassBooths$Search" "payOfNearest" "I", .fieldLink RX2 9 "GlassBooths$Search" "trial" "[I", .fieldLink RX2 24 "GlassBooths$Search" "nearestTeam" "[I", .methodLink RX2 117 arraycopyName, .native arraycopyName, .static arraycopyName, .initialized "java/lang/System"] ++ wsX20)
def wsX2_weigh_r1 : List Cond := [Cond.fieldLink RX2 27 "GlassBooths$Search" "people" "LGlassBooths$People;", Cond.fieldLink RX2 9 "GlassBooths$Search" "trial" "[I", Cond.fieldLink RX2 47 "GlassBooths$Search" "sparedBits" "I", Cond.fieldLink RX2 44 "GlassBooths$Search" "found" "I", Cond.methodLink RX2 105 yX1_payOf, Cond.instanceMethod yX1_payOf, Cond.selects RX1 yX1_payOf yX1_payOf, Cond.initialized RX1, Cond.code yX1_payOf cX1_payOf 2 (some .int), Cond.fieldLink RX1 18 "GlassBooths$People" "pays" "[I", Cond.methodLink RX1 35 yX1_has, Cond.instanceMethod yX1_has, Cond.selects RX1 yX1_has yX1_has, Cond.code yX1_has cX1_has 2 (some .boolean), Cond.fieldLink RX1 24 "GlassBooths$People" "size" "I", Cond.methodLink RX2 108 yX1_boothOf, Cond.instanceMethod yX1_boothOf, Cond.selects RX1 yX1_boothOf yX1_boothOf, Cond.code yX1_boothOf cX1_boothOf 2 (some .int), Cond.fieldLink RX1 21 "GlassBooths$People" "booths" "[I", Cond.methodLink RX2 111 yX2_keepIfCheaper, Cond.instanceMethod yX2_keepIfCheaper, Cond.selects RX2 yX2_keepIfCheaper yX2_keepIfCheaper, Cond.initialized RX2]
def wsX2_weigh_r2 : List Cond := [Cond.code yX2_keepIfCheaper cX2_keepIfCheaper 2 none, Cond.fieldLink RX2 50 "GlassBooths$Search" "leastPay" "I", Cond.fieldLink RX2 21 "GlassBooths$Search" "cheapestTeam" "[I", Cond.methodLink RX2 117 arraycopyName, Cond.native arraycopyName, Cond.static arraycopyName, Cond.initialized "java/lang/System", Cond.methodLink RX2 114 yX2_keepIfNearer, Cond.instanceMethod yX2_keepIfNearer, Cond.selects RX2 yX2_keepIfNearer yX2_keepIfNearer, Cond.code yX2_keepIfNearer cX2_keepIfNearer 3 none, Cond.fieldLink RX2 53 "GlassBooths$Search" "fewestMoved" "I", Cond.fieldLink RX2 56 "GlassBooths$Search" "payOfNearest" "I", Cond.fieldLink RX2 24 "GlassBooths$Search" "nearestTeam" "[I"]
def wsX2_weigh : List Cond := .code yX2_weigh cX2_weigh 4 none :: ((wsX2_weigh_r1 ++ wsX2_weigh_r2) ++ wsX20 ++ wsX10)
def wsX2_weighIfWhole_r1 : List Cond := [Cond.fieldLink RX2 41 "GlassBooths$Search" "wanted" "I", Cond.methodLink RX2 89 yX2_shareKnown, Cond.instanceMethod yX2_shareKnown, Cond.selects RX2 yX2_shareKnown yX2_shareKnown, Cond.initialized RX2, Cond.code yX2_shareKnown cX2_shareKnown 3 none, Cond.fieldLink RX2 18 "GlassBooths$Search" "sharedKnown" "[I", Cond.fieldLink RX2 27 "GlassBooths$Search" "people" "LGlassBooths$People;", Cond.fieldLink RX2 9 "GlassBooths$Search" "trial" "[I", Cond.methodLink RX2 31 yJ7_fill_53178, Cond.static yJ7_fill_53178, Cond.initialized RJ7, Cond.code yJ7_fill_53178 cJ7_fill_53178 4 none, Cond.static yX3_isTongue, Cond.initialized RX3, Cond.code yX3_isTongue cX3_isTongue 1 (some .boolean), Cond.methodLink RX2 101 yX1_knownBy, Cond.instanceMethod yX1_knownBy, Cond.selects RX1 yX1_knownBy yX1_knownBy, Cond.initialized RX1, Cond.code yX1_knownBy cX1_knownBy 2 (some .int), Cond.fieldLink RX1 9 "GlassBooths$People" "knownTongues" "[I", Cond.methodLink RX1 35 yX1_has, Cond.instanceMethod yX1_has]
def wsX2_weighIfWhole_r2 : List Cond := [Cond.selects RX1 yX1_has yX1_has, Cond.code yX1_has cX1_has 2 (some .boolean), Cond.fieldLink RX1 24 "GlassBooths$People" "size" "I", Cond.static yX3_holds, Cond.code yX3_holds cX3_holds 2 (some .boolean), Cond.methodLink RX2 92 yX2_reachesFloors, Cond.instanceMethod yX2_reachesFloors, Cond.selects RX2 yX2_reachesFloors yX2_reachesFloors, Cond.code yX2_reachesFloors cX2_reachesFloors 4 (some .boolean), Cond.fieldLink RX2 37 "GlassBooths$Search" "floors" "I", Cond.methodLink RX2 95 yX2_weigh, Cond.instanceMethod yX2_weigh, Cond.selects RX2 yX2_weigh yX2_weigh, Cond.code yX2_weigh cX2_weigh 4 none, Cond.fieldLink RX2 47 "GlassBooths$Search" "sparedBits" "I", Cond.fieldLink RX2 44 "GlassBooths$Search" "found" "I", Cond.methodLink RX2 105 yX1_payOf, Cond.instanceMethod yX1_payOf, Cond.selects RX1 yX1_payOf yX1_payOf, Cond.code yX1_payOf cX1_payOf 2 (some .int), Cond.fieldLink RX1 18 "GlassBooths$People" "pays" "[I", Cond.methodLink RX2 108 yX1_boothOf, Cond.instanceMethod yX1_boothOf, Cond.selects RX1 yX1_boothOf yX1_boothOf]
def wsX2_weighIfWhole_r3 : List Cond := [Cond.code yX1_boothOf cX1_boothOf 2 (some .int), Cond.fieldLink RX1 21 "GlassBooths$People" "booths" "[I", Cond.methodLink RX2 111 yX2_keepIfCheaper, Cond.instanceMethod yX2_keepIfCheaper, Cond.selects RX2 yX2_keepIfCheaper yX2_keepIfCheaper, Cond.code yX2_keepIfCheaper cX2_keepIfCheaper 2 none, Cond.fieldLink RX2 50 "GlassBooths$Search" "leastPay" "I", Cond.fieldLink RX2 21 "GlassBooths$Search" "cheapestTeam" "[I", Cond.methodLink RX2 117 arraycopyName, Cond.native arraycopyName, Cond.static arraycopyName, Cond.initialized "java/lang/System", Cond.methodLink RX2 114 yX2_keepIfNearer, Cond.instanceMethod yX2_keepIfNearer, Cond.selects RX2 yX2_keepIfNearer yX2_keepIfNearer, Cond.code yX2_keepIfNearer cX2_keepIfNearer 3 none, Cond.fieldLink RX2 53 "GlassBooths$Search" "fewestMoved" "I", Cond.fieldLink RX2 56 "GlassBooths$Search" "payOfNearest" "I", Cond.fieldLink RX2 24 "GlassBooths$Search" "nearestTeam" "[I"]
def wsX2_weighIfWhole : List Cond := .code yX2_weighIfWhole cX2_weighIfWhole 2 none :: ((wsX2_weighIfWhole_r1 ++ (wsX2_weighIfWhole_r2 ++ wsX2_weighIfWhole_r3)) ++ wsX20 ++ wsX10)
def wsX2_placeFrom_r1 : List Cond := [Cond.fieldLink RX2 59 "GlassBooths$Search" "openSeats" "I", Cond.fieldLink RX2 27 "GlassBooths$Search" "people" "LGlassBooths$People;", Cond.fieldLink RX2 9 "GlassBooths$Search" "trial" "[I", Cond.methodLink RX2 71 yX1_has, Cond.instanceMethod yX1_has, Cond.selects RX1 yX1_has yX1_has, Cond.initialized RX1, Cond.code yX1_has cX1_has 2 (some .boolean), Cond.fieldLink RX1 24 "GlassBooths$People" "size" "I", Cond.methodLink RX2 75 yX2_weighIfWhole, Cond.instanceMethod yX2_weighIfWhole, Cond.selects RX2 yX2_weighIfWhole yX2_weighIfWhole, Cond.initialized RX2, Cond.code yX2_weighIfWhole cX2_weighIfWhole 2 none, Cond.fieldLink RX2 41 "GlassBooths$Search" "wanted" "I", Cond.methodLink RX2 89 yX2_shareKnown, Cond.instanceMethod yX2_shareKnown, Cond.selects RX2 yX2_shareKnown yX2_shareKnown, Cond.code yX2_shareKnown cX2_shareKnown 3 none, Cond.fieldLink RX2 18 "GlassBooths$Search" "sharedKnown" "[I", Cond.methodLink RX2 31 yJ7_fill_53178, Cond.static yJ7_fill_53178, Cond.initialized RJ7, Cond.code yJ7_fill_53178 cJ7_fill_53178 4 none]
def wsX2_placeFrom_r2 : List Cond := [Cond.static yX3_isTongue, Cond.initialized RX3, Cond.code yX3_isTongue cX3_isTongue 1 (some .boolean), Cond.methodLink RX2 101 yX1_knownBy, Cond.instanceMethod yX1_knownBy, Cond.selects RX1 yX1_knownBy yX1_knownBy, Cond.code yX1_knownBy cX1_knownBy 2 (some .int), Cond.fieldLink RX1 9 "GlassBooths$People" "knownTongues" "[I", Cond.methodLink RX1 35 yX1_has, Cond.static yX3_holds, Cond.code yX3_holds cX3_holds 2 (some .boolean), Cond.methodLink RX2 92 yX2_reachesFloors, Cond.instanceMethod yX2_reachesFloors, Cond.selects RX2 yX2_reachesFloors yX2_reachesFloors, Cond.code yX2_reachesFloors cX2_reachesFloors 4 (some .boolean), Cond.fieldLink RX2 37 "GlassBooths$Search" "floors" "I", Cond.methodLink RX2 95 yX2_weigh, Cond.instanceMethod yX2_weigh, Cond.selects RX2 yX2_weigh yX2_weigh, Cond.code yX2_weigh cX2_weigh 4 none, Cond.fieldLink RX2 47 "GlassBooths$Search" "sparedBits" "I", Cond.fieldLink RX2 44 "GlassBooths$Search" "found" "I", Cond.methodLink RX2 105 yX1_payOf, Cond.instanceMethod yX1_payOf]
def wsX2_placeFrom_r3 : List Cond := [Cond.selects RX1 yX1_payOf yX1_payOf, Cond.code yX1_payOf cX1_payOf 2 (some .int), Cond.fieldLink RX1 18 "GlassBooths$People" "pays" "[I", Cond.methodLink RX2 108 yX1_boothOf, Cond.instanceMethod yX1_boothOf, Cond.selects RX1 yX1_boothOf yX1_boothOf, Cond.code yX1_boothOf cX1_boothOf 2 (some .int), Cond.fieldLink RX1 21 "GlassBooths$People" "booths" "[I", Cond.methodLink RX2 111 yX2_keepIfCheaper, Cond.instanceMethod yX2_keepIfCheaper, Cond.selects RX2 yX2_keepIfCheaper yX2_keepIfCheaper, Cond.code yX2_keepIfCheaper cX2_keepIfCheaper 2 none, Cond.fieldLink RX2 50 "GlassBooths$Search" "leastPay" "I", Cond.fieldLink RX2 21 "GlassBooths$Search" "cheapestTeam" "[I", Cond.methodLink RX2 117 arraycopyName, Cond.native arraycopyName, Cond.static arraycopyName, Cond.initialized "java/lang/System", Cond.methodLink RX2 114 yX2_keepIfNearer, Cond.instanceMethod yX2_keepIfNearer, Cond.selects RX2 yX2_keepIfNearer yX2_keepIfNearer, Cond.code yX2_keepIfNearer cX2_keepIfNearer 3 none, Cond.fieldLink RX2 53 "GlassBooths$Search" "fewestMoved" "I", Cond.fieldLink RX2 56 "GlassBooths$Search" "payOfNearest" "I"]
def wsX2_placeFrom_r4 : List Cond := [Cond.fieldLink RX2 24 "GlassBooths$Search" "nearestTeam" "[I", Cond.methodLink RX2 78 yX2_placeIn, Cond.instanceMethod yX2_placeIn, Cond.selects RX2 yX2_placeIn yX2_placeIn, Cond.methodLink RX2 82 yX2_placeFrom, Cond.instanceMethod yX2_placeFrom, Cond.selects RX2 yX2_placeFrom yX2_placeFrom, Cond.code yX2_placeIn cX2_placeIn 3 none, Cond.fieldLink RX2 15 "GlassBooths$Search" "freeSeats" "[I", Cond.methodLink RX2 86 yX1_canTurnInto, Cond.instanceMethod yX1_canTurnInto, Cond.selects RX1 yX1_canTurnInto yX1_canTurnInto, Cond.code yX1_canTurnInto cX1_canTurnInto 3 (some .boolean), Cond.fieldLink RX1 15 "GlassBooths$People" "spokenTongues" "[I", Cond.methodLink RX1 39 yX1_isIll, Cond.instanceMethod yX1_isIll, Cond.selects RX1 yX1_isIll yX1_isIll, Cond.code yX1_isIll cX1_isIll 2 (some .boolean), Cond.fieldLink RX1 28 "GlassBooths$People" "illBits" "I"]
def wsX2_placeFrom : List Cond := .code yX2_placeFrom cX2_placeFrom 3 none :: ((wsX2_placeFrom_r1 ++ (wsX2_placeFrom_r2 ++ (wsX2_placeFrom_r3 ++ wsX2_placeFrom_r4))) ++ wsX20 ++ wsX10)
def wsX2_placeIn_r1 : List Cond := [Cond.fieldLink RX2 15 "GlassBooths$Search" "freeSeats" "[I", Cond.fieldLink RX2 27 "GlassBooths$Search" "people" "LGlassBooths$People;", Cond.fieldLink RX2 9 "GlassBooths$Search" "trial" "[I", Cond.fieldLink RX2 59 "GlassBooths$Search" "openSeats" "I", Cond.methodLink RX2 86 yX1_canTurnInto, Cond.instanceMethod yX1_canTurnInto, Cond.selects RX1 yX1_canTurnInto yX1_canTurnInto, Cond.initialized RX1, Cond.code yX1_canTurnInto cX1_canTurnInto 3 (some .boolean), Cond.fieldLink RX1 15 "GlassBooths$People" "spokenTongues" "[I", Cond.methodLink RX1 35 yX1_has, Cond.instanceMethod yX1_has, Cond.selects RX1 yX1_has yX1_has, Cond.code yX1_has cX1_has 2 (some .boolean), Cond.fieldLink RX1 24 "GlassBooths$People" "size" "I", Cond.methodLink RX1 39 yX1_isIll, Cond.instanceMethod yX1_isIll, Cond.selects RX1 yX1_isIll yX1_isIll, Cond.code yX1_isIll cX1_isIll 2 (some .boolean), Cond.fieldLink RX1 28 "GlassBooths$People" "illBits" "I", Cond.static yX3_holds, Cond.initialized RX3, Cond.code yX3_holds cX3_holds 2 (some .boolean), Cond.methodLink RX2 82 yX2_placeFrom]
def wsX2_placeIn_r2 : List Cond := [Cond.instanceMethod yX2_placeFrom, Cond.selects RX2 yX2_placeFrom yX2_placeFrom, Cond.initialized RX2, Cond.code yX2_placeFrom cX2_placeFrom 3 none, Cond.methodLink RX2 71 yX1_has, Cond.methodLink RX2 75 yX2_weighIfWhole, Cond.instanceMethod yX2_weighIfWhole, Cond.selects RX2 yX2_weighIfWhole yX2_weighIfWhole, Cond.code yX2_weighIfWhole cX2_weighIfWhole 2 none, Cond.fieldLink RX2 41 "GlassBooths$Search" "wanted" "I", Cond.methodLink RX2 89 yX2_shareKnown, Cond.instanceMethod yX2_shareKnown, Cond.selects RX2 yX2_shareKnown yX2_shareKnown, Cond.code yX2_shareKnown cX2_shareKnown 3 none, Cond.fieldLink RX2 18 "GlassBooths$Search" "sharedKnown" "[I", Cond.methodLink RX2 31 yJ7_fill_53178, Cond.static yJ7_fill_53178, Cond.initialized RJ7, Cond.code yJ7_fill_53178 cJ7_fill_53178 4 none, Cond.static yX3_isTongue, Cond.code yX3_isTongue cX3_isTongue 1 (some .boolean), Cond.methodLink RX2 101 yX1_knownBy, Cond.instanceMethod yX1_knownBy, Cond.selects RX1 yX1_knownBy yX1_knownBy]
def wsX2_placeIn_r3 : List Cond := [Cond.code yX1_knownBy cX1_knownBy 2 (some .int), Cond.fieldLink RX1 9 "GlassBooths$People" "knownTongues" "[I", Cond.methodLink RX2 92 yX2_reachesFloors, Cond.instanceMethod yX2_reachesFloors, Cond.selects RX2 yX2_reachesFloors yX2_reachesFloors, Cond.code yX2_reachesFloors cX2_reachesFloors 4 (some .boolean), Cond.fieldLink RX2 37 "GlassBooths$Search" "floors" "I", Cond.methodLink RX2 95 yX2_weigh, Cond.instanceMethod yX2_weigh, Cond.selects RX2 yX2_weigh yX2_weigh, Cond.code yX2_weigh cX2_weigh 4 none, Cond.fieldLink RX2 47 "GlassBooths$Search" "sparedBits" "I", Cond.fieldLink RX2 44 "GlassBooths$Search" "found" "I", Cond.methodLink RX2 105 yX1_payOf, Cond.instanceMethod yX1_payOf, Cond.selects RX1 yX1_payOf yX1_payOf, Cond.code yX1_payOf cX1_payOf 2 (some .int), Cond.fieldLink RX1 18 "GlassBooths$People" "pays" "[I", Cond.methodLink RX2 108 yX1_boothOf, Cond.instanceMethod yX1_boothOf, Cond.selects RX1 yX1_boothOf yX1_boothOf, Cond.code yX1_boothOf cX1_boothOf 2 (some .int), Cond.fieldLink RX1 21 "GlassBooths$People" "booths" "[I", Cond.methodLink RX2 111 yX2_keepIfCheaper]
def wsX2_placeIn_r4 : List Cond := [Cond.instanceMethod yX2_keepIfCheaper, Cond.selects RX2 yX2_keepIfCheaper yX2_keepIfCheaper, Cond.code yX2_keepIfCheaper cX2_keepIfCheaper 2 none, Cond.fieldLink RX2 50 "GlassBooths$Search" "leastPay" "I", Cond.fieldLink RX2 21 "GlassBooths$Search" "cheapestTeam" "[I", Cond.methodLink RX2 117 arraycopyName, Cond.native arraycopyName, Cond.static arraycopyName, Cond.initialized "java/lang/System", Cond.methodLink RX2 114 yX2_keepIfNearer, Cond.instanceMethod yX2_keepIfNearer, Cond.selects RX2 yX2_keepIfNearer yX2_keepIfNearer, Cond.code yX2_keepIfNearer cX2_keepIfNearer 3 none, Cond.fieldLink RX2 53 "GlassBooths$Search" "fewestMoved" "I", Cond.fieldLink RX2 56 "GlassBooths$Search" "payOfNearest" "I", Cond.fieldLink RX2 24 "GlassBooths$Search" "nearestTeam" "[I", Cond.methodLink RX2 78 yX2_placeIn, Cond.instanceMethod yX2_placeIn, Cond.selects RX2 yX2_placeIn yX2_placeIn]
def wsX2_placeIn : List Cond := .code yX2_placeIn cX2_placeIn 3 none :: ((wsX2_placeIn_r1 ++ (wsX2_placeIn_r2 ++ (wsX2_placeIn_r3 ++ wsX2_placeIn_r4))) ++ wsX20 ++ wsX10)
def wsX3_init_r1 : List Cond := [Cond.methodLink RX3 1 objectInit, Cond.instanceMethod objectInit, Cond.code objectInit ⟨#[0xb1]⟩ 1 none, Cond.classLink RX3 7 RX1, Cond.instantiable RX1 6, Cond.initialized RX1, Cond.fieldLink RX3 10 "GlassBooths" "people" "LGlassBooths$People;", Cond.classLink RX3 16 RX2, Cond.instantiable RX2 14, Cond.initialized RX2, Cond.fieldLink RX3 21 "GlassBooths" "search" "LGlassBooths$Search;", Cond.classLink RX3 25 RX0, Cond.instantiable RX0 6, Cond.initialized RX0, Cond.fieldLink RX3 28 "GlassBooths" "day" "LGlassBooths$Day;", Cond.arrayClass .int, Cond.fieldLink RX3 32 "GlassBooths" "floorsOf" "[I", Cond.fieldLink RX3 36 "GlassBooths" "wantedIn" "[I", Cond.fieldLink RX3 39 "GlassBooths" "seatsEach" "I", Cond.fieldLink RX3 43 "GlassBooths" "wornAbove" "I", Cond.instanceMethod yX1_init, Cond.code yX1_init cX1_init 1 none, Cond.methodLink RX1 3 objectInit, Cond.fieldLink RX1 9 "GlassBooths$People" "knownTongues" "[I"]
def wsX3_init_r2 : List Cond := [Cond.fieldLink RX1 15 "GlassBooths$People" "spokenTongues" "[I", Cond.fieldLink RX1 18 "GlassBooths$People" "pays" "[I", Cond.fieldLink RX1 21 "GlassBooths$People" "booths" "[I", Cond.methodLink RX3 18 yX2_init, Cond.instanceMethod yX2_init, Cond.code yX2_init cX2_init 2 none, Cond.methodLink RX2 3 objectInit, Cond.fieldLink RX2 9 "GlassBooths$Search" "trial" "[I", Cond.fieldLink RX2 15 "GlassBooths$Search" "freeSeats" "[I", Cond.fieldLink RX2 18 "GlassBooths$Search" "sharedKnown" "[I", Cond.fieldLink RX2 21 "GlassBooths$Search" "cheapestTeam" "[I", Cond.fieldLink RX2 24 "GlassBooths$Search" "nearestTeam" "[I", Cond.fieldLink RX2 27 "GlassBooths$Search" "people" "LGlassBooths$People;", Cond.methodLink RX2 31 yJ7_fill_53178, Cond.static yJ7_fill_53178, Cond.initialized RJ7, Cond.code yJ7_fill_53178 cJ7_fill_53178 4 none, Cond.methodLink RX3 27 yX0_init, Cond.instanceMethod yX0_init, Cond.code yX0_init cX0_init 2 none, Cond.methodLink RX0 3 objectInit, Cond.fieldLink RX0 9 "GlassBooths$Day" "spoken" "[I", Cond.fieldLink RX0 15 "GlassBooths$Day" "speeds" "[I", Cond.fieldLink RX0 18 "GlassBooths$Day" "tiredness" "[I"]
def wsX3_init_r3 : List Cond := [Cond.fieldLink RX0 21 "GlassBooths$Day" "onIn" "[I", Cond.fieldLink RX0 24 "GlassBooths$Day" "heardBy" "[I", Cond.fieldLink RX0 27 "GlassBooths$Day" "people" "LGlassBooths$People;", Cond.methodLink RX0 31 yJ7_fill_53178]
def wsX3_init : List Cond := .code yX3_init cX3_init 1 none :: ((wsX3_init_r1 ++ (wsX3_init_r2 ++ wsX3_init_r3)) ++ wsX10 ++ wsX30 ++ wsX20 ++ wsX00)
def wsX3_areTongues : List Cond := .code yX3_areTongues cX3_areTongues 1 (some .boolean) :: ([])
def wsX3_person : List Cond := .code yX3_person cX3_person 4 (some .int) :: ([.fieldLink RX3 10 "GlassBooths" "people" "LGlassBooths$People;", .methodLink RX3 46 yX3_areTongues, .static yX3_areTongues, .initialized RX3, .code yX3_areTongues cX3_areTongues 1 (some .boolean), .methodLink RX3 50 yX1_add, .instanceMethod yX1_add, .selects RX1 yX1_add yX1_add, .initialized RX1, .code yX1_add cX1_add 4 (some .int), .fieldLink RX1 24 "GlassBooths$People" "size" "I", .fieldLink RX1 9 "GlassBooths$People" "knownTongues" "[I", .fieldLink RX1 15 "GlassBooths$People" "spokenTongues" "[I", .fieldLink RX1 18 "GlassBooths$People" "pays" "[I", .fieldLink RX1 21 "GlassBooths$People" "booths" "[I"] ++ wsX30 ++ wsX10)
def wsX3_ill : List Cond := .code yX3_ill cX3_ill 4 (some .int) :: ([.fieldLink RX3 10 "GlassBooths" "people" "LGlassBooths$People;", .methodLink RX3 54 yX1_has, .instanceMethod yX1_has, .selects RX1 yX1_has yX1_has, .initialized RX1, .code yX1_has cX1_has 2 (some .boolean), .fieldLink RX1 24 "GlassBooths$People" "size" "I", .methodLink RX3 57 yX1_isIll, .instanceMethod yX1_isIll, .selects RX1 yX1_isIll yX1_isIll, .code yX1_isIll cX1_isIll 2 (some .boolean), .fieldLink RX1 28 "GlassBooths$People" "illBits" "I", .static yX3_holds, .initialized RX3, .code yX3_holds cX3_holds 2 (some .boolean), .methodLink RX3 60 yX1_setIll, .instanceMethod yX1_setIll, .selects RX1 yX1_setIll yX1_setIll, .code yX1_setIll cX1_setIll 4 none] ++ wsX30 ++ wsX10)
def wsX3_isSession : List Cond := .code yX3_isSession cX3_isSession 1 (some .boolean) :: ([])
def wsX3_session : List Cond := .code yX3_session cX3_session 4 (some .int) :: ([.fieldLink RX3 32 "GlassBooths" "floorsOf" "[I", .fieldLink RX3 36 "GlassBooths" "wantedIn" "[I", .methodLink RX3 64 yX3_isSession, .static yX3_isSession, .initialized RX3, .code yX3_isSession cX3_isSession 1 (some .boolean), .methodLink RX3 46 yX3_areTongues, .static yX3_areTongues, .code yX3_areTongues cX3_areTongues 1 (some .boolean)] ++ wsX30)
def wsX3_seats : List Cond := .code yX3_seats cX3_seats 3 (some .int) :: ([.fieldLink RX3 39 "GlassBooths" "seatsEach" "I"] ++ wsX30)
def wsX3_searchTeams_r1 : List Cond := [Cond.fieldLink RX3 21 "GlassBooths" "search" "LGlassBooths$Search;", Cond.fieldLink RX3 32 "GlassBooths" "floorsOf" "[I", Cond.fieldLink RX3 36 "GlassBooths" "wantedIn" "[I", Cond.fieldLink RX3 39 "GlassBooths" "seatsEach" "I", Cond.methodLink RX3 64 yX3_isSession, Cond.static yX3_isSession, Cond.initialized RX3, Cond.code yX3_isSession cX3_isSession 1 (some .boolean), Cond.methodLink RX3 162 yX2_prepare, Cond.instanceMethod yX2_prepare, Cond.selects RX2 yX2_prepare yX2_prepare, Cond.initialized RX2, Cond.code yX2_prepare cX2_prepare 5 none, Cond.fieldLink RX2 37 "GlassBooths$Search" "floors" "I", Cond.fieldLink RX2 41 "GlassBooths$Search" "wanted" "I", Cond.fieldLink RX2 44 "GlassBooths$Search" "found" "I", Cond.fieldLink RX2 47 "GlassBooths$Search" "sparedBits" "I", Cond.fieldLink RX2 50 "GlassBooths$Search" "leastPay" "I", Cond.fieldLink RX2 53 "GlassBooths$Search" "fewestMoved" "I", Cond.fieldLink RX2 56 "GlassBooths$Search" "payOfNearest" "I", Cond.fieldLink RX2 59 "GlassBooths$Search" "openSeats" "I", Cond.fieldLink RX2 15 "GlassBooths$Search" "freeSeats" "[I", Cond.static yX3_holds, Cond.code yX3_holds cX3_holds 2 (some .boolean)]
def wsX3_searchTeams_r2 : List Cond := [Cond.instanceMethod yX2_placeFrom, Cond.selects RX2 yX2_placeFrom yX2_placeFrom, Cond.code yX2_placeFrom cX2_placeFrom 3 none, Cond.fieldLink RX2 27 "GlassBooths$Search" "people" "LGlassBooths$People;", Cond.fieldLink RX2 9 "GlassBooths$Search" "trial" "[I", Cond.methodLink RX2 71 yX1_has, Cond.instanceMethod yX1_has, Cond.selects RX1 yX1_has yX1_has, Cond.initialized RX1, Cond.code yX1_has cX1_has 2 (some .boolean), Cond.fieldLink RX1 24 "GlassBooths$People" "size" "I", Cond.methodLink RX2 75 yX2_weighIfWhole, Cond.instanceMethod yX2_weighIfWhole, Cond.selects RX2 yX2_weighIfWhole yX2_weighIfWhole, Cond.code yX2_weighIfWhole cX2_weighIfWhole 2 none, Cond.methodLink RX2 89 yX2_shareKnown, Cond.instanceMethod yX2_shareKnown, Cond.selects RX2 yX2_shareKnown yX2_shareKnown, Cond.code yX2_shareKnown cX2_shareKnown 3 none, Cond.fieldLink RX2 18 "GlassBooths$Search" "sharedKnown" "[I", Cond.methodLink RX2 31 yJ7_fill_53178, Cond.static yJ7_fill_53178, Cond.initialized RJ7, Cond.code yJ7_fill_53178 cJ7_fill_53178 4 none]
def wsX3_searchTeams_r3 : List Cond := [Cond.static yX3_isTongue, Cond.code yX3_isTongue cX3_isTongue 1 (some .boolean), Cond.methodLink RX2 101 yX1_knownBy, Cond.instanceMethod yX1_knownBy, Cond.selects RX1 yX1_knownBy yX1_knownBy, Cond.code yX1_knownBy cX1_knownBy 2 (some .int), Cond.fieldLink RX1 9 "GlassBooths$People" "knownTongues" "[I", Cond.methodLink RX1 35 yX1_has, Cond.methodLink RX2 92 yX2_reachesFloors, Cond.instanceMethod yX2_reachesFloors, Cond.selects RX2 yX2_reachesFloors yX2_reachesFloors, Cond.code yX2_reachesFloors cX2_reachesFloors 4 (some .boolean), Cond.methodLink RX2 95 yX2_weigh, Cond.instanceMethod yX2_weigh, Cond.selects RX2 yX2_weigh yX2_weigh, Cond.code yX2_weigh cX2_weigh 4 none, Cond.methodLink RX2 105 yX1_payOf, Cond.instanceMethod yX1_payOf, Cond.selects RX1 yX1_payOf yX1_payOf, Cond.code yX1_payOf cX1_payOf 2 (some .int), Cond.fieldLink RX1 18 "GlassBooths$People" "pays" "[I", Cond.methodLink RX2 108 yX1_boothOf, Cond.instanceMethod yX1_boothOf, Cond.selects RX1 yX1_boothOf yX1_boothOf]
def wsX3_searchTeams_r4 : List Cond := [Cond.code yX1_boothOf cX1_boothOf 2 (some .int), Cond.fieldLink RX1 21 "GlassBooths$People" "booths" "[I", Cond.methodLink RX2 111 yX2_keepIfCheaper, Cond.instanceMethod yX2_keepIfCheaper, Cond.selects RX2 yX2_keepIfCheaper yX2_keepIfCheaper, Cond.code yX2_keepIfCheaper cX2_keepIfCheaper 2 none, Cond.fieldLink RX2 21 "GlassBooths$Search" "cheapestTeam" "[I", Cond.methodLink RX2 117 arraycopyName, Cond.native arraycopyName, Cond.static arraycopyName, Cond.initialized "java/lang/System", Cond.methodLink RX2 114 yX2_keepIfNearer, Cond.instanceMethod yX2_keepIfNearer, Cond.selects RX2 yX2_keepIfNearer yX2_keepIfNearer, Cond.code yX2_keepIfNearer cX2_keepIfNearer 3 none, Cond.fieldLink RX2 24 "GlassBooths$Search" "nearestTeam" "[I", Cond.methodLink RX2 78 yX2_placeIn, Cond.instanceMethod yX2_placeIn, Cond.selects RX2 yX2_placeIn yX2_placeIn, Cond.methodLink RX2 82 yX2_placeFrom, Cond.code yX2_placeIn cX2_placeIn 3 none, Cond.methodLink RX2 86 yX1_canTurnInto, Cond.instanceMethod yX1_canTurnInto, Cond.selects RX1 yX1_canTurnInto yX1_canTurnInto]
def wsX3_searchTeams_r5 : List Cond := [Cond.code yX1_canTurnInto cX1_canTurnInto 3 (some .boolean), Cond.fieldLink RX1 15 "GlassBooths$People" "spokenTongues" "[I", Cond.methodLink RX1 39 yX1_isIll, Cond.instanceMethod yX1_isIll, Cond.selects RX1 yX1_isIll yX1_isIll, Cond.code yX1_isIll cX1_isIll 2 (some .boolean), Cond.fieldLink RX1 28 "GlassBooths$People" "illBits" "I"]
def wsX3_searchTeams : List Cond := .code yX3_searchTeams cX3_searchTeams 2 none :: ((wsX3_searchTeams_r1 ++ (wsX3_searchTeams_r2 ++ (wsX3_searchTeams_r3 ++ (wsX3_searchTeams_r4 ++ wsX3_searchTeams_r5)))) ++ wsX30 ++ wsX20 ++ wsX10)
def wsX3_whole_r1 : List Cond := [Cond.fieldLink RX3 21 "GlassBooths" "search" "LGlassBooths$Search;", Cond.methodLink RX3 64 yX3_isSession, Cond.static yX3_isSession, Cond.initialized RX3, Cond.code yX3_isSession cX3_isSession 1 (some .boolean), Cond.methodLink RX3 67 yX3_searchTeams, Cond.instanceMethod yX3_searchTeams, Cond.selects RX3 yX3_searchTeams yX3_searchTeams, Cond.code yX3_searchTeams cX3_searchTeams 2 none, Cond.fieldLink RX3 32 "GlassBooths" "floorsOf" "[I", Cond.fieldLink RX3 36 "GlassBooths" "wantedIn" "[I", Cond.fieldLink RX3 39 "GlassBooths" "seatsEach" "I", Cond.methodLink RX3 162 yX2_prepare, Cond.instanceMethod yX2_prepare, Cond.selects RX2 yX2_prepare yX2_prepare, Cond.initialized RX2, Cond.code yX2_prepare cX2_prepare 5 none, Cond.fieldLink RX2 37 "GlassBooths$Search" "floors" "I", Cond.fieldLink RX2 41 "GlassBooths$Search" "wanted" "I", Cond.fieldLink RX2 44 "GlassBooths$Search" "found" "I", Cond.fieldLink RX2 47 "GlassBooths$Search" "sparedBits" "I", Cond.fieldLink RX2 50 "GlassBooths$Search" "leastPay" "I", Cond.fieldLink RX2 53 "GlassBooths$Search" "fewestMoved" "I", Cond.fieldLink RX2 56 "GlassBooths$Search" "payOfNearest" "I"]
def wsX3_whole_r2 : List Cond := [Cond.fieldLink RX2 59 "GlassBooths$Search" "openSeats" "I", Cond.fieldLink RX2 15 "GlassBooths$Search" "freeSeats" "[I", Cond.static yX3_holds, Cond.code yX3_holds cX3_holds 2 (some .boolean), Cond.instanceMethod yX2_placeFrom, Cond.selects RX2 yX2_placeFrom yX2_placeFrom, Cond.code yX2_placeFrom cX2_placeFrom 3 none, Cond.fieldLink RX2 27 "GlassBooths$Search" "people" "LGlassBooths$People;", Cond.fieldLink RX2 9 "GlassBooths$Search" "trial" "[I", Cond.methodLink RX2 71 yX1_has, Cond.instanceMethod yX1_has, Cond.selects RX1 yX1_has yX1_has, Cond.initialized RX1, Cond.code yX1_has cX1_has 2 (some .boolean), Cond.fieldLink RX1 24 "GlassBooths$People" "size" "I", Cond.methodLink RX2 75 yX2_weighIfWhole, Cond.instanceMethod yX2_weighIfWhole, Cond.selects RX2 yX2_weighIfWhole yX2_weighIfWhole, Cond.code yX2_weighIfWhole cX2_weighIfWhole 2 none, Cond.methodLink RX2 89 yX2_shareKnown, Cond.instanceMethod yX2_shareKnown, Cond.selects RX2 yX2_shareKnown yX2_shareKnown, Cond.code yX2_shareKnown cX2_shareKnown 3 none, Cond.fieldLink RX2 18 "GlassBooths$Search" "sharedKnown" "[I"]
def wsX3_whole_r3 : List Cond := [Cond.methodLink RX2 31 yJ7_fill_53178, Cond.static yJ7_fill_53178, Cond.initialized RJ7, Cond.code yJ7_fill_53178 cJ7_fill_53178 4 none, Cond.static yX3_isTongue, Cond.code yX3_isTongue cX3_isTongue 1 (some .boolean), Cond.methodLink RX2 101 yX1_knownBy, Cond.instanceMethod yX1_knownBy, Cond.selects RX1 yX1_knownBy yX1_knownBy, Cond.code yX1_knownBy cX1_knownBy 2 (some .int), Cond.fieldLink RX1 9 "GlassBooths$People" "knownTongues" "[I", Cond.methodLink RX1 35 yX1_has, Cond.methodLink RX2 92 yX2_reachesFloors, Cond.instanceMethod yX2_reachesFloors, Cond.selects RX2 yX2_reachesFloors yX2_reachesFloors, Cond.code yX2_reachesFloors cX2_reachesFloors 4 (some .boolean), Cond.methodLink RX2 95 yX2_weigh, Cond.instanceMethod yX2_weigh, Cond.selects RX2 yX2_weigh yX2_weigh, Cond.code yX2_weigh cX2_weigh 4 none, Cond.methodLink RX2 105 yX1_payOf, Cond.instanceMethod yX1_payOf, Cond.selects RX1 yX1_payOf yX1_payOf, Cond.code yX1_payOf cX1_payOf 2 (some .int)]
def wsX3_whole_r4 : List Cond := [Cond.fieldLink RX1 18 "GlassBooths$People" "pays" "[I", Cond.methodLink RX2 108 yX1_boothOf, Cond.instanceMethod yX1_boothOf, Cond.selects RX1 yX1_boothOf yX1_boothOf, Cond.code yX1_boothOf cX1_boothOf 2 (some .int), Cond.fieldLink RX1 21 "GlassBooths$People" "booths" "[I", Cond.methodLink RX2 111 yX2_keepIfCheaper, Cond.instanceMethod yX2_keepIfCheaper, Cond.selects RX2 yX2_keepIfCheaper yX2_keepIfCheaper, Cond.code yX2_keepIfCheaper cX2_keepIfCheaper 2 none, Cond.fieldLink RX2 21 "GlassBooths$Search" "cheapestTeam" "[I", Cond.methodLink RX2 117 arraycopyName, Cond.native arraycopyName, Cond.static arraycopyName, Cond.initialized "java/lang/System", Cond.methodLink RX2 114 yX2_keepIfNearer, Cond.instanceMethod yX2_keepIfNearer, Cond.selects RX2 yX2_keepIfNearer yX2_keepIfNearer, Cond.code yX2_keepIfNearer cX2_keepIfNearer 3 none, Cond.fieldLink RX2 24 "GlassBooths$Search" "nearestTeam" "[I", Cond.methodLink RX2 78 yX2_placeIn, Cond.instanceMethod yX2_placeIn, Cond.selects RX2 yX2_placeIn yX2_placeIn, Cond.methodLink RX2 82 yX2_placeFrom]
def wsX3_whole_r5 : List Cond := [Cond.code yX2_placeIn cX2_placeIn 3 none, Cond.methodLink RX2 86 yX1_canTurnInto, Cond.instanceMethod yX1_canTurnInto, Cond.selects RX1 yX1_canTurnInto yX1_canTurnInto, Cond.code yX1_canTurnInto cX1_canTurnInto 3 (some .boolean), Cond.fieldLink RX1 15 "GlassBooths$People" "spokenTongues" "[I", Cond.methodLink RX1 39 yX1_isIll, Cond.instanceMethod yX1_isIll, Cond.selects RX1 yX1_isIll yX1_isIll, Cond.code yX1_isIll cX1_isIll 2 (some .boolean), Cond.fieldLink RX1 28 "GlassBooths$People" "illBits" "I"]
def wsX3_whole : List Cond := .code yX3_whole cX3_whole 2 (some .int) :: ((wsX3_whole_r1 ++ (wsX3_whole_r2 ++ (wsX3_whole_r3 ++ (wsX3_whole_r4 ++ wsX3_whole_r5)))) ++ wsX30 ++ wsX20 ++ wsX10)
def wsX3_cheapest_r1 : List Cond := [Cond.fieldLink RX3 21 "GlassBooths" "search" "LGlassBooths$Search;", Cond.methodLink RX3 64 yX3_isSession, Cond.static yX3_isSession, Cond.initialized RX3, Cond.code yX3_isSession cX3_isSession 1 (some .boolean), Cond.methodLink RX3 67 yX3_searchTeams, Cond.instanceMethod yX3_searchTeams, Cond.selects RX3 yX3_searchTeams yX3_searchTeams, Cond.code yX3_searchTeams cX3_searchTeams 2 none, Cond.fieldLink RX3 32 "GlassBooths" "floorsOf" "[I", Cond.fieldLink RX3 36 "GlassBooths" "wantedIn" "[I", Cond.fieldLink RX3 39 "GlassBooths" "seatsEach" "I", Cond.methodLink RX3 162 yX2_prepare, Cond.instanceMethod yX2_prepare, Cond.selects RX2 yX2_prepare yX2_prepare, Cond.initialized RX2, Cond.code yX2_prepare cX2_prepare 5 none, Cond.fieldLink RX2 37 "GlassBooths$Search" "floors" "I", Cond.fieldLink RX2 41 "GlassBooths$Search" "wanted" "I", Cond.fieldLink RX2 44 "GlassBooths$Search" "found" "I", Cond.fieldLink RX2 47 "GlassBooths$Search" "sparedBits" "I", Cond.fieldLink RX2 50 "GlassBooths$Search" "leastPay" "I", Cond.fieldLink RX2 53 "GlassBooths$Search" "fewestMoved" "I", Cond.fieldLink RX2 56 "GlassBooths$Search" "payOfNearest" "I"]
def wsX3_cheapest_r2 : List Cond := [Cond.fieldLink RX2 59 "GlassBooths$Search" "openSeats" "I", Cond.fieldLink RX2 15 "GlassBooths$Search" "freeSeats" "[I", Cond.static yX3_holds, Cond.code yX3_holds cX3_holds 2 (some .boolean), Cond.instanceMethod yX2_placeFrom, Cond.selects RX2 yX2_placeFrom yX2_placeFrom, Cond.code yX2_placeFrom cX2_placeFrom 3 none, Cond.fieldLink RX2 27 "GlassBooths$Search" "people" "LGlassBooths$People;", Cond.fieldLink RX2 9 "GlassBooths$Search" "trial" "[I", Cond.methodLink RX2 71 yX1_has, Cond.instanceMethod yX1_has, Cond.selects RX1 yX1_has yX1_has, Cond.initialized RX1, Cond.code yX1_has cX1_has 2 (some .boolean), Cond.fieldLink RX1 24 "GlassBooths$People" "size" "I", Cond.methodLink RX2 75 yX2_weighIfWhole, Cond.instanceMethod yX2_weighIfWhole, Cond.selects RX2 yX2_weighIfWhole yX2_weighIfWhole, Cond.code yX2_weighIfWhole cX2_weighIfWhole 2 none, Cond.methodLink RX2 89 yX2_shareKnown, Cond.instanceMethod yX2_shareKnown, Cond.selects RX2 yX2_shareKnown yX2_shareKnown, Cond.code yX2_shareKnown cX2_shareKnown 3 none, Cond.fieldLink RX2 18 "GlassBooths$Search" "sharedKnown" "[I"]
def wsX3_cheapest_r3 : List Cond := [Cond.methodLink RX2 31 yJ7_fill_53178, Cond.static yJ7_fill_53178, Cond.initialized RJ7, Cond.code yJ7_fill_53178 cJ7_fill_53178 4 none, Cond.static yX3_isTongue, Cond.code yX3_isTongue cX3_isTongue 1 (some .boolean), Cond.methodLink RX2 101 yX1_knownBy, Cond.instanceMethod yX1_knownBy, Cond.selects RX1 yX1_knownBy yX1_knownBy, Cond.code yX1_knownBy cX1_knownBy 2 (some .int), Cond.fieldLink RX1 9 "GlassBooths$People" "knownTongues" "[I", Cond.methodLink RX1 35 yX1_has, Cond.methodLink RX2 92 yX2_reachesFloors, Cond.instanceMethod yX2_reachesFloors, Cond.selects RX2 yX2_reachesFloors yX2_reachesFloors, Cond.code yX2_reachesFloors cX2_reachesFloors 4 (some .boolean), Cond.methodLink RX2 95 yX2_weigh, Cond.instanceMethod yX2_weigh, Cond.selects RX2 yX2_weigh yX2_weigh, Cond.code yX2_weigh cX2_weigh 4 none, Cond.methodLink RX2 105 yX1_payOf, Cond.instanceMethod yX1_payOf, Cond.selects RX1 yX1_payOf yX1_payOf, Cond.code yX1_payOf cX1_payOf 2 (some .int)]
def wsX3_cheapest_r4 : List Cond := [Cond.fieldLink RX1 18 "GlassBooths$People" "pays" "[I", Cond.methodLink RX2 108 yX1_boothOf, Cond.instanceMethod yX1_boothOf, Cond.selects RX1 yX1_boothOf yX1_boothOf, Cond.code yX1_boothOf cX1_boothOf 2 (some .int), Cond.fieldLink RX1 21 "GlassBooths$People" "booths" "[I", Cond.methodLink RX2 111 yX2_keepIfCheaper, Cond.instanceMethod yX2_keepIfCheaper, Cond.selects RX2 yX2_keepIfCheaper yX2_keepIfCheaper, Cond.code yX2_keepIfCheaper cX2_keepIfCheaper 2 none, Cond.fieldLink RX2 21 "GlassBooths$Search" "cheapestTeam" "[I", Cond.methodLink RX2 117 arraycopyName, Cond.native arraycopyName, Cond.static arraycopyName, Cond.initialized "java/lang/System", Cond.methodLink RX2 114 yX2_keepIfNearer, Cond.instanceMethod yX2_keepIfNearer, Cond.selects RX2 yX2_keepIfNearer yX2_keepIfNearer, Cond.code yX2_keepIfNearer cX2_keepIfNearer 3 none, Cond.fieldLink RX2 24 "GlassBooths$Search" "nearestTeam" "[I", Cond.methodLink RX2 78 yX2_placeIn, Cond.instanceMethod yX2_placeIn, Cond.selects RX2 yX2_placeIn yX2_placeIn, Cond.methodLink RX2 82 yX2_placeFrom]
def wsX3_cheapest_r5 : List Cond := [Cond.code yX2_placeIn cX2_placeIn 3 none, Cond.methodLink RX2 86 yX1_canTurnInto, Cond.instanceMethod yX1_canTurnInto, Cond.selects RX1 yX1_canTurnInto yX1_canTurnInto, Cond.code yX1_canTurnInto cX1_canTurnInto 3 (some .boolean), Cond.fieldLink RX1 15 "GlassBooths$People" "spokenTongues" "[I", Cond.methodLink RX1 39 yX1_isIll, Cond.instanceMethod yX1_isIll, Cond.selects RX1 yX1_isIll yX1_isIll, Cond.code yX1_isIll cX1_isIll 2 (some .boolean), Cond.fieldLink RX1 28 "GlassBooths$People" "illBits" "I"]
def wsX3_cheapest : List Cond := .code yX3_cheapest cX3_cheapest 2 (some .int) :: ((wsX3_cheapest_r1 ++ (wsX3_cheapest_r2 ++ (wsX3_cheapest_r3 ++ (wsX3_cheapest_r4 ++ wsX3_cheapest_r5)))) ++ wsX30 ++ wsX20 ++ wsX10)
def wsX3_nearest_r1 : List Cond := [Cond.fieldLink RX3 21 "GlassBooths" "search" "LGlassBooths$Search;", Cond.methodLink RX3 64 yX3_isSession, Cond.static yX3_isSession, Cond.initialized RX3, Cond.code yX3_isSession cX3_isSession 1 (some .boolean), Cond.methodLink RX3 67 yX3_searchTeams, Cond.instanceMethod yX3_searchTeams, Cond.selects RX3 yX3_searchTeams yX3_searchTeams, Cond.code yX3_searchTeams cX3_searchTeams 2 none, Cond.fieldLink RX3 32 "GlassBooths" "floorsOf" "[I", Cond.fieldLink RX3 36 "GlassBooths" "wantedIn" "[I", Cond.fieldLink RX3 39 "GlassBooths" "seatsEach" "I", Cond.methodLink RX3 162 yX2_prepare, Cond.instanceMethod yX2_prepare, Cond.selects RX2 yX2_prepare yX2_prepare, Cond.initialized RX2, Cond.code yX2_prepare cX2_prepare 5 none, Cond.fieldLink RX2 37 "GlassBooths$Search" "floors" "I", Cond.fieldLink RX2 41 "GlassBooths$Search" "wanted" "I", Cond.fieldLink RX2 44 "GlassBooths$Search" "found" "I", Cond.fieldLink RX2 47 "GlassBooths$Search" "sparedBits" "I", Cond.fieldLink RX2 50 "GlassBooths$Search" "leastPay" "I", Cond.fieldLink RX2 53 "GlassBooths$Search" "fewestMoved" "I", Cond.fieldLink RX2 56 "GlassBooths$Search" "payOfNearest" "I"]
def wsX3_nearest_r2 : List Cond := [Cond.fieldLink RX2 59 "GlassBooths$Search" "openSeats" "I", Cond.fieldLink RX2 15 "GlassBooths$Search" "freeSeats" "[I", Cond.static yX3_holds, Cond.code yX3_holds cX3_holds 2 (some .boolean), Cond.instanceMethod yX2_placeFrom, Cond.selects RX2 yX2_placeFrom yX2_placeFrom, Cond.code yX2_placeFrom cX2_placeFrom 3 none, Cond.fieldLink RX2 27 "GlassBooths$Search" "people" "LGlassBooths$People;", Cond.fieldLink RX2 9 "GlassBooths$Search" "trial" "[I", Cond.methodLink RX2 71 yX1_has, Cond.instanceMethod yX1_has, Cond.selects RX1 yX1_has yX1_has, Cond.initialized RX1, Cond.code yX1_has cX1_has 2 (some .boolean), Cond.fieldLink RX1 24 "GlassBooths$People" "size" "I", Cond.methodLink RX2 75 yX2_weighIfWhole, Cond.instanceMethod yX2_weighIfWhole, Cond.selects RX2 yX2_weighIfWhole yX2_weighIfWhole, Cond.code yX2_weighIfWhole cX2_weighIfWhole 2 none, Cond.methodLink RX2 89 yX2_shareKnown, Cond.instanceMethod yX2_shareKnown, Cond.selects RX2 yX2_shareKnown yX2_shareKnown, Cond.code yX2_shareKnown cX2_shareKnown 3 none, Cond.fieldLink RX2 18 "GlassBooths$Search" "sharedKnown" "[I"]
def wsX3_nearest_r3 : List Cond := [Cond.methodLink RX2 31 yJ7_fill_53178, Cond.static yJ7_fill_53178, Cond.initialized RJ7, Cond.code yJ7_fill_53178 cJ7_fill_53178 4 none, Cond.static yX3_isTongue, Cond.code yX3_isTongue cX3_isTongue 1 (some .boolean), Cond.methodLink RX2 101 yX1_knownBy, Cond.instanceMethod yX1_knownBy, Cond.selects RX1 yX1_knownBy yX1_knownBy, Cond.code yX1_knownBy cX1_knownBy 2 (some .int), Cond.fieldLink RX1 9 "GlassBooths$People" "knownTongues" "[I", Cond.methodLink RX1 35 yX1_has, Cond.methodLink RX2 92 yX2_reachesFloors, Cond.instanceMethod yX2_reachesFloors, Cond.selects RX2 yX2_reachesFloors yX2_reachesFloors, Cond.code yX2_reachesFloors cX2_reachesFloors 4 (some .boolean), Cond.methodLink RX2 95 yX2_weigh, Cond.instanceMethod yX2_weigh, Cond.selects RX2 yX2_weigh yX2_weigh, Cond.code yX2_weigh cX2_weigh 4 none, Cond.methodLink RX2 105 yX1_payOf, Cond.instanceMethod yX1_payOf, Cond.selects RX1 yX1_payOf yX1_payOf, Cond.code yX1_payOf cX1_payOf 2 (some .int)]
def wsX3_nearest_r4 : List Cond := [Cond.fieldLink RX1 18 "GlassBooths$People" "pays" "[I", Cond.methodLink RX2 108 yX1_boothOf, Cond.instanceMethod yX1_boothOf, Cond.selects RX1 yX1_boothOf yX1_boothOf, Cond.code yX1_boothOf cX1_boothOf 2 (some .int), Cond.fieldLink RX1 21 "GlassBooths$People" "booths" "[I", Cond.methodLink RX2 111 yX2_keepIfCheaper, Cond.instanceMethod yX2_keepIfCheaper, Cond.selects RX2 yX2_keepIfCheaper yX2_keepIfCheaper, Cond.code yX2_keepIfCheaper cX2_keepIfCheaper 2 none, Cond.fieldLink RX2 21 "GlassBooths$Search" "cheapestTeam" "[I", Cond.methodLink RX2 117 arraycopyName, Cond.native arraycopyName, Cond.static arraycopyName, Cond.initialized "java/lang/System", Cond.methodLink RX2 114 yX2_keepIfNearer, Cond.instanceMethod yX2_keepIfNearer, Cond.selects RX2 yX2_keepIfNearer yX2_keepIfNearer, Cond.code yX2_keepIfNearer cX2_keepIfNearer 3 none, Cond.fieldLink RX2 24 "GlassBooths$Search" "nearestTeam" "[I", Cond.methodLink RX2 78 yX2_placeIn, Cond.instanceMethod yX2_placeIn, Cond.selects RX2 yX2_placeIn yX2_placeIn, Cond.methodLink RX2 82 yX2_placeFrom]
def wsX3_nearest_r5 : List Cond := [Cond.code yX2_placeIn cX2_placeIn 3 none, Cond.methodLink RX2 86 yX1_canTurnInto, Cond.instanceMethod yX1_canTurnInto, Cond.selects RX1 yX1_canTurnInto yX1_canTurnInto, Cond.code yX1_canTurnInto cX1_canTurnInto 3 (some .boolean), Cond.fieldLink RX1 15 "GlassBooths$People" "spokenTongues" "[I", Cond.methodLink RX1 39 yX1_isIll, Cond.instanceMethod yX1_isIll, Cond.selects RX1 yX1_isIll yX1_isIll, Cond.code yX1_isIll cX1_isIll 2 (some .boolean), Cond.fieldLink RX1 28 "GlassBooths$People" "illBits" "I"]
def wsX3_nearest : List Cond := .code yX3_nearest cX3_nearest 2 (some .int) :: ((wsX3_nearest_r1 ++ (wsX3_nearest_r2 ++ (wsX3_nearest_r3 ++ (wsX3_nearest_r4 ++ wsX3_nearest_r5)))) ++ wsX30 ++ wsX20 ++ wsX10)
def wsX3_take_r1 : List Cond := [Cond.fieldLink RX3 21 "GlassBooths" "search" "LGlassBooths$Search;", Cond.fieldLink RX3 10 "GlassBooths" "people" "LGlassBooths$People;", Cond.methodLink RX3 64 yX3_isSession, Cond.static yX3_isSession, Cond.initialized RX3, Cond.code yX3_isSession cX3_isSession 1 (some .boolean), Cond.methodLink RX3 67 yX3_searchTeams, Cond.instanceMethod yX3_searchTeams, Cond.selects RX3 yX3_searchTeams yX3_searchTeams, Cond.code yX3_searchTeams cX3_searchTeams 2 none, Cond.fieldLink RX3 32 "GlassBooths" "floorsOf" "[I", Cond.fieldLink RX3 36 "GlassBooths" "wantedIn" "[I", Cond.fieldLink RX3 39 "GlassBooths" "seatsEach" "I", Cond.methodLink RX3 162 yX2_prepare, Cond.instanceMethod yX2_prepare, Cond.selects RX2 yX2_prepare yX2_prepare, Cond.initialized RX2, Cond.code yX2_prepare cX2_prepare 5 none, Cond.fieldLink RX2 37 "GlassBooths$Search" "floors" "I", Cond.fieldLink RX2 41 "GlassBooths$Search" "wanted" "I", Cond.fieldLink RX2 44 "GlassBooths$Search" "found" "I", Cond.fieldLink RX2 47 "GlassBooths$Search" "sparedBits" "I", Cond.fieldLink RX2 50 "GlassBooths$Search" "leastPay" "I", Cond.fieldLink RX2 53 "GlassBooths$Search" "fewestMoved" "I"]
def wsX3_take_r2 : List Cond := [Cond.fieldLink RX2 56 "GlassBooths$Search" "payOfNearest" "I", Cond.fieldLink RX2 59 "GlassBooths$Search" "openSeats" "I", Cond.fieldLink RX2 15 "GlassBooths$Search" "freeSeats" "[I", Cond.static yX3_holds, Cond.code yX3_holds cX3_holds 2 (some .boolean), Cond.instanceMethod yX2_placeFrom, Cond.selects RX2 yX2_placeFrom yX2_placeFrom, Cond.code yX2_placeFrom cX2_placeFrom 3 none, Cond.fieldLink RX2 27 "GlassBooths$Search" "people" "LGlassBooths$People;", Cond.fieldLink RX2 9 "GlassBooths$Search" "trial" "[I", Cond.methodLink RX2 71 yX1_has, Cond.instanceMethod yX1_has, Cond.selects RX1 yX1_has yX1_has, Cond.initialized RX1, Cond.code yX1_has cX1_has 2 (some .boolean), Cond.fieldLink RX1 24 "GlassBooths$People" "size" "I", Cond.methodLink RX2 75 yX2_weighIfWhole, Cond.instanceMethod yX2_weighIfWhole, Cond.selects RX2 yX2_weighIfWhole yX2_weighIfWhole, Cond.code yX2_weighIfWhole cX2_weighIfWhole 2 none, Cond.methodLink RX2 89 yX2_shareKnown, Cond.instanceMethod yX2_shareKnown, Cond.selects RX2 yX2_shareKnown yX2_shareKnown, Cond.code yX2_shareKnown cX2_shareKnown 3 none]
def wsX3_take_r3 : List Cond := [Cond.fieldLink RX2 18 "GlassBooths$Search" "sharedKnown" "[I", Cond.methodLink RX2 31 yJ7_fill_53178, Cond.static yJ7_fill_53178, Cond.initialized RJ7, Cond.code yJ7_fill_53178 cJ7_fill_53178 4 none, Cond.static yX3_isTongue, Cond.code yX3_isTongue cX3_isTongue 1 (some .boolean), Cond.methodLink RX2 101 yX1_knownBy, Cond.instanceMethod yX1_knownBy, Cond.selects RX1 yX1_knownBy yX1_knownBy, Cond.code yX1_knownBy cX1_knownBy 2 (some .int), Cond.fieldLink RX1 9 "GlassBooths$People" "knownTongues" "[I", Cond.methodLink RX1 35 yX1_has, Cond.methodLink RX2 92 yX2_reachesFloors, Cond.instanceMethod yX2_reachesFloors, Cond.selects RX2 yX2_reachesFloors yX2_reachesFloors, Cond.code yX2_reachesFloors cX2_reachesFloors 4 (some .boolean), Cond.methodLink RX2 95 yX2_weigh, Cond.instanceMethod yX2_weigh, Cond.selects RX2 yX2_weigh yX2_weigh, Cond.code yX2_weigh cX2_weigh 4 none, Cond.methodLink RX2 105 yX1_payOf, Cond.instanceMethod yX1_payOf, Cond.selects RX1 yX1_payOf yX1_payOf]
def wsX3_take_r4 : List Cond := [Cond.code yX1_payOf cX1_payOf 2 (some .int), Cond.fieldLink RX1 18 "GlassBooths$People" "pays" "[I", Cond.methodLink RX2 108 yX1_boothOf, Cond.instanceMethod yX1_boothOf, Cond.selects RX1 yX1_boothOf yX1_boothOf, Cond.code yX1_boothOf cX1_boothOf 2 (some .int), Cond.fieldLink RX1 21 "GlassBooths$People" "booths" "[I", Cond.methodLink RX2 111 yX2_keepIfCheaper, Cond.instanceMethod yX2_keepIfCheaper, Cond.selects RX2 yX2_keepIfCheaper yX2_keepIfCheaper, Cond.code yX2_keepIfCheaper cX2_keepIfCheaper 2 none, Cond.fieldLink RX2 21 "GlassBooths$Search" "cheapestTeam" "[I", Cond.methodLink RX2 117 arraycopyName, Cond.native arraycopyName, Cond.static arraycopyName, Cond.initialized "java/lang/System", Cond.methodLink RX2 114 yX2_keepIfNearer, Cond.instanceMethod yX2_keepIfNearer, Cond.selects RX2 yX2_keepIfNearer yX2_keepIfNearer, Cond.code yX2_keepIfNearer cX2_keepIfNearer 3 none, Cond.fieldLink RX2 24 "GlassBooths$Search" "nearestTeam" "[I", Cond.methodLink RX2 78 yX2_placeIn, Cond.instanceMethod yX2_placeIn, Cond.selects RX2 yX2_placeIn yX2_placeIn]
def wsX3_take_r5 : List Cond := [Cond.methodLink RX2 82 yX2_placeFrom, Cond.code yX2_placeIn cX2_placeIn 3 none, Cond.methodLink RX2 86 yX1_canTurnInto, Cond.instanceMethod yX1_canTurnInto, Cond.selects RX1 yX1_canTurnInto yX1_canTurnInto, Cond.code yX1_canTurnInto cX1_canTurnInto 3 (some .boolean), Cond.fieldLink RX1 15 "GlassBooths$People" "spokenTongues" "[I", Cond.methodLink RX1 39 yX1_isIll, Cond.instanceMethod yX1_isIll, Cond.selects RX1 yX1_isIll yX1_isIll, Cond.code yX1_isIll cX1_isIll 2 (some .boolean), Cond.fieldLink RX1 28 "GlassBooths$People" "illBits" "I", Cond.methodLink RX3 83 yX1_seatAs, Cond.instanceMethod yX1_seatAs, Cond.selects RX1 yX1_seatAs yX1_seatAs, Cond.code yX1_seatAs cX1_seatAs 2 none, Cond.methodLink RX1 55 arraycopyName]
def wsX3_take : List Cond := .code yX3_take cX3_take 3 (some .int) :: ((wsX3_take_r1 ++ (wsX3_take_r2 ++ (wsX3_take_r3 ++ (wsX3_take_r4 ++ wsX3_take_r5)))) ++ wsX30 ++ wsX20 ++ wsX10)
def wsX3_leave : List Cond := .code yX3_leave cX3_leave 2 (some .int) :: ([.fieldLink RX3 10 "GlassBooths" "people" "LGlassBooths$People;", .methodLink RX3 93 yX1_seated, .instanceMethod yX1_seated, .selects RX1 yX1_seated yX1_seated, .initialized RX1, .code yX1_seated cX1_seated 3 (some .int), .fieldLink RX1 24 "GlassBooths$People" "size" "I", .methodLink RX1 45 yX1_boothOf, .instanceMethod yX1_boothOf, .selects RX1 yX1_boothOf yX1_boothOf, .code yX1_boothOf cX1_boothOf 2 (some .int), .fieldLink RX1 21 "GlassBooths$People" "booths" "[I", .methodLink RX1 35 yX1_has, .instanceMethod yX1_has, .selects RX1 yX1_has yX1_has, .code yX1_has cX1_has 2 (some .boolean), .methodLink RX3 97 yX1_unseatAll, .instanceMethod yX1_unseatAll, .selects RX1 yX1_unseatAll yX1_unseatAll, .code yX1_unseatAll cX1_unseatAll 1 none, .methodLink RX1 49 yJ7_fill_53178, .static yJ7_fill_53178, .initialized RJ7, .code yJ7_fill_53178 cJ7_fill_53178 4 none] ++ wsX30 ++ wsX10)
def wsX3_booth : List Cond := .code yX3_booth cX3_booth 2 (some .int) :: ([.fieldLink RX3 10 "GlassBooths" "people" "LGlassBooths$People;", .methodLink RX3 54 yX1_has, .instanceMethod yX1_has, .selects RX1 yX1_has yX1_has, .initialized RX1, .code yX1_has cX1_has 2 (some .boolean), .fieldLink RX1 24 "GlassBooths$People" "size" "I", .methodLink RX3 100 yX1_boothOf, .instanceMethod yX1_boothOf, .selects RX1 yX1_boothOf yX1_boothOf, .code yX1_boothOf cX1_boothOf 2 (some .int), .fieldLink RX1 21 "GlassBooths$People" "booths" "[I", .methodLink RX1 35 yX1_has] ++ wsX30 ++ wsX10)
def wsX3_lacking_r1 : List Cond := [Cond.fieldLink RX3 36 "GlassBooths" "wantedIn" "[I", Cond.fieldLink RX3 10 "GlassBooths" "people" "LGlassBooths$People;", Cond.fieldLink RX3 39 "GlassBooths" "seatsEach" "I", Cond.methodLink RX3 64 yX3_isSession, Cond.static yX3_isSession, Cond.initialized RX3, Cond.code yX3_isSession cX3_isSession 1 (some .boolean), Cond.methodLink RX3 104 yX3_holds, Cond.static yX3_holds, Cond.code yX3_holds cX3_holds 2 (some .boolean), Cond.methodLink RX3 108 yX1_ableToTurnInto, Cond.instanceMethod yX1_ableToTurnInto, Cond.selects RX1 yX1_ableToTurnInto yX1_ableToTurnInto, Cond.initialized RX1, Cond.code yX1_ableToTurnInto cX1_ableToTurnInto 4 (some .int), Cond.fieldLink RX1 24 "GlassBooths$People" "size" "I", Cond.methodLink RX1 42 yX1_canTurnInto, Cond.instanceMethod yX1_canTurnInto, Cond.selects RX1 yX1_canTurnInto yX1_canTurnInto, Cond.code yX1_canTurnInto cX1_canTurnInto 3 (some .boolean), Cond.fieldLink RX1 15 "GlassBooths$People" "spokenTongues" "[I", Cond.methodLink RX1 35 yX1_has, Cond.instanceMethod yX1_has, Cond.selects RX1 yX1_has yX1_has]
def wsX3_lacking_r2 : List Cond := [Cond.code yX1_has cX1_has 2 (some .boolean), Cond.methodLink RX1 39 yX1_isIll, Cond.instanceMethod yX1_isIll, Cond.selects RX1 yX1_isIll yX1_isIll, Cond.code yX1_isIll cX1_isIll 2 (some .boolean), Cond.fieldLink RX1 28 "GlassBooths$People" "illBits" "I"]
def wsX3_lacking : List Cond := .code yX3_lacking cX3_lacking 4 (some .int) :: ((wsX3_lacking_r1 ++ wsX3_lacking_r2) ++ wsX30 ++ wsX10)
def wsX3_needed_r1 : List Cond := [Cond.fieldLink RX3 10 "GlassBooths" "people" "LGlassBooths$People;", Cond.fieldLink RX3 21 "GlassBooths" "search" "LGlassBooths$Search;", Cond.methodLink RX3 54 yX1_has, Cond.instanceMethod yX1_has, Cond.selects RX1 yX1_has yX1_has, Cond.initialized RX1, Cond.code yX1_has cX1_has 2 (some .boolean), Cond.fieldLink RX1 24 "GlassBooths$People" "size" "I", Cond.methodLink RX3 64 yX3_isSession, Cond.static yX3_isSession, Cond.initialized RX3, Cond.code yX3_isSession cX3_isSession 1 (some .boolean), Cond.methodLink RX3 67 yX3_searchTeams, Cond.instanceMethod yX3_searchTeams, Cond.selects RX3 yX3_searchTeams yX3_searchTeams, Cond.code yX3_searchTeams cX3_searchTeams 2 none, Cond.fieldLink RX3 32 "GlassBooths" "floorsOf" "[I", Cond.fieldLink RX3 36 "GlassBooths" "wantedIn" "[I", Cond.fieldLink RX3 39 "GlassBooths" "seatsEach" "I", Cond.methodLink RX3 162 yX2_prepare, Cond.instanceMethod yX2_prepare, Cond.selects RX2 yX2_prepare yX2_prepare, Cond.initialized RX2, Cond.code yX2_prepare cX2_prepare 5 none]
def wsX3_needed_r2 : List Cond := [Cond.fieldLink RX2 37 "GlassBooths$Search" "floors" "I", Cond.fieldLink RX2 41 "GlassBooths$Search" "wanted" "I", Cond.fieldLink RX2 44 "GlassBooths$Search" "found" "I", Cond.fieldLink RX2 47 "GlassBooths$Search" "sparedBits" "I", Cond.fieldLink RX2 50 "GlassBooths$Search" "leastPay" "I", Cond.fieldLink RX2 53 "GlassBooths$Search" "fewestMoved" "I", Cond.fieldLink RX2 56 "GlassBooths$Search" "payOfNearest" "I", Cond.fieldLink RX2 59 "GlassBooths$Search" "openSeats" "I", Cond.fieldLink RX2 15 "GlassBooths$Search" "freeSeats" "[I", Cond.static yX3_holds, Cond.code yX3_holds cX3_holds 2 (some .boolean), Cond.instanceMethod yX2_placeFrom, Cond.selects RX2 yX2_placeFrom yX2_placeFrom, Cond.code yX2_placeFrom cX2_placeFrom 3 none, Cond.fieldLink RX2 27 "GlassBooths$Search" "people" "LGlassBooths$People;", Cond.fieldLink RX2 9 "GlassBooths$Search" "trial" "[I", Cond.methodLink RX2 71 yX1_has, Cond.methodLink RX2 75 yX2_weighIfWhole, Cond.instanceMethod yX2_weighIfWhole, Cond.selects RX2 yX2_weighIfWhole yX2_weighIfWhole, Cond.code yX2_weighIfWhole cX2_weighIfWhole 2 none, Cond.methodLink RX2 89 yX2_shareKnown, Cond.instanceMethod yX2_shareKnown, Cond.selects RX2 yX2_shareKnown yX2_shareKnown]
def wsX3_needed_r3 : List Cond := [Cond.code yX2_shareKnown cX2_shareKnown 3 none, Cond.fieldLink RX2 18 "GlassBooths$Search" "sharedKnown" "[I", Cond.methodLink RX2 31 yJ7_fill_53178, Cond.static yJ7_fill_53178, Cond.initialized RJ7, Cond.code yJ7_fill_53178 cJ7_fill_53178 4 none, Cond.static yX3_isTongue, Cond.code yX3_isTongue cX3_isTongue 1 (some .boolean), Cond.methodLink RX2 101 yX1_knownBy, Cond.instanceMethod yX1_knownBy, Cond.selects RX1 yX1_knownBy yX1_knownBy, Cond.code yX1_knownBy cX1_knownBy 2 (some .int), Cond.fieldLink RX1 9 "GlassBooths$People" "knownTongues" "[I", Cond.methodLink RX1 35 yX1_has, Cond.methodLink RX2 92 yX2_reachesFloors, Cond.instanceMethod yX2_reachesFloors, Cond.selects RX2 yX2_reachesFloors yX2_reachesFloors, Cond.code yX2_reachesFloors cX2_reachesFloors 4 (some .boolean), Cond.methodLink RX2 95 yX2_weigh, Cond.instanceMethod yX2_weigh, Cond.selects RX2 yX2_weigh yX2_weigh, Cond.code yX2_weigh cX2_weigh 4 none, Cond.methodLink RX2 105 yX1_payOf, Cond.instanceMethod yX1_payOf]
def wsX3_needed_r4 : List Cond := [Cond.selects RX1 yX1_payOf yX1_payOf, Cond.code yX1_payOf cX1_payOf 2 (some .int), Cond.fieldLink RX1 18 "GlassBooths$People" "pays" "[I", Cond.methodLink RX2 108 yX1_boothOf, Cond.instanceMethod yX1_boothOf, Cond.selects RX1 yX1_boothOf yX1_boothOf, Cond.code yX1_boothOf cX1_boothOf 2 (some .int), Cond.fieldLink RX1 21 "GlassBooths$People" "booths" "[I", Cond.methodLink RX2 111 yX2_keepIfCheaper, Cond.instanceMethod yX2_keepIfCheaper, Cond.selects RX2 yX2_keepIfCheaper yX2_keepIfCheaper, Cond.code yX2_keepIfCheaper cX2_keepIfCheaper 2 none, Cond.fieldLink RX2 21 "GlassBooths$Search" "cheapestTeam" "[I", Cond.methodLink RX2 117 arraycopyName, Cond.native arraycopyName, Cond.static arraycopyName, Cond.initialized "java/lang/System", Cond.methodLink RX2 114 yX2_keepIfNearer, Cond.instanceMethod yX2_keepIfNearer, Cond.selects RX2 yX2_keepIfNearer yX2_keepIfNearer, Cond.code yX2_keepIfNearer cX2_keepIfNearer 3 none, Cond.fieldLink RX2 24 "GlassBooths$Search" "nearestTeam" "[I", Cond.methodLink RX2 78 yX2_placeIn, Cond.instanceMethod yX2_placeIn]
def wsX3_needed_r5 : List Cond := [Cond.selects RX2 yX2_placeIn yX2_placeIn, Cond.methodLink RX2 82 yX2_placeFrom, Cond.code yX2_placeIn cX2_placeIn 3 none, Cond.methodLink RX2 86 yX1_canTurnInto, Cond.instanceMethod yX1_canTurnInto, Cond.selects RX1 yX1_canTurnInto yX1_canTurnInto, Cond.code yX1_canTurnInto cX1_canTurnInto 3 (some .boolean), Cond.fieldLink RX1 15 "GlassBooths$People" "spokenTongues" "[I", Cond.methodLink RX1 39 yX1_isIll, Cond.instanceMethod yX1_isIll, Cond.selects RX1 yX1_isIll yX1_isIll, Cond.code yX1_isIll cX1_isIll 2 (some .boolean), Cond.fieldLink RX1 28 "GlassBooths$People" "illBits" "I", Cond.methodLink RX3 104 yX3_holds]
def wsX3_needed : List Cond := .code yX3_needed cX3_needed 3 (some .int) :: ((wsX3_needed_r1 ++ (wsX3_needed_r2 ++ (wsX3_needed_r3 ++ (wsX3_needed_r4 ++ wsX3_needed_r5)))) ++ wsX30 ++ wsX20 ++ wsX10)
def wsX3_speak : List Cond := .code yX3_speak cX3_speak 4 (some .int) :: ([.fieldLink RX3 28 "GlassBooths" "day" "LGlassBooths$Day;", .methodLink RX3 114 yX3_isHalf, .static yX3_isHalf, .initialized RX3, .code yX3_isHalf cX3_isHalf 1 (some .boolean), .methodLink RX3 117 yX3_isTongue, .static yX3_isTongue, .code yX3_isTongue cX3_isTongue 1 (some .boolean), .methodLink RX3 120 yX0_setSpoken, .instanceMethod yX0_setSpoken, .selects RX0 yX0_setSpoken yX0_setSpoken, .initialized RX0, .code yX0_setSpoken cX0_setSpoken 4 none, .fieldLink RX0 9 "GlassBooths$Day" "spoken" "[I", .fieldLink RX0 15 "GlassBooths$Day" "speeds" "[I"] ++ wsX30 ++ wsX00)
def wsX3_silence : List Cond := .code yX3_silence cX3_silence 3 (some .int) :: ([.fieldLink RX3 28 "GlassBooths" "day" "LGlassBooths$Day;", .methodLink RX3 114 yX3_isHalf, .static yX3_isHalf, .initialized RX3, .code yX3_isHalf cX3_isHalf 1 (some .boolean), .methodLink RX3 124 yX0_isSilent, .instanceMethod yX0_isSilent, .selects RX0 yX0_isSilent yX0_isSilent, .initialized RX0, .code yX0_isSilent cX0_isSilent 2 (some .boolean), .fieldLink RX0 9 "GlassBooths$Day" "spoken" "[I", .methodLink RX3 127 yX0_setSilent, .instanceMethod yX0_setSilent, .selects RX0 yX0_setSilent yX0_setSilent, .code yX0_setSilent cX0_setSilent 2 none, .methodLink RX0 41 yX0_setSpoken, .instanceMethod yX0_setSpoken, .selects RX0 yX0_setSpoken yX0_setSpoken, .code yX0_setSpoken cX0_setSpoken 4 none, .fieldLink RX0 15 "GlassBooths$Day" "speeds" "[I"] ++ wsX30 ++ wsX00)
def wsX3_limit : List Cond := .code yX3_limit cX3_limit 3 (some .int) :: ([.fieldLink RX3 43 "GlassBooths" "wornAbove" "I"] ++ wsX30)
def wsX3_on_r1 : List Cond := [Cond.fieldLink RX3 28 "GlassBooths" "day" "LGlassBooths$Day;", Cond.methodLink RX3 117 yX3_isTongue, Cond.static yX3_isTongue, Cond.initialized RX3, Cond.code yX3_isTongue cX3_isTongue 1 (some .boolean), Cond.methodLink RX3 114 yX3_isHalf, Cond.static yX3_isHalf, Cond.code yX3_isHalf cX3_isHalf 1 (some .boolean), Cond.methodLink RX3 130 yX0_playThrough, Cond.instanceMethod yX0_playThrough, Cond.selects RX0 yX0_playThrough yX0_playThrough, Cond.initialized RX0, Cond.code yX0_playThrough cX0_playThrough 3 none, Cond.fieldLink RX0 18 "GlassBooths$Day" "tiredness" "[I", Cond.methodLink RX0 31 yJ7_fill_53178, Cond.static yJ7_fill_53178, Cond.initialized RJ7, Cond.code yJ7_fill_53178 cJ7_fill_53178 4 none, Cond.methodLink RX0 48 yX0_playHalf, Cond.instanceMethod yX0_playHalf, Cond.selects RX0 yX0_playHalf yX0_playHalf, Cond.code yX0_playHalf cX0_playHalf 3 none, Cond.fieldLink RX0 24 "GlassBooths$Day" "heardBy" "[I", Cond.fieldLink RX0 9 "GlassBooths$Day" "spoken" "[I"]
def wsX3_on_r2 : List Cond := [Cond.fieldLink RX0 15 "GlassBooths$Day" "speeds" "[I", Cond.methodLink RX0 60 yX0_chooseOn, Cond.instanceMethod yX0_chooseOn, Cond.selects RX0 yX0_chooseOn yX0_chooseOn, Cond.code yX0_chooseOn cX0_chooseOn 3 none, Cond.fieldLink RX0 21 "GlassBooths$Day" "onIn" "[I", Cond.fieldLink RX0 27 "GlassBooths$Day" "people" "LGlassBooths$People;", Cond.methodLink RX0 75 yX1_boothOf, Cond.instanceMethod yX1_boothOf, Cond.selects RX1 yX1_boothOf yX1_boothOf, Cond.initialized RX1, Cond.code yX1_boothOf cX1_boothOf 2 (some .int), Cond.fieldLink RX1 21 "GlassBooths$People" "booths" "[I", Cond.methodLink RX1 35 yX1_has, Cond.instanceMethod yX1_has, Cond.selects RX1 yX1_has yX1_has, Cond.code yX1_has cX1_has 2 (some .boolean), Cond.fieldLink RX1 24 "GlassBooths$People" "size" "I", Cond.methodLink RX0 81 yX0_isFresher, Cond.instanceMethod yX0_isFresher, Cond.selects RX0 yX0_isFresher yX0_isFresher, Cond.code yX0_isFresher cX0_isFresher 3 (some .boolean), Cond.methodLink RX0 85 yX1_has, Cond.methodLink RX0 63 yX0_wayFrom]
def wsX3_on_r3 : List Cond := [Cond.instanceMethod yX0_wayFrom, Cond.selects RX0 yX0_wayFrom yX0_wayFrom, Cond.code yX0_wayFrom cX0_wayFrom 5 (some .int), Cond.methodLink RX0 88 yX1_knownBy, Cond.instanceMethod yX1_knownBy, Cond.selects RX1 yX1_knownBy yX1_knownBy, Cond.code yX1_knownBy cX1_knownBy 2 (some .int), Cond.fieldLink RX1 9 "GlassBooths$People" "knownTongues" "[I", Cond.static yX3_holds, Cond.code yX3_holds cX3_holds 2 (some .boolean), Cond.methodLink RX0 66 yX0_tire, Cond.instanceMethod yX0_tire, Cond.selects RX0 yX0_tire yX0_tire, Cond.code yX0_tire cX0_tire 3 none, Cond.methodLink RX0 97 Lib.Math.max.name, Cond.static Lib.Math.max.name, Cond.initialized "java/lang/Math", Cond.code Lib.Math.max.name Lib.Math.max.code 2 (some .int), Cond.methodLink RX0 94 yX0_isTurning, Cond.instanceMethod yX0_isTurning, Cond.selects RX0 yX0_isTurning yX0_isTurning, Cond.code yX0_isTurning cX0_isTurning 3 (some .boolean)]
def wsX3_on : List Cond := .code yX3_on cX3_on 3 (some .int) :: ((wsX3_on_r1 ++ (wsX3_on_r2 ++ wsX3_on_r3)) ++ wsX30 ++ wsX00 ++ wsX10)
def wsX3_heard_r1 : List Cond := [Cond.fieldLink RX3 28 "GlassBooths" "day" "LGlassBooths$Day;", Cond.methodLink RX3 117 yX3_isTongue, Cond.static yX3_isTongue, Cond.initialized RX3, Cond.code yX3_isTongue cX3_isTongue 1 (some .boolean), Cond.methodLink RX3 114 yX3_isHalf, Cond.static yX3_isHalf, Cond.code yX3_isHalf cX3_isHalf 1 (some .boolean), Cond.methodLink RX3 130 yX0_playThrough, Cond.instanceMethod yX0_playThrough, Cond.selects RX0 yX0_playThrough yX0_playThrough, Cond.initialized RX0, Cond.code yX0_playThrough cX0_playThrough 3 none, Cond.fieldLink RX0 18 "GlassBooths$Day" "tiredness" "[I", Cond.methodLink RX0 31 yJ7_fill_53178, Cond.static yJ7_fill_53178, Cond.initialized RJ7, Cond.code yJ7_fill_53178 cJ7_fill_53178 4 none, Cond.methodLink RX0 48 yX0_playHalf, Cond.instanceMethod yX0_playHalf, Cond.selects RX0 yX0_playHalf yX0_playHalf, Cond.code yX0_playHalf cX0_playHalf 3 none, Cond.fieldLink RX0 24 "GlassBooths$Day" "heardBy" "[I", Cond.fieldLink RX0 9 "GlassBooths$Day" "spoken" "[I"]
def wsX3_heard_r2 : List Cond := [Cond.fieldLink RX0 15 "GlassBooths$Day" "speeds" "[I", Cond.methodLink RX0 60 yX0_chooseOn, Cond.instanceMethod yX0_chooseOn, Cond.selects RX0 yX0_chooseOn yX0_chooseOn, Cond.code yX0_chooseOn cX0_chooseOn 3 none, Cond.fieldLink RX0 21 "GlassBooths$Day" "onIn" "[I", Cond.fieldLink RX0 27 "GlassBooths$Day" "people" "LGlassBooths$People;", Cond.methodLink RX0 75 yX1_boothOf, Cond.instanceMethod yX1_boothOf, Cond.selects RX1 yX1_boothOf yX1_boothOf, Cond.initialized RX1, Cond.code yX1_boothOf cX1_boothOf 2 (some .int), Cond.fieldLink RX1 21 "GlassBooths$People" "booths" "[I", Cond.methodLink RX1 35 yX1_has, Cond.instanceMethod yX1_has, Cond.selects RX1 yX1_has yX1_has, Cond.code yX1_has cX1_has 2 (some .boolean), Cond.fieldLink RX1 24 "GlassBooths$People" "size" "I", Cond.methodLink RX0 81 yX0_isFresher, Cond.instanceMethod yX0_isFresher, Cond.selects RX0 yX0_isFresher yX0_isFresher, Cond.code yX0_isFresher cX0_isFresher 3 (some .boolean), Cond.methodLink RX0 85 yX1_has, Cond.methodLink RX0 63 yX0_wayFrom]
def wsX3_heard_r3 : List Cond := [Cond.instanceMethod yX0_wayFrom, Cond.selects RX0 yX0_wayFrom yX0_wayFrom, Cond.code yX0_wayFrom cX0_wayFrom 5 (some .int), Cond.methodLink RX0 88 yX1_knownBy, Cond.instanceMethod yX1_knownBy, Cond.selects RX1 yX1_knownBy yX1_knownBy, Cond.code yX1_knownBy cX1_knownBy 2 (some .int), Cond.fieldLink RX1 9 "GlassBooths$People" "knownTongues" "[I", Cond.static yX3_holds, Cond.code yX3_holds cX3_holds 2 (some .boolean), Cond.methodLink RX0 66 yX0_tire, Cond.instanceMethod yX0_tire, Cond.selects RX0 yX0_tire yX0_tire, Cond.code yX0_tire cX0_tire 3 none, Cond.methodLink RX0 97 Lib.Math.max.name, Cond.static Lib.Math.max.name, Cond.initialized "java/lang/Math", Cond.code Lib.Math.max.name Lib.Math.max.code 2 (some .int), Cond.methodLink RX0 94 yX0_isTurning, Cond.instanceMethod yX0_isTurning, Cond.selects RX0 yX0_isTurning yX0_isTurning, Cond.code yX0_isTurning cX0_isTurning 3 (some .boolean)]
def wsX3_heard : List Cond := .code yX3_heard cX3_heard 3 (some .int) :: ((wsX3_heard_r1 ++ (wsX3_heard_r2 ++ wsX3_heard_r3)) ++ wsX30 ++ wsX00 ++ wsX10)
def wsX3_tired_r1 : List Cond := [Cond.fieldLink RX3 10 "GlassBooths" "people" "LGlassBooths$People;", Cond.fieldLink RX3 28 "GlassBooths" "day" "LGlassBooths$Day;", Cond.methodLink RX3 54 yX1_has, Cond.instanceMethod yX1_has, Cond.selects RX1 yX1_has yX1_has, Cond.initialized RX1, Cond.code yX1_has cX1_has 2 (some .boolean), Cond.fieldLink RX1 24 "GlassBooths$People" "size" "I", Cond.methodLink RX3 114 yX3_isHalf, Cond.static yX3_isHalf, Cond.initialized RX3, Cond.code yX3_isHalf cX3_isHalf 1 (some .boolean), Cond.methodLink RX3 130 yX0_playThrough, Cond.instanceMethod yX0_playThrough, Cond.selects RX0 yX0_playThrough yX0_playThrough, Cond.initialized RX0, Cond.code yX0_playThrough cX0_playThrough 3 none, Cond.fieldLink RX0 18 "GlassBooths$Day" "tiredness" "[I", Cond.methodLink RX0 31 yJ7_fill_53178, Cond.static yJ7_fill_53178, Cond.initialized RJ7, Cond.code yJ7_fill_53178 cJ7_fill_53178 4 none, Cond.methodLink RX0 48 yX0_playHalf, Cond.instanceMethod yX0_playHalf]
def wsX3_tired_r2 : List Cond := [Cond.selects RX0 yX0_playHalf yX0_playHalf, Cond.code yX0_playHalf cX0_playHalf 3 none, Cond.fieldLink RX0 24 "GlassBooths$Day" "heardBy" "[I", Cond.fieldLink RX0 9 "GlassBooths$Day" "spoken" "[I", Cond.fieldLink RX0 15 "GlassBooths$Day" "speeds" "[I", Cond.methodLink RX0 60 yX0_chooseOn, Cond.instanceMethod yX0_chooseOn, Cond.selects RX0 yX0_chooseOn yX0_chooseOn, Cond.code yX0_chooseOn cX0_chooseOn 3 none, Cond.fieldLink RX0 21 "GlassBooths$Day" "onIn" "[I", Cond.fieldLink RX0 27 "GlassBooths$Day" "people" "LGlassBooths$People;", Cond.methodLink RX0 75 yX1_boothOf, Cond.instanceMethod yX1_boothOf, Cond.selects RX1 yX1_boothOf yX1_boothOf, Cond.code yX1_boothOf cX1_boothOf 2 (some .int), Cond.fieldLink RX1 21 "GlassBooths$People" "booths" "[I", Cond.methodLink RX1 35 yX1_has, Cond.static yX3_isTongue, Cond.code yX3_isTongue cX3_isTongue 1 (some .boolean), Cond.methodLink RX0 81 yX0_isFresher, Cond.instanceMethod yX0_isFresher, Cond.selects RX0 yX0_isFresher yX0_isFresher, Cond.code yX0_isFresher cX0_isFresher 3 (some .boolean), Cond.methodLink RX0 85 yX1_has]
def wsX3_tired_r3 : List Cond := [Cond.methodLink RX0 63 yX0_wayFrom, Cond.instanceMethod yX0_wayFrom, Cond.selects RX0 yX0_wayFrom yX0_wayFrom, Cond.code yX0_wayFrom cX0_wayFrom 5 (some .int), Cond.methodLink RX0 88 yX1_knownBy, Cond.instanceMethod yX1_knownBy, Cond.selects RX1 yX1_knownBy yX1_knownBy, Cond.code yX1_knownBy cX1_knownBy 2 (some .int), Cond.fieldLink RX1 9 "GlassBooths$People" "knownTongues" "[I", Cond.static yX3_holds, Cond.code yX3_holds cX3_holds 2 (some .boolean), Cond.methodLink RX0 66 yX0_tire, Cond.instanceMethod yX0_tire, Cond.selects RX0 yX0_tire yX0_tire, Cond.code yX0_tire cX0_tire 3 none, Cond.methodLink RX0 97 Lib.Math.max.name, Cond.static Lib.Math.max.name, Cond.initialized "java/lang/Math", Cond.code Lib.Math.max.name Lib.Math.max.code 2 (some .int), Cond.methodLink RX0 94 yX0_isTurning, Cond.instanceMethod yX0_isTurning, Cond.selects RX0 yX0_isTurning yX0_isTurning, Cond.code yX0_isTurning cX0_isTurning 3 (some .boolean)]
def wsX3_tired : List Cond := .code yX3_tired cX3_tired 3 (some .int) :: ((wsX3_tired_r1 ++ (wsX3_tired_r2 ++ wsX3_tired_r3)) ++ wsX30 ++ wsX00 ++ wsX10)
def wsX3_late_r1 : List Cond := [Cond.fieldLink RX3 28 "GlassBooths" "day" "LGlassBooths$Day;", Cond.methodLink RX3 117 yX3_isTongue, Cond.static yX3_isTongue, Cond.initialized RX3, Cond.code yX3_isTongue cX3_isTongue 1 (some .boolean), Cond.methodLink RX3 142 yX0_lateOverall, Cond.instanceMethod yX0_lateOverall, Cond.selects RX0 yX0_lateOverall yX0_lateOverall, Cond.initialized RX0, Cond.code yX0_lateOverall cX0_lateOverall 4 (some .int), Cond.fieldLink RX0 18 "GlassBooths$Day" "tiredness" "[I", Cond.methodLink RX0 31 yJ7_fill_53178, Cond.static yJ7_fill_53178, Cond.initialized RJ7, Cond.code yJ7_fill_53178 cJ7_fill_53178 4 none, Cond.methodLink RX0 48 yX0_playHalf, Cond.instanceMethod yX0_playHalf, Cond.selects RX0 yX0_playHalf yX0_playHalf, Cond.code yX0_playHalf cX0_playHalf 3 none, Cond.fieldLink RX0 24 "GlassBooths$Day" "heardBy" "[I", Cond.fieldLink RX0 9 "GlassBooths$Day" "spoken" "[I", Cond.fieldLink RX0 15 "GlassBooths$Day" "speeds" "[I", Cond.static yX3_isHalf, Cond.code yX3_isHalf cX3_isHalf 1 (some .boolean)]
def wsX3_late_r2 : List Cond := [Cond.methodLink RX0 60 yX0_chooseOn, Cond.instanceMethod yX0_chooseOn, Cond.selects RX0 yX0_chooseOn yX0_chooseOn, Cond.code yX0_chooseOn cX0_chooseOn 3 none, Cond.fieldLink RX0 21 "GlassBooths$Day" "onIn" "[I", Cond.fieldLink RX0 27 "GlassBooths$Day" "people" "LGlassBooths$People;", Cond.methodLink RX0 75 yX1_boothOf, Cond.instanceMethod yX1_boothOf, Cond.selects RX1 yX1_boothOf yX1_boothOf, Cond.initialized RX1, Cond.code yX1_boothOf cX1_boothOf 2 (some .int), Cond.fieldLink RX1 21 "GlassBooths$People" "booths" "[I", Cond.methodLink RX1 35 yX1_has, Cond.instanceMethod yX1_has, Cond.selects RX1 yX1_has yX1_has, Cond.code yX1_has cX1_has 2 (some .boolean), Cond.fieldLink RX1 24 "GlassBooths$People" "size" "I", Cond.methodLink RX0 81 yX0_isFresher, Cond.instanceMethod yX0_isFresher, Cond.selects RX0 yX0_isFresher yX0_isFresher, Cond.code yX0_isFresher cX0_isFresher 3 (some .boolean), Cond.methodLink RX0 85 yX1_has, Cond.methodLink RX0 63 yX0_wayFrom, Cond.instanceMethod yX0_wayFrom]
def wsX3_late_r3 : List Cond := [Cond.selects RX0 yX0_wayFrom yX0_wayFrom, Cond.code yX0_wayFrom cX0_wayFrom 5 (some .int), Cond.methodLink RX0 88 yX1_knownBy, Cond.instanceMethod yX1_knownBy, Cond.selects RX1 yX1_knownBy yX1_knownBy, Cond.code yX1_knownBy cX1_knownBy 2 (some .int), Cond.fieldLink RX1 9 "GlassBooths$People" "knownTongues" "[I", Cond.static yX3_holds, Cond.code yX3_holds cX3_holds 2 (some .boolean), Cond.methodLink RX0 66 yX0_tire, Cond.instanceMethod yX0_tire, Cond.selects RX0 yX0_tire yX0_tire, Cond.code yX0_tire cX0_tire 3 none, Cond.methodLink RX0 97 Lib.Math.max.name, Cond.static Lib.Math.max.name, Cond.initialized "java/lang/Math", Cond.code Lib.Math.max.name Lib.Math.max.code 2 (some .int), Cond.methodLink RX0 94 yX0_isTurning, Cond.instanceMethod yX0_isTurning, Cond.selects RX0 yX0_isTurning yX0_isTurning, Cond.code yX0_isTurning cX0_isTurning 3 (some .boolean), Cond.methodLink RX0 52 yX0_lateIn, Cond.instanceMethod yX0_lateIn, Cond.selects RX0 yX0_lateIn yX0_lateIn]
def wsX3_late_r4 : List Cond := [Cond.code yX0_lateIn cX0_lateIn 4 (some .int)]
def wsX3_late : List Cond := .code yX3_late cX3_late 2 (some .int) :: ((wsX3_late_r1 ++ (wsX3_late_r2 ++ (wsX3_late_r3 ++ wsX3_late_r4))) ++ wsX30 ++ wsX00 ++ wsX10)
def wsX3_worn_r1 : List Cond := [Cond.fieldLink RX3 28 "GlassBooths" "day" "LGlassBooths$Day;", Cond.fieldLink RX3 43 "GlassBooths" "wornAbove" "I", Cond.methodLink RX3 145 yX0_wornBits, Cond.instanceMethod yX0_wornBits, Cond.selects RX0 yX0_wornBits yX0_wornBits, Cond.initialized RX0, Cond.code yX0_wornBits cX0_wornBits 4 (some .int), Cond.fieldLink RX0 18 "GlassBooths$Day" "tiredness" "[I", Cond.methodLink RX0 31 yJ7_fill_53178, Cond.static yJ7_fill_53178, Cond.initialized RJ7, Cond.code yJ7_fill_53178 cJ7_fill_53178 4 none, Cond.methodLink RX0 48 yX0_playHalf, Cond.instanceMethod yX0_playHalf, Cond.selects RX0 yX0_playHalf yX0_playHalf, Cond.code yX0_playHalf cX0_playHalf 3 none, Cond.fieldLink RX0 24 "GlassBooths$Day" "heardBy" "[I", Cond.fieldLink RX0 9 "GlassBooths$Day" "spoken" "[I", Cond.fieldLink RX0 15 "GlassBooths$Day" "speeds" "[I", Cond.static yX3_isHalf, Cond.initialized RX3, Cond.code yX3_isHalf cX3_isHalf 1 (some .boolean), Cond.methodLink RX0 60 yX0_chooseOn, Cond.instanceMethod yX0_chooseOn]
def wsX3_worn_r2 : List Cond := [Cond.selects RX0 yX0_chooseOn yX0_chooseOn, Cond.code yX0_chooseOn cX0_chooseOn 3 none, Cond.fieldLink RX0 21 "GlassBooths$Day" "onIn" "[I", Cond.fieldLink RX0 27 "GlassBooths$Day" "people" "LGlassBooths$People;", Cond.methodLink RX0 75 yX1_boothOf, Cond.instanceMethod yX1_boothOf, Cond.selects RX1 yX1_boothOf yX1_boothOf, Cond.initialized RX1, Cond.code yX1_boothOf cX1_boothOf 2 (some .int), Cond.fieldLink RX1 21 "GlassBooths$People" "booths" "[I", Cond.methodLink RX1 35 yX1_has, Cond.instanceMethod yX1_has, Cond.selects RX1 yX1_has yX1_has, Cond.code yX1_has cX1_has 2 (some .boolean), Cond.fieldLink RX1 24 "GlassBooths$People" "size" "I", Cond.static yX3_isTongue, Cond.code yX3_isTongue cX3_isTongue 1 (some .boolean), Cond.methodLink RX0 81 yX0_isFresher, Cond.instanceMethod yX0_isFresher, Cond.selects RX0 yX0_isFresher yX0_isFresher, Cond.code yX0_isFresher cX0_isFresher 3 (some .boolean), Cond.methodLink RX0 85 yX1_has, Cond.methodLink RX0 63 yX0_wayFrom, Cond.instanceMethod yX0_wayFrom]
def wsX3_worn_r3 : List Cond := [Cond.selects RX0 yX0_wayFrom yX0_wayFrom, Cond.code yX0_wayFrom cX0_wayFrom 5 (some .int), Cond.methodLink RX0 88 yX1_knownBy, Cond.instanceMethod yX1_knownBy, Cond.selects RX1 yX1_knownBy yX1_knownBy, Cond.code yX1_knownBy cX1_knownBy 2 (some .int), Cond.fieldLink RX1 9 "GlassBooths$People" "knownTongues" "[I", Cond.static yX3_holds, Cond.code yX3_holds cX3_holds 2 (some .boolean), Cond.methodLink RX0 66 yX0_tire, Cond.instanceMethod yX0_tire, Cond.selects RX0 yX0_tire yX0_tire, Cond.code yX0_tire cX0_tire 3 none, Cond.methodLink RX0 97 Lib.Math.max.name, Cond.static Lib.Math.max.name, Cond.initialized "java/lang/Math", Cond.code Lib.Math.max.name Lib.Math.max.code 2 (some .int), Cond.methodLink RX0 94 yX0_isTurning, Cond.instanceMethod yX0_isTurning, Cond.selects RX0 yX0_isTurning yX0_isTurning, Cond.code yX0_isTurning cX0_isTurning 3 (some .boolean), Cond.methodLink RX0 56 yX0_tiredAbove, Cond.instanceMethod yX0_tiredAbove, Cond.selects RX0 yX0_tiredAbove yX0_tiredAbove]
def wsX3_worn_r4 : List Cond := [Cond.code yX0_tiredAbove cX0_tiredAbove 4 (some .int)]
def wsX3_worn : List Cond := .code yX3_worn cX3_worn 1 (some .int) :: ((wsX3_worn_r1 ++ (wsX3_worn_r2 ++ (wsX3_worn_r3 ++ wsX3_worn_r4))) ++ wsX30 ++ wsX00 ++ wsX10)
def wsJ6_bitCount_0f7a4 : List Cond := .code yJ6_bitCount_0f7a4 cJ6_bitCount_0f7a4 1 (some .int) :: ([.constant RJ6 265 (1431655765), .constant RJ6 266 (858993459), .constant RJ6 267 (252645135)])
def wsX3_count_r1 : List Cond := [Cond.fieldLink RX3 10 "GlassBooths" "people" "LGlassBooths$People;", Cond.fieldLink RX3 28 "GlassBooths" "day" "LGlassBooths$Day;", Cond.fieldLink RX3 39 "GlassBooths" "seatsEach" "I", Cond.methodLink RX3 154 yJ6_bitCount_0f7a4, Cond.static yJ6_bitCount_0f7a4, Cond.initialized RJ6, Cond.code yJ6_bitCount_0f7a4 cJ6_bitCount_0f7a4 1 (some .int), Cond.constant RJ6 265 (1431655765), Cond.constant RJ6 266 (858993459), Cond.constant RJ6 267 (252645135), Cond.methodLink RX3 93 yX1_seated, Cond.instanceMethod yX1_seated, Cond.selects RX1 yX1_seated yX1_seated, Cond.initialized RX1, Cond.code yX1_seated cX1_seated 3 (some .int), Cond.fieldLink RX1 24 "GlassBooths$People" "size" "I", Cond.methodLink RX1 45 yX1_boothOf, Cond.instanceMethod yX1_boothOf, Cond.selects RX1 yX1_boothOf yX1_boothOf, Cond.code yX1_boothOf cX1_boothOf 2 (some .int), Cond.fieldLink RX1 21 "GlassBooths$People" "booths" "[I", Cond.methodLink RX1 35 yX1_has, Cond.instanceMethod yX1_has, Cond.selects RX1 yX1_has yX1_has]
def wsX3_count_r2 : List Cond := [Cond.code yX1_has cX1_has 2 (some .boolean), Cond.methodLink RX3 159 yX0_spokenHalves, Cond.instanceMethod yX0_spokenHalves, Cond.selects RX0 yX0_spokenHalves yX0_spokenHalves, Cond.initialized RX0, Cond.code yX0_spokenHalves cX0_spokenHalves 3 (some .int), Cond.methodLink RX0 45 yX0_isSilent, Cond.instanceMethod yX0_isSilent, Cond.selects RX0 yX0_isSilent yX0_isSilent, Cond.code yX0_isSilent cX0_isSilent 2 (some .boolean), Cond.fieldLink RX0 9 "GlassBooths$Day" "spoken" "[I", Cond.static yX3_isHalf, Cond.initialized RX3, Cond.code yX3_isHalf cX3_isHalf 1 (some .boolean)]
def wsX3_count : List Cond := .code yX3_count cX3_count 2 (some .int) :: ((wsX3_count_r1 ++ wsX3_count_r2) ++ wsX30 ++ wsX10 ++ wsX00)
def wsX4_init : List Cond := .code yX4_init cX4_init 2 none :: ([.methodLink RX4 1 objectInit, .instanceMethod objectInit, .code objectInit ⟨#[0xb1]⟩ 1 none, .arrayClass .int, .fieldLink RX4 7 "GlassBoothsModel" "knows" "[I", .fieldLink RX4 13 "GlassBoothsModel" "speaks" "[I", .fieldLink RX4 16 "GlassBoothsModel" "pay" "[I", .arrayClass .boolean, .fieldLink RX4 19 "GlassBoothsModel" "isIll" "[Z", .fieldLink RX4 23 "GlassBoothsModel" "floors" "[I", .fieldLink RX4 26 "GlassBoothsModel" "wanted" "[I", .fieldLink RX4 29 "GlassBoothsModel" "seats" "I", .fieldLink RX4 33 "GlassBoothsModel" "booth" "[I", .fieldLink RX4 36 "GlassBoothsModel" "spoken" "[I", .fieldLink RX4 39 "GlassBoothsModel" "speed" "[I", .fieldLink RX4 42 "GlassBoothsModel" "limit" "I", .fieldLink RX4 45 "GlassBoothsModel" "row" "[I", .fieldLink RX4 48 "GlassBoothsModel" "cheap" "[I", .fieldLink RX4 51 "GlassBoothsModel" "near" "[I", .fieldLink RX4 54 "GlassBoothsModel" "tired" "[I", .fieldLink RX4 57 "GlassBoothsModel" "on" "[I", .fieldLink RX4 60 "GlassBoothsModel" "heard" "[I", .fieldLink RX4 63 "GlassBoothsModel" "lateOf" "[I"] ++ wsX40)
def wsX4_in : List Cond := .code yX4_in cX4_in 3 (some .boolean) :: ([])
def wsX4_isPerson : List Cond := .code yX4_isPerson cX4_isPerson 2 (some .boolean) :: ([.fieldLink RX4 66 "GlassBoothsModel" "people" "I", .methodLink RX4 69 yX4_in, .static yX4_in, .initialized RX4, .code yX4_in cX4_in 3 (some .boolean)] ++ wsX40)
def wsX4_isSession : List Cond := .code yX4_isSession cX4_isSession 1 (some .boolean) :: ([.methodLink RX4 69 yX4_in, .static yX4_in, .initialized RX4, .code yX4_in cX4_in 3 (some .boolean)])
def wsX4_isTongue : List Cond := .code yX4_isTongue cX4_isTongue 1 (some .boolean) :: ([.methodLink RX4 69 yX4_in, .static yX4_in, .initialized RX4, .code yX4_in cX4_in 3 (some .boolean)])
def wsX4_isHalf : List Cond := .code yX4_isHalf cX4_isHalf 1 (some .boolean) :: ([.methodLink RX4 69 yX4_in, .static yX4_in, .initialized RX4, .code yX4_in cX4_in 3 (some .boolean)])
def wsX4_has : List Cond := .code yX4_has cX4_has 2 (some .boolean) :: ([])
def wsX4_person : List Cond := .code yX4_person cX4_person 4 (some .int) :: ([.fieldLink RX4 66 "GlassBoothsModel" "people" "I", .fieldLink RX4 7 "GlassBoothsModel" "knows" "[I", .fieldLink RX4 13 "GlassBoothsModel" "speaks" "[I", .fieldLink RX4 16 "GlassBoothsModel" "pay" "[I", .methodLink RX4 69 yX4_in, .static yX4_in, .initialized RX4, .code yX4_in cX4_in 3 (some .boolean)] ++ wsX40)
def wsX4_ill : List Cond := .code yX4_ill cX4_ill 4 (some .int) :: ([.fieldLink RX4 19 "GlassBoothsModel" "isIll" "[Z", .methodLink RX4 73 yX4_isPerson, .instanceMethod yX4_isPerson, .selects RX4 yX4_isPerson yX4_isPerson, .initialized RX4, .code yX4_isPerson cX4_isPerson 2 (some .boolean), .fieldLink RX4 66 "GlassBoothsModel" "people" "I", .methodLink RX4 69 yX4_in, .static yX4_in, .code yX4_in cX4_in 3 (some .boolean)] ++ wsX40)
def wsX4_session : List Cond := .code yX4_session cX4_session 4 (some .int) :: ([.fieldLink RX4 23 "GlassBoothsModel" "floors" "[I", .fieldLink RX4 26 "GlassBoothsModel" "wanted" "[I", .methodLink RX4 77 yX4_isSession, .static yX4_isSession, .initialized RX4, .code yX4_isSession cX4_isSession 1 (some .boolean), .methodLink RX4 69 yX4_in, .static yX4_in, .code yX4_in cX4_in 3 (some .boolean)] ++ wsX40)
def wsX4_seats : List Cond := .code yX4_seats cX4_seats 3 (some .int) :: ([.fieldLink RX4 29 "GlassBoothsModel" "seats" "I", .methodLink RX4 69 yX4_in, .static yX4_in, .initialized RX4, .code yX4_in cX4_in 3 (some .boolean)] ++ wsX40)
def wsX4_isTeam : List Cond := .code yX4_isTeam cX4_isTeam 6 (some .boolean) :: ([.fieldLink RX4 66 "GlassBoothsModel" "people" "I", .fieldLink RX4 45 "GlassBoothsModel" "row" "[I", .fieldLink RX4 26 "GlassBoothsModel" "wanted" "[I", .fieldLink RX4 13 "GlassBoothsModel" "speaks" "[I", .fieldLink RX4 19 "GlassBoothsModel" "isIll" "[Z", .fieldLink RX4 29 "GlassBoothsModel" "seats" "I", .methodLink RX4 80 yX4_has, .static yX4_has, .initialized RX4, .code yX4_has cX4_has 2 (some .boolean)] ++ wsX40)
def wsX4_allKnow : List Cond := .code yX4_allKnow cX4_allKnow 5 (some .boolean) :: ([.fieldLink RX4 66 "GlassBoothsModel" "people" "I", .fieldLink RX4 45 "GlassBoothsModel" "row" "[I", .fieldLink RX4 7 "GlassBoothsModel" "knows" "[I", .methodLink RX4 80 yX4_has, .static yX4_has, .initialized RX4, .code yX4_has cX4_has 2 (some .boolean)] ++ wsX40)
def wsX4_isWhole : List Cond := .code yX4_isWhole cX4_isWhole 7 (some .boolean) :: ([.fieldLink RX4 23 "GlassBoothsModel" "floors" "[I", .fieldLink RX4 26 "GlassBoothsModel" "wanted" "[I", .methodLink RX4 80 yX4_has, .static yX4_has, .initialized RX4, .code yX4_has cX4_has 2 (some .boolean), .methodLink RX4 84 yX4_allKnow, .instanceMethod yX4_allKnow, .selects RX4 yX4_allKnow yX4_allKnow, .code yX4_allKnow cX4_allKnow 5 (some .boolean), .fieldLink RX4 66 "GlassBoothsModel" "people" "I", .fieldLink RX4 45 "GlassBoothsModel" "row" "[I", .fieldLink RX4 7 "GlassBoothsModel" "knows" "[I"] ++ wsX40)
def wsX4_findTeams_r1 : List Cond := [Cond.fieldLink RX4 87 "GlassBoothsModel" "wholeMany" "I", Cond.fieldLink RX4 90 "GlassBoothsModel" "cheapest" "I", Cond.fieldLink RX4 93 "GlassBoothsModel" "nearest" "I", Cond.fieldLink RX4 96 "GlassBoothsModel" "always" "I", Cond.fieldLink RX4 66 "GlassBoothsModel" "people" "I", Cond.fieldLink RX4 45 "GlassBoothsModel" "row" "[I", Cond.fieldLink RX4 16 "GlassBoothsModel" "pay" "[I", Cond.fieldLink RX4 33 "GlassBoothsModel" "booth" "[I", Cond.fieldLink RX4 105 "GlassBoothsModel" "nearPay" "I", Cond.fieldLink RX4 48 "GlassBoothsModel" "cheap" "[I", Cond.fieldLink RX4 51 "GlassBoothsModel" "near" "[I", Cond.methodLink RX4 99 yX4_isTeam, Cond.instanceMethod yX4_isTeam, Cond.selects RX4 yX4_isTeam yX4_isTeam, Cond.initialized RX4, Cond.code yX4_isTeam cX4_isTeam 6 (some .boolean), Cond.fieldLink RX4 26 "GlassBoothsModel" "wanted" "[I", Cond.fieldLink RX4 13 "GlassBoothsModel" "speaks" "[I", Cond.fieldLink RX4 19 "GlassBoothsModel" "isIll" "[Z", Cond.fieldLink RX4 29 "GlassBoothsModel" "seats" "I", Cond.methodLink RX4 80 yX4_has, Cond.static yX4_has, Cond.code yX4_has cX4_has 2 (some .boolean), Cond.methodLink RX4 102 yX4_isWhole]
def wsX4_findTeams_r2 : List Cond := [Cond.instanceMethod yX4_isWhole, Cond.selects RX4 yX4_isWhole yX4_isWhole, Cond.code yX4_isWhole cX4_isWhole 7 (some .boolean), Cond.fieldLink RX4 23 "GlassBoothsModel" "floors" "[I", Cond.methodLink RX4 84 yX4_allKnow, Cond.instanceMethod yX4_allKnow, Cond.selects RX4 yX4_allKnow yX4_allKnow, Cond.code yX4_allKnow cX4_allKnow 5 (some .boolean), Cond.fieldLink RX4 7 "GlassBoothsModel" "knows" "[I"]
def wsX4_findTeams : List Cond := .code yX4_findTeams cX4_findTeams 10 none :: ((wsX4_findTeams_r1 ++ wsX4_findTeams_r2) ++ wsX40)
def wsX4_whole_r1 : List Cond := [Cond.fieldLink RX4 87 "GlassBoothsModel" "wholeMany" "I", Cond.methodLink RX4 77 yX4_isSession, Cond.static yX4_isSession, Cond.initialized RX4, Cond.code yX4_isSession cX4_isSession 1 (some .boolean), Cond.methodLink RX4 69 yX4_in, Cond.static yX4_in, Cond.code yX4_in cX4_in 3 (some .boolean), Cond.methodLink RX4 108 yX4_findTeams, Cond.instanceMethod yX4_findTeams, Cond.selects RX4 yX4_findTeams yX4_findTeams, Cond.code yX4_findTeams cX4_findTeams 10 none, Cond.fieldLink RX4 90 "GlassBoothsModel" "cheapest" "I", Cond.fieldLink RX4 93 "GlassBoothsModel" "nearest" "I", Cond.fieldLink RX4 96 "GlassBoothsModel" "always" "I", Cond.fieldLink RX4 66 "GlassBoothsModel" "people" "I", Cond.fieldLink RX4 45 "GlassBoothsModel" "row" "[I", Cond.fieldLink RX4 16 "GlassBoothsModel" "pay" "[I", Cond.fieldLink RX4 33 "GlassBoothsModel" "booth" "[I", Cond.fieldLink RX4 105 "GlassBoothsModel" "nearPay" "I", Cond.fieldLink RX4 48 "GlassBoothsModel" "cheap" "[I", Cond.fieldLink RX4 51 "GlassBoothsModel" "near" "[I", Cond.methodLink RX4 99 yX4_isTeam, Cond.instanceMethod yX4_isTeam]
def wsX4_whole_r2 : List Cond := [Cond.selects RX4 yX4_isTeam yX4_isTeam, Cond.code yX4_isTeam cX4_isTeam 6 (some .boolean), Cond.fieldLink RX4 26 "GlassBoothsModel" "wanted" "[I", Cond.fieldLink RX4 13 "GlassBoothsModel" "speaks" "[I", Cond.fieldLink RX4 19 "GlassBoothsModel" "isIll" "[Z", Cond.fieldLink RX4 29 "GlassBoothsModel" "seats" "I", Cond.methodLink RX4 80 yX4_has, Cond.static yX4_has, Cond.code yX4_has cX4_has 2 (some .boolean), Cond.methodLink RX4 102 yX4_isWhole, Cond.instanceMethod yX4_isWhole, Cond.selects RX4 yX4_isWhole yX4_isWhole, Cond.code yX4_isWhole cX4_isWhole 7 (some .boolean), Cond.fieldLink RX4 23 "GlassBoothsModel" "floors" "[I", Cond.methodLink RX4 84 yX4_allKnow, Cond.instanceMethod yX4_allKnow, Cond.selects RX4 yX4_allKnow yX4_allKnow, Cond.code yX4_allKnow cX4_allKnow 5 (some .boolean), Cond.fieldLink RX4 7 "GlassBoothsModel" "knows" "[I"]
def wsX4_whole : List Cond := .code yX4_whole cX4_whole 2 (some .int) :: ((wsX4_whole_r1 ++ wsX4_whole_r2) ++ wsX40)
def wsX4_cheapest_r1 : List Cond := [Cond.fieldLink RX4 90 "GlassBoothsModel" "cheapest" "I", Cond.methodLink RX4 77 yX4_isSession, Cond.static yX4_isSession, Cond.initialized RX4, Cond.code yX4_isSession cX4_isSession 1 (some .boolean), Cond.methodLink RX4 69 yX4_in, Cond.static yX4_in, Cond.code yX4_in cX4_in 3 (some .boolean), Cond.methodLink RX4 108 yX4_findTeams, Cond.instanceMethod yX4_findTeams, Cond.selects RX4 yX4_findTeams yX4_findTeams, Cond.code yX4_findTeams cX4_findTeams 10 none, Cond.fieldLink RX4 87 "GlassBoothsModel" "wholeMany" "I", Cond.fieldLink RX4 93 "GlassBoothsModel" "nearest" "I", Cond.fieldLink RX4 96 "GlassBoothsModel" "always" "I", Cond.fieldLink RX4 66 "GlassBoothsModel" "people" "I", Cond.fieldLink RX4 45 "GlassBoothsModel" "row" "[I", Cond.fieldLink RX4 16 "GlassBoothsModel" "pay" "[I", Cond.fieldLink RX4 33 "GlassBoothsModel" "booth" "[I", Cond.fieldLink RX4 105 "GlassBoothsModel" "nearPay" "I", Cond.fieldLink RX4 48 "GlassBoothsModel" "cheap" "[I", Cond.fieldLink RX4 51 "GlassBoothsModel" "near" "[I", Cond.methodLink RX4 99 yX4_isTeam, Cond.instanceMethod yX4_isTeam]
def wsX4_cheapest_r2 : List Cond := [Cond.selects RX4 yX4_isTeam yX4_isTeam, Cond.code yX4_isTeam cX4_isTeam 6 (some .boolean), Cond.fieldLink RX4 26 "GlassBoothsModel" "wanted" "[I", Cond.fieldLink RX4 13 "GlassBoothsModel" "speaks" "[I", Cond.fieldLink RX4 19 "GlassBoothsModel" "isIll" "[Z", Cond.fieldLink RX4 29 "GlassBoothsModel" "seats" "I", Cond.methodLink RX4 80 yX4_has, Cond.static yX4_has, Cond.code yX4_has cX4_has 2 (some .boolean), Cond.methodLink RX4 102 yX4_isWhole, Cond.instanceMethod yX4_isWhole, Cond.selects RX4 yX4_isWhole yX4_isWhole, Cond.code yX4_isWhole cX4_isWhole 7 (some .boolean), Cond.fieldLink RX4 23 "GlassBoothsModel" "floors" "[I", Cond.methodLink RX4 84 yX4_allKnow, Cond.instanceMethod yX4_allKnow, Cond.selects RX4 yX4_allKnow yX4_allKnow, Cond.code yX4_allKnow cX4_allKnow 5 (some .boolean), Cond.fieldLink RX4 7 "GlassBoothsModel" "knows" "[I"]
def wsX4_cheapest : List Cond := .code yX4_cheapest cX4_cheapest 2 (some .int) :: ((wsX4_cheapest_r1 ++ wsX4_cheapest_r2) ++ wsX40)
def wsX4_nearest_r1 : List Cond := [Cond.fieldLink RX4 93 "GlassBoothsModel" "nearest" "I", Cond.methodLink RX4 77 yX4_isSession, Cond.static yX4_isSession, Cond.initialized RX4, Cond.code yX4_isSession cX4_isSession 1 (some .boolean), Cond.methodLink RX4 69 yX4_in, Cond.static yX4_in, Cond.code yX4_in cX4_in 3 (some .boolean), Cond.methodLink RX4 108 yX4_findTeams, Cond.instanceMethod yX4_findTeams, Cond.selects RX4 yX4_findTeams yX4_findTeams, Cond.code yX4_findTeams cX4_findTeams 10 none, Cond.fieldLink RX4 87 "GlassBoothsModel" "wholeMany" "I", Cond.fieldLink RX4 90 "GlassBoothsModel" "cheapest" "I", Cond.fieldLink RX4 96 "GlassBoothsModel" "always" "I", Cond.fieldLink RX4 66 "GlassBoothsModel" "people" "I", Cond.fieldLink RX4 45 "GlassBoothsModel" "row" "[I", Cond.fieldLink RX4 16 "GlassBoothsModel" "pay" "[I", Cond.fieldLink RX4 33 "GlassBoothsModel" "booth" "[I", Cond.fieldLink RX4 105 "GlassBoothsModel" "nearPay" "I", Cond.fieldLink RX4 48 "GlassBoothsModel" "cheap" "[I", Cond.fieldLink RX4 51 "GlassBoothsModel" "near" "[I", Cond.methodLink RX4 99 yX4_isTeam, Cond.instanceMethod yX4_isTeam]
def wsX4_nearest_r2 : List Cond := [Cond.selects RX4 yX4_isTeam yX4_isTeam, Cond.code yX4_isTeam cX4_isTeam 6 (some .boolean), Cond.fieldLink RX4 26 "GlassBoothsModel" "wanted" "[I", Cond.fieldLink RX4 13 "GlassBoothsModel" "speaks" "[I", Cond.fieldLink RX4 19 "GlassBoothsModel" "isIll" "[Z", Cond.fieldLink RX4 29 "GlassBoothsModel" "seats" "I", Cond.methodLink RX4 80 yX4_has, Cond.static yX4_has, Cond.code yX4_has cX4_has 2 (some .boolean), Cond.methodLink RX4 102 yX4_isWhole, Cond.instanceMethod yX4_isWhole, Cond.selects RX4 yX4_isWhole yX4_isWhole, Cond.code yX4_isWhole cX4_isWhole 7 (some .boolean), Cond.fieldLink RX4 23 "GlassBoothsModel" "floors" "[I", Cond.methodLink RX4 84 yX4_allKnow, Cond.instanceMethod yX4_allKnow, Cond.selects RX4 yX4_allKnow yX4_allKnow, Cond.code yX4_allKnow cX4_allKnow 5 (some .boolean), Cond.fieldLink RX4 7 "GlassBoothsModel" "knows" "[I"]
def wsX4_nearest : List Cond := .code yX4_nearest cX4_nearest 2 (some .int) :: ((wsX4_nearest_r1 ++ wsX4_nearest_r2) ++ wsX40)
def wsX4_take_r1 : List Cond := [Cond.fieldLink RX4 87 "GlassBoothsModel" "wholeMany" "I", Cond.fieldLink RX4 66 "GlassBoothsModel" "people" "I", Cond.fieldLink RX4 33 "GlassBoothsModel" "booth" "[I", Cond.fieldLink RX4 48 "GlassBoothsModel" "cheap" "[I", Cond.fieldLink RX4 51 "GlassBoothsModel" "near" "[I", Cond.fieldLink RX4 90 "GlassBoothsModel" "cheapest" "I", Cond.fieldLink RX4 105 "GlassBoothsModel" "nearPay" "I", Cond.methodLink RX4 77 yX4_isSession, Cond.static yX4_isSession, Cond.initialized RX4, Cond.code yX4_isSession cX4_isSession 1 (some .boolean), Cond.methodLink RX4 69 yX4_in, Cond.static yX4_in, Cond.code yX4_in cX4_in 3 (some .boolean), Cond.methodLink RX4 108 yX4_findTeams, Cond.instanceMethod yX4_findTeams, Cond.selects RX4 yX4_findTeams yX4_findTeams, Cond.code yX4_findTeams cX4_findTeams 10 none, Cond.fieldLink RX4 93 "GlassBoothsModel" "nearest" "I", Cond.fieldLink RX4 96 "GlassBoothsModel" "always" "I", Cond.fieldLink RX4 45 "GlassBoothsModel" "row" "[I", Cond.fieldLink RX4 16 "GlassBoothsModel" "pay" "[I", Cond.methodLink RX4 99 yX4_isTeam, Cond.instanceMethod yX4_isTeam]
def wsX4_take_r2 : List Cond := [Cond.selects RX4 yX4_isTeam yX4_isTeam, Cond.code yX4_isTeam cX4_isTeam 6 (some .boolean), Cond.fieldLink RX4 26 "GlassBoothsModel" "wanted" "[I", Cond.fieldLink RX4 13 "GlassBoothsModel" "speaks" "[I", Cond.fieldLink RX4 19 "GlassBoothsModel" "isIll" "[Z", Cond.fieldLink RX4 29 "GlassBoothsModel" "seats" "I", Cond.methodLink RX4 80 yX4_has, Cond.static yX4_has, Cond.code yX4_has cX4_has 2 (some .boolean), Cond.methodLink RX4 102 yX4_isWhole, Cond.instanceMethod yX4_isWhole, Cond.selects RX4 yX4_isWhole yX4_isWhole, Cond.code yX4_isWhole cX4_isWhole 7 (some .boolean), Cond.fieldLink RX4 23 "GlassBoothsModel" "floors" "[I", Cond.methodLink RX4 84 yX4_allKnow, Cond.instanceMethod yX4_allKnow, Cond.selects RX4 yX4_allKnow yX4_allKnow, Cond.code yX4_allKnow cX4_allKnow 5 (some .boolean), Cond.fieldLink RX4 7 "GlassBoothsModel" "knows" "[I"]
def wsX4_take : List Cond := .code yX4_take cX4_take 4 (some .int) :: ((wsX4_take_r1 ++ wsX4_take_r2) ++ wsX40)
def wsX4_seated : List Cond := .code yX4_seated cX4_seated 3 (some .int) :: ([.fieldLink RX4 66 "GlassBoothsModel" "people" "I", .fieldLink RX4 33 "GlassBoothsModel" "booth" "[I"] ++ wsX40)
def wsX4_leave : List Cond := .code yX4_leave cX4_leave 3 (some .int) :: ([.fieldLink RX4 33 "GlassBoothsModel" "booth" "[I", .methodLink RX4 112 yX4_seated, .instanceMethod yX4_seated, .selects RX4 yX4_seated yX4_seated, .initialized RX4, .code yX4_seated cX4_seated 3 (some .int), .fieldLink RX4 66 "GlassBoothsModel" "people" "I"] ++ wsX40)
def wsX4_booth : List Cond := .code yX4_booth cX4_booth 2 (some .int) :: ([.fieldLink RX4 33 "GlassBoothsModel" "booth" "[I", .methodLink RX4 73 yX4_isPerson, .instanceMethod yX4_isPerson, .selects RX4 yX4_isPerson yX4_isPerson, .initialized RX4, .code yX4_isPerson cX4_isPerson 2 (some .boolean), .fieldLink RX4 66 "GlassBoothsModel" "people" "I", .methodLink RX4 69 yX4_in, .static yX4_in, .code yX4_in cX4_in 3 (some .boolean)] ++ wsX40)
def wsX4_lacking : List Cond := .code yX4_lacking cX4_lacking 6 (some .int) :: ([.fieldLink RX4 66 "GlassBoothsModel" "people" "I", .fieldLink RX4 19 "GlassBoothsModel" "isIll" "[Z", .fieldLink RX4 13 "GlassBoothsModel" "speaks" "[I", .fieldLink RX4 26 "GlassBoothsModel" "wanted" "[I", .fieldLink RX4 29 "GlassBoothsModel" "seats" "I", .methodLink RX4 77 yX4_isSession, .static yX4_isSession, .initialized RX4, .code yX4_isSession cX4_isSession 1 (some .boolean), .methodLink RX4 69 yX4_in, .static yX4_in, .code yX4_in cX4_in 3 (some .boolean), .methodLink RX4 80 yX4_has, .static yX4_has, .code yX4_has cX4_has 2 (some .boolean)] ++ wsX40)
def wsX4_needed_r1 : List Cond := [Cond.fieldLink RX4 87 "GlassBoothsModel" "wholeMany" "I", Cond.fieldLink RX4 96 "GlassBoothsModel" "always" "I", Cond.methodLink RX4 73 yX4_isPerson, Cond.instanceMethod yX4_isPerson, Cond.selects RX4 yX4_isPerson yX4_isPerson, Cond.initialized RX4, Cond.code yX4_isPerson cX4_isPerson 2 (some .boolean), Cond.fieldLink RX4 66 "GlassBoothsModel" "people" "I", Cond.methodLink RX4 69 yX4_in, Cond.static yX4_in, Cond.code yX4_in cX4_in 3 (some .boolean), Cond.methodLink RX4 77 yX4_isSession, Cond.static yX4_isSession, Cond.code yX4_isSession cX4_isSession 1 (some .boolean), Cond.methodLink RX4 108 yX4_findTeams, Cond.instanceMethod yX4_findTeams, Cond.selects RX4 yX4_findTeams yX4_findTeams, Cond.code yX4_findTeams cX4_findTeams 10 none, Cond.fieldLink RX4 90 "GlassBoothsModel" "cheapest" "I", Cond.fieldLink RX4 93 "GlassBoothsModel" "nearest" "I", Cond.fieldLink RX4 45 "GlassBoothsModel" "row" "[I", Cond.fieldLink RX4 16 "GlassBoothsModel" "pay" "[I", Cond.fieldLink RX4 33 "GlassBoothsModel" "booth" "[I", Cond.fieldLink RX4 105 "GlassBoothsModel" "nearPay" "I"]
def wsX4_needed_r2 : List Cond := [Cond.fieldLink RX4 48 "GlassBoothsModel" "cheap" "[I", Cond.fieldLink RX4 51 "GlassBoothsModel" "near" "[I", Cond.methodLink RX4 99 yX4_isTeam, Cond.instanceMethod yX4_isTeam, Cond.selects RX4 yX4_isTeam yX4_isTeam, Cond.code yX4_isTeam cX4_isTeam 6 (some .boolean), Cond.fieldLink RX4 26 "GlassBoothsModel" "wanted" "[I", Cond.fieldLink RX4 13 "GlassBoothsModel" "speaks" "[I", Cond.fieldLink RX4 19 "GlassBoothsModel" "isIll" "[Z", Cond.fieldLink RX4 29 "GlassBoothsModel" "seats" "I", Cond.methodLink RX4 80 yX4_has, Cond.static yX4_has, Cond.code yX4_has cX4_has 2 (some .boolean), Cond.methodLink RX4 102 yX4_isWhole, Cond.instanceMethod yX4_isWhole, Cond.selects RX4 yX4_isWhole yX4_isWhole, Cond.code yX4_isWhole cX4_isWhole 7 (some .boolean), Cond.fieldLink RX4 23 "GlassBoothsModel" "floors" "[I", Cond.methodLink RX4 84 yX4_allKnow, Cond.instanceMethod yX4_allKnow, Cond.selects RX4 yX4_allKnow yX4_allKnow, Cond.code yX4_allKnow cX4_allKnow 5 (some .boolean), Cond.fieldLink RX4 7 "GlassBoothsModel" "knows" "[I"]
def wsX4_needed : List Cond := .code yX4_needed cX4_needed 3 (some .int) :: ((wsX4_needed_r1 ++ wsX4_needed_r2) ++ wsX40)
def wsX4_speak : List Cond := .code yX4_speak cX4_speak 4 (some .int) :: ([.fieldLink RX4 36 "GlassBoothsModel" "spoken" "[I", .fieldLink RX4 39 "GlassBoothsModel" "speed" "[I", .methodLink RX4 116 yX4_isHalf, .static yX4_isHalf, .initialized RX4, .code yX4_isHalf cX4_isHalf 1 (some .boolean), .methodLink RX4 69 yX4_in, .static yX4_in, .code yX4_in cX4_in 3 (some .boolean), .methodLink RX4 119 yX4_isTongue, .static yX4_isTongue, .code yX4_isTongue cX4_isTongue 1 (some .boolean)] ++ wsX40)
def wsX4_silence : List Cond := .code yX4_silence cX4_silence 3 (some .int) :: ([.fieldLink RX4 36 "GlassBoothsModel" "spoken" "[I", .methodLink RX4 116 yX4_isHalf, .static yX4_isHalf, .initialized RX4, .code yX4_isHalf cX4_isHalf 1 (some .boolean), .methodLink RX4 69 yX4_in, .static yX4_in, .code yX4_in cX4_in 3 (some .boolean)] ++ wsX40)
def wsX4_limit : List Cond := .code yX4_limit cX4_limit 3 (some .int) :: ([.fieldLink RX4 42 "GlassBoothsModel" "limit" "I", .methodLink RX4 69 yX4_in, .static yX4_in, .initialized RX4, .code yX4_in cX4_in 3 (some .boolean)] ++ wsX40)
def wsX4_knowsIt : List Cond := .code yX4_knowsIt cX4_knowsIt 3 (some .boolean) :: ([.fieldLink RX4 7 "GlassBoothsModel" "knows" "[I", .methodLink RX4 80 yX4_has, .static yX4_has, .initialized RX4, .code yX4_has cX4_has 2 (some .boolean)] ++ wsX40)
def wsX4_findOn : List Cond := .code yX4_findOn cX4_findOn 5 none :: ([.fieldLink RX4 57 "GlassBoothsModel" "on" "[I", .fieldLink RX4 66 "GlassBoothsModel" "people" "I", .fieldLink RX4 33 "GlassBoothsModel" "booth" "[I", .fieldLink RX4 54 "GlassBoothsModel" "tired" "[I", .fieldLink RX4 36 "GlassBoothsModel" "spoken" "[I", .fieldLink RX4 60 "GlassBoothsModel" "heard" "[I", .fieldLink RX4 7 "GlassBoothsModel" "knows" "[I", .methodLink RX4 122 yX4_knowsIt, .instanceMethod yX4_knowsIt, .selects RX4 yX4_knowsIt yX4_knowsIt, .initialized RX4, .code yX4_knowsIt cX4_knowsIt 3 (some .boolean), .methodLink RX4 80 yX4_has, .static yX4_has, .code yX4_has cX4_has 2 (some .boolean)] ++ wsX40)
def wsX4_goTo : List Cond := .code yX4_goTo cX4_goTo 6 none :: ([.fieldLink RX4 125 "GlassBoothsModel" "worn" "I", .fieldLink RX4 54 "GlassBoothsModel" "tired" "[I", .fieldLink RX4 63 "GlassBoothsModel" "lateOf" "[I", .fieldLink RX4 66 "GlassBoothsModel" "people" "I", .fieldLink RX4 57 "GlassBoothsModel" "on" "[I", .fieldLink RX4 60 "GlassBoothsModel" "heard" "[I", .fieldLink RX4 39 "GlassBoothsModel" "speed" "[I", .fieldLink RX4 42 "GlassBoothsModel" "limit" "I", .methodLink RX4 128 yX4_findOn, .instanceMethod yX4_findOn, .selects RX4 yX4_findOn yX4_findOn, .initialized RX4, .code yX4_findOn cX4_findOn 5 none, .fieldLink RX4 33 "GlassBoothsModel" "booth" "[I", .fieldLink RX4 36 "GlassBoothsModel" "spoken" "[I", .fieldLink RX4 7 "GlassBoothsModel" "knows" "[I", .methodLink RX4 122 yX4_knowsIt, .instanceMethod yX4_knowsIt, .selects RX4 yX4_knowsIt yX4_knowsIt, .code yX4_knowsIt cX4_knowsIt 3 (some .boolean), .methodLink RX4 80 yX4_has, .static yX4_has, .code yX4_has cX4_has 2 (some .boolean)] ++ wsX40)
def wsX4_on_r1 : List Cond := [Cond.fieldLink RX4 57 "GlassBoothsModel" "on" "[I", Cond.methodLink RX4 119 yX4_isTongue, Cond.static yX4_isTongue, Cond.initialized RX4, Cond.code yX4_isTongue cX4_isTongue 1 (some .boolean), Cond.methodLink RX4 69 yX4_in, Cond.static yX4_in, Cond.code yX4_in cX4_in 3 (some .boolean), Cond.methodLink RX4 116 yX4_isHalf, Cond.static yX4_isHalf, Cond.code yX4_isHalf cX4_isHalf 1 (some .boolean), Cond.methodLink RX4 131 yX4_goTo, Cond.instanceMethod yX4_goTo, Cond.selects RX4 yX4_goTo yX4_goTo, Cond.code yX4_goTo cX4_goTo 6 none, Cond.fieldLink RX4 125 "GlassBoothsModel" "worn" "I", Cond.fieldLink RX4 54 "GlassBoothsModel" "tired" "[I", Cond.fieldLink RX4 63 "GlassBoothsModel" "lateOf" "[I", Cond.fieldLink RX4 66 "GlassBoothsModel" "people" "I", Cond.fieldLink RX4 60 "GlassBoothsModel" "heard" "[I", Cond.fieldLink RX4 39 "GlassBoothsModel" "speed" "[I", Cond.fieldLink RX4 42 "GlassBoothsModel" "limit" "I", Cond.methodLink RX4 128 yX4_findOn, Cond.instanceMethod yX4_findOn]
def wsX4_on_r2 : List Cond := [Cond.selects RX4 yX4_findOn yX4_findOn, Cond.code yX4_findOn cX4_findOn 5 none, Cond.fieldLink RX4 33 "GlassBoothsModel" "booth" "[I", Cond.fieldLink RX4 36 "GlassBoothsModel" "spoken" "[I", Cond.fieldLink RX4 7 "GlassBoothsModel" "knows" "[I", Cond.methodLink RX4 122 yX4_knowsIt, Cond.instanceMethod yX4_knowsIt, Cond.selects RX4 yX4_knowsIt yX4_knowsIt, Cond.code yX4_knowsIt cX4_knowsIt 3 (some .boolean), Cond.methodLink RX4 80 yX4_has, Cond.static yX4_has, Cond.code yX4_has cX4_has 2 (some .boolean)]
def wsX4_on : List Cond := .code yX4_on cX4_on 3 (some .int) :: ((wsX4_on_r1 ++ wsX4_on_r2) ++ wsX40)
def wsX4_heard_r1 : List Cond := [Cond.fieldLink RX4 60 "GlassBoothsModel" "heard" "[I", Cond.methodLink RX4 119 yX4_isTongue, Cond.static yX4_isTongue, Cond.initialized RX4, Cond.code yX4_isTongue cX4_isTongue 1 (some .boolean), Cond.methodLink RX4 69 yX4_in, Cond.static yX4_in, Cond.code yX4_in cX4_in 3 (some .boolean), Cond.methodLink RX4 116 yX4_isHalf, Cond.static yX4_isHalf, Cond.code yX4_isHalf cX4_isHalf 1 (some .boolean), Cond.methodLink RX4 131 yX4_goTo, Cond.instanceMethod yX4_goTo, Cond.selects RX4 yX4_goTo yX4_goTo, Cond.code yX4_goTo cX4_goTo 6 none, Cond.fieldLink RX4 125 "GlassBoothsModel" "worn" "I", Cond.fieldLink RX4 54 "GlassBoothsModel" "tired" "[I", Cond.fieldLink RX4 63 "GlassBoothsModel" "lateOf" "[I", Cond.fieldLink RX4 66 "GlassBoothsModel" "people" "I", Cond.fieldLink RX4 57 "GlassBoothsModel" "on" "[I", Cond.fieldLink RX4 39 "GlassBoothsModel" "speed" "[I", Cond.fieldLink RX4 42 "GlassBoothsModel" "limit" "I", Cond.methodLink RX4 128 yX4_findOn, Cond.instanceMethod yX4_findOn]
def wsX4_heard_r2 : List Cond := [Cond.selects RX4 yX4_findOn yX4_findOn, Cond.code yX4_findOn cX4_findOn 5 none, Cond.fieldLink RX4 33 "GlassBoothsModel" "booth" "[I", Cond.fieldLink RX4 36 "GlassBoothsModel" "spoken" "[I", Cond.fieldLink RX4 7 "GlassBoothsModel" "knows" "[I", Cond.methodLink RX4 122 yX4_knowsIt, Cond.instanceMethod yX4_knowsIt, Cond.selects RX4 yX4_knowsIt yX4_knowsIt, Cond.code yX4_knowsIt cX4_knowsIt 3 (some .boolean), Cond.methodLink RX4 80 yX4_has, Cond.static yX4_has, Cond.code yX4_has cX4_has 2 (some .boolean)]
def wsX4_heard : List Cond := .code yX4_heard cX4_heard 3 (some .int) :: ((wsX4_heard_r1 ++ wsX4_heard_r2) ++ wsX40)
def wsX4_tired_r1 : List Cond := [Cond.fieldLink RX4 54 "GlassBoothsModel" "tired" "[I", Cond.methodLink RX4 73 yX4_isPerson, Cond.instanceMethod yX4_isPerson, Cond.selects RX4 yX4_isPerson yX4_isPerson, Cond.initialized RX4, Cond.code yX4_isPerson cX4_isPerson 2 (some .boolean), Cond.fieldLink RX4 66 "GlassBoothsModel" "people" "I", Cond.methodLink RX4 69 yX4_in, Cond.static yX4_in, Cond.code yX4_in cX4_in 3 (some .boolean), Cond.methodLink RX4 116 yX4_isHalf, Cond.static yX4_isHalf, Cond.code yX4_isHalf cX4_isHalf 1 (some .boolean), Cond.methodLink RX4 131 yX4_goTo, Cond.instanceMethod yX4_goTo, Cond.selects RX4 yX4_goTo yX4_goTo, Cond.code yX4_goTo cX4_goTo 6 none, Cond.fieldLink RX4 125 "GlassBoothsModel" "worn" "I", Cond.fieldLink RX4 63 "GlassBoothsModel" "lateOf" "[I", Cond.fieldLink RX4 57 "GlassBoothsModel" "on" "[I", Cond.fieldLink RX4 60 "GlassBoothsModel" "heard" "[I", Cond.fieldLink RX4 39 "GlassBoothsModel" "speed" "[I", Cond.fieldLink RX4 42 "GlassBoothsModel" "limit" "I", Cond.methodLink RX4 128 yX4_findOn]
def wsX4_tired_r2 : List Cond := [Cond.instanceMethod yX4_findOn, Cond.selects RX4 yX4_findOn yX4_findOn, Cond.code yX4_findOn cX4_findOn 5 none, Cond.fieldLink RX4 33 "GlassBoothsModel" "booth" "[I", Cond.fieldLink RX4 36 "GlassBoothsModel" "spoken" "[I", Cond.fieldLink RX4 7 "GlassBoothsModel" "knows" "[I", Cond.methodLink RX4 122 yX4_knowsIt, Cond.instanceMethod yX4_knowsIt, Cond.selects RX4 yX4_knowsIt yX4_knowsIt, Cond.code yX4_knowsIt cX4_knowsIt 3 (some .boolean), Cond.methodLink RX4 80 yX4_has, Cond.static yX4_has, Cond.code yX4_has cX4_has 2 (some .boolean)]
def wsX4_tired : List Cond := .code yX4_tired cX4_tired 3 (some .int) :: ((wsX4_tired_r1 ++ wsX4_tired_r2) ++ wsX40)
def wsX4_late_r1 : List Cond := [Cond.fieldLink RX4 63 "GlassBoothsModel" "lateOf" "[I", Cond.methodLink RX4 119 yX4_isTongue, Cond.static yX4_isTongue, Cond.initialized RX4, Cond.code yX4_isTongue cX4_isTongue 1 (some .boolean), Cond.methodLink RX4 69 yX4_in, Cond.static yX4_in, Cond.code yX4_in cX4_in 3 (some .boolean), Cond.methodLink RX4 131 yX4_goTo, Cond.instanceMethod yX4_goTo, Cond.selects RX4 yX4_goTo yX4_goTo, Cond.code yX4_goTo cX4_goTo 6 none, Cond.fieldLink RX4 125 "GlassBoothsModel" "worn" "I", Cond.fieldLink RX4 54 "GlassBoothsModel" "tired" "[I", Cond.fieldLink RX4 66 "GlassBoothsModel" "people" "I", Cond.fieldLink RX4 57 "GlassBoothsModel" "on" "[I", Cond.fieldLink RX4 60 "GlassBoothsModel" "heard" "[I", Cond.fieldLink RX4 39 "GlassBoothsModel" "speed" "[I", Cond.fieldLink RX4 42 "GlassBoothsModel" "limit" "I", Cond.methodLink RX4 128 yX4_findOn, Cond.instanceMethod yX4_findOn, Cond.selects RX4 yX4_findOn yX4_findOn, Cond.code yX4_findOn cX4_findOn 5 none, Cond.fieldLink RX4 33 "GlassBoothsModel" "booth" "[I"]
def wsX4_late_r2 : List Cond := [Cond.fieldLink RX4 36 "GlassBoothsModel" "spoken" "[I", Cond.fieldLink RX4 7 "GlassBoothsModel" "knows" "[I", Cond.methodLink RX4 122 yX4_knowsIt, Cond.instanceMethod yX4_knowsIt, Cond.selects RX4 yX4_knowsIt yX4_knowsIt, Cond.code yX4_knowsIt cX4_knowsIt 3 (some .boolean), Cond.methodLink RX4 80 yX4_has, Cond.static yX4_has, Cond.code yX4_has cX4_has 2 (some .boolean)]
def wsX4_late : List Cond := .code yX4_late cX4_late 2 (some .int) :: ((wsX4_late_r1 ++ wsX4_late_r2) ++ wsX40)
def wsX4_worn_r1 : List Cond := [Cond.fieldLink RX4 125 "GlassBoothsModel" "worn" "I", Cond.methodLink RX4 131 yX4_goTo, Cond.instanceMethod yX4_goTo, Cond.selects RX4 yX4_goTo yX4_goTo, Cond.initialized RX4, Cond.code yX4_goTo cX4_goTo 6 none, Cond.fieldLink RX4 54 "GlassBoothsModel" "tired" "[I", Cond.fieldLink RX4 63 "GlassBoothsModel" "lateOf" "[I", Cond.fieldLink RX4 66 "GlassBoothsModel" "people" "I", Cond.fieldLink RX4 57 "GlassBoothsModel" "on" "[I", Cond.fieldLink RX4 60 "GlassBoothsModel" "heard" "[I", Cond.fieldLink RX4 39 "GlassBoothsModel" "speed" "[I", Cond.fieldLink RX4 42 "GlassBoothsModel" "limit" "I", Cond.methodLink RX4 128 yX4_findOn, Cond.instanceMethod yX4_findOn, Cond.selects RX4 yX4_findOn yX4_findOn, Cond.code yX4_findOn cX4_findOn 5 none, Cond.fieldLink RX4 33 "GlassBoothsModel" "booth" "[I", Cond.fieldLink RX4 36 "GlassBoothsModel" "spoken" "[I", Cond.fieldLink RX4 7 "GlassBoothsModel" "knows" "[I", Cond.methodLink RX4 122 yX4_knowsIt, Cond.instanceMethod yX4_knowsIt, Cond.selects RX4 yX4_knowsIt yX4_knowsIt, Cond.code yX4_knowsIt cX4_knowsIt 3 (some .boolean)]
def wsX4_worn_r2 : List Cond := [Cond.methodLink RX4 80 yX4_has, Cond.static yX4_has, Cond.code yX4_has cX4_has 2 (some .boolean)]
def wsX4_worn : List Cond := .code yX4_worn cX4_worn 1 (some .int) :: ((wsX4_worn_r1 ++ wsX4_worn_r2) ++ wsX40)
def wsX4_count : List Cond := .code yX4_count cX4_count 4 (some .int) :: ([.fieldLink RX4 66 "GlassBoothsModel" "people" "I", .fieldLink RX4 19 "GlassBoothsModel" "isIll" "[Z", .fieldLink RX4 36 "GlassBoothsModel" "spoken" "[I", .fieldLink RX4 29 "GlassBoothsModel" "seats" "I", .methodLink RX4 112 yX4_seated, .instanceMethod yX4_seated, .selects RX4 yX4_seated yX4_seated, .initialized RX4, .code yX4_seated cX4_seated 3 (some .int), .fieldLink RX4 33 "GlassBoothsModel" "booth" "[I"] ++ wsX40)
def wsJ9_max_7cf53 : List Cond := .code yJ9_max_7cf53 cJ9_max_7cf53 2 (some .int) :: ([])
def wsL_law_r1 : List Cond := [Cond.classLink RL 7 RX3, Cond.instantiable RX3 7, Cond.initialized RX3, Cond.classLink RL 10 RX4, Cond.instantiable RX4 25, Cond.initialized RX4, Cond.methodLink RL 9 yX3_init, Cond.instanceMethod yX3_init, Cond.code yX3_init cX3_init 1 none, Cond.methodLink RX3 1 objectInit, Cond.instanceMethod objectInit, Cond.code objectInit ⟨#[0xb1]⟩ 1 none, Cond.classLink RX3 7 RX1, Cond.instantiable RX1 6, Cond.initialized RX1, Cond.fieldLink RX3 10 "GlassBooths" "people" "LGlassBooths$People;", Cond.classLink RX3 16 RX2, Cond.instantiable RX2 14, Cond.initialized RX2, Cond.fieldLink RX3 21 "GlassBooths" "search" "LGlassBooths$Search;", Cond.classLink RX3 25 RX0, Cond.instantiable RX0 6, Cond.initialized RX0, Cond.fieldLink RX3 28 "GlassBooths" "day" "LGlassBooths$Day;"]
def wsL_law_r2 : List Cond := [Cond.arrayClass .int, Cond.fieldLink RX3 32 "GlassBooths" "floorsOf" "[I", Cond.fieldLink RX3 36 "GlassBooths" "wantedIn" "[I", Cond.fieldLink RX3 39 "GlassBooths" "seatsEach" "I", Cond.fieldLink RX3 43 "GlassBooths" "wornAbove" "I", Cond.instanceMethod yX1_init, Cond.code yX1_init cX1_init 1 none, Cond.methodLink RX1 3 objectInit, Cond.fieldLink RX1 9 "GlassBooths$People" "knownTongues" "[I", Cond.fieldLink RX1 15 "GlassBooths$People" "spokenTongues" "[I", Cond.fieldLink RX1 18 "GlassBooths$People" "pays" "[I", Cond.fieldLink RX1 21 "GlassBooths$People" "booths" "[I", Cond.methodLink RX3 18 yX2_init, Cond.instanceMethod yX2_init, Cond.code yX2_init cX2_init 2 none, Cond.methodLink RX2 3 objectInit, Cond.fieldLink RX2 9 "GlassBooths$Search" "trial" "[I", Cond.fieldLink RX2 15 "GlassBooths$Search" "freeSeats" "[I", Cond.fieldLink RX2 18 "GlassBooths$Search" "sharedKnown" "[I", Cond.fieldLink RX2 21 "GlassBooths$Search" "cheapestTeam" "[I", Cond.fieldLink RX2 24 "GlassBooths$Search" "nearestTeam" "[I", Cond.fieldLink RX2 27 "GlassBooths$Search" "people" "LGlassBooths$People;", Cond.methodLink RX2 31 yJ7_fill_53178, Cond.static yJ7_fill_53178]
def wsL_law_r3 : List Cond := [Cond.initialized RJ7, Cond.code yJ7_fill_53178 cJ7_fill_53178 4 none, Cond.methodLink RX3 27 yX0_init, Cond.instanceMethod yX0_init, Cond.code yX0_init cX0_init 2 none, Cond.methodLink RX0 3 objectInit, Cond.fieldLink RX0 9 "GlassBooths$Day" "spoken" "[I", Cond.fieldLink RX0 15 "GlassBooths$Day" "speeds" "[I", Cond.fieldLink RX0 18 "GlassBooths$Day" "tiredness" "[I", Cond.fieldLink RX0 21 "GlassBooths$Day" "onIn" "[I", Cond.fieldLink RX0 24 "GlassBooths$Day" "heardBy" "[I", Cond.fieldLink RX0 27 "GlassBooths$Day" "people" "LGlassBooths$People;", Cond.methodLink RX0 31 yJ7_fill_53178, Cond.methodLink RL 12 yX4_init, Cond.instanceMethod yX4_init, Cond.code yX4_init cX4_init 2 none, Cond.methodLink RX4 1 objectInit, Cond.fieldLink RX4 7 "GlassBoothsModel" "knows" "[I", Cond.fieldLink RX4 13 "GlassBoothsModel" "speaks" "[I", Cond.fieldLink RX4 16 "GlassBoothsModel" "pay" "[I", Cond.arrayClass .boolean, Cond.fieldLink RX4 19 "GlassBoothsModel" "isIll" "[Z", Cond.fieldLink RX4 23 "GlassBoothsModel" "floors" "[I", Cond.fieldLink RX4 26 "GlassBoothsModel" "wanted" "[I"]
def wsL_law_r4 : List Cond := [Cond.fieldLink RX4 29 "GlassBoothsModel" "seats" "I", Cond.fieldLink RX4 33 "GlassBoothsModel" "booth" "[I", Cond.fieldLink RX4 36 "GlassBoothsModel" "spoken" "[I", Cond.fieldLink RX4 39 "GlassBoothsModel" "speed" "[I", Cond.fieldLink RX4 42 "GlassBoothsModel" "limit" "I", Cond.fieldLink RX4 45 "GlassBoothsModel" "row" "[I", Cond.fieldLink RX4 48 "GlassBoothsModel" "cheap" "[I", Cond.fieldLink RX4 51 "GlassBoothsModel" "near" "[I", Cond.fieldLink RX4 54 "GlassBoothsModel" "tired" "[I", Cond.fieldLink RX4 57 "GlassBoothsModel" "on" "[I", Cond.fieldLink RX4 60 "GlassBoothsModel" "heard" "[I", Cond.fieldLink RX4 63 "GlassBoothsModel" "lateOf" "[I", Cond.methodLink RL 13 yX3_person, Cond.instanceMethod yX3_person, Cond.selects RX3 yX3_person yX3_person, Cond.code yX3_person cX3_person 4 (some .int), Cond.methodLink RX3 46 yX3_areTongues, Cond.static yX3_areTongues, Cond.code yX3_areTongues cX3_areTongues 1 (some .boolean), Cond.methodLink RX3 50 yX1_add, Cond.instanceMethod yX1_add, Cond.selects RX1 yX1_add yX1_add, Cond.code yX1_add cX1_add 4 (some .int), Cond.fieldLink RX1 24 "GlassBooths$People" "size" "I"]
def wsL_law_r5 : List Cond := [Cond.methodLink RL 17 yX4_person, Cond.instanceMethod yX4_person, Cond.selects RX4 yX4_person yX4_person, Cond.code yX4_person cX4_person 4 (some .int), Cond.fieldLink RX4 66 "GlassBoothsModel" "people" "I", Cond.methodLink RX4 69 yX4_in, Cond.static yX4_in, Cond.code yX4_in cX4_in 3 (some .boolean), Cond.methodLink RL 18 yX3_ill, Cond.instanceMethod yX3_ill, Cond.selects RX3 yX3_ill yX3_ill, Cond.code yX3_ill cX3_ill 4 (some .int), Cond.methodLink RX3 54 yX1_has, Cond.instanceMethod yX1_has, Cond.selects RX1 yX1_has yX1_has, Cond.code yX1_has cX1_has 2 (some .boolean), Cond.methodLink RX3 57 yX1_isIll, Cond.instanceMethod yX1_isIll, Cond.selects RX1 yX1_isIll yX1_isIll, Cond.code yX1_isIll cX1_isIll 2 (some .boolean), Cond.fieldLink RX1 28 "GlassBooths$People" "illBits" "I", Cond.static yX3_holds, Cond.code yX3_holds cX3_holds 2 (some .boolean), Cond.methodLink RX3 60 yX1_setIll]
def wsL_law_r6 : List Cond := [Cond.instanceMethod yX1_setIll, Cond.selects RX1 yX1_setIll yX1_setIll, Cond.code yX1_setIll cX1_setIll 4 none, Cond.methodLink RL 22 yX4_ill, Cond.instanceMethod yX4_ill, Cond.selects RX4 yX4_ill yX4_ill, Cond.code yX4_ill cX4_ill 4 (some .int), Cond.methodLink RX4 73 yX4_isPerson, Cond.instanceMethod yX4_isPerson, Cond.selects RX4 yX4_isPerson yX4_isPerson, Cond.code yX4_isPerson cX4_isPerson 2 (some .boolean), Cond.methodLink RL 23 yX3_session, Cond.instanceMethod yX3_session, Cond.selects RX3 yX3_session yX3_session, Cond.code yX3_session cX3_session 4 (some .int), Cond.methodLink RX3 64 yX3_isSession, Cond.static yX3_isSession, Cond.code yX3_isSession cX3_isSession 1 (some .boolean), Cond.methodLink RL 26 yX4_session, Cond.instanceMethod yX4_session, Cond.selects RX4 yX4_session yX4_session, Cond.code yX4_session cX4_session 4 (some .int), Cond.methodLink RX4 77 yX4_isSession, Cond.static yX4_isSession]
def wsL_law_r7 : List Cond := [Cond.code yX4_isSession cX4_isSession 1 (some .boolean), Cond.methodLink RL 27 yX3_seats, Cond.instanceMethod yX3_seats, Cond.selects RX3 yX3_seats yX3_seats, Cond.code yX3_seats cX3_seats 3 (some .int), Cond.methodLink RL 31 yX4_seats, Cond.instanceMethod yX4_seats, Cond.selects RX4 yX4_seats yX4_seats, Cond.code yX4_seats cX4_seats 3 (some .int), Cond.methodLink RL 32 yX3_whole, Cond.instanceMethod yX3_whole, Cond.selects RX3 yX3_whole yX3_whole, Cond.code yX3_whole cX3_whole 2 (some .int), Cond.methodLink RX3 67 yX3_searchTeams, Cond.instanceMethod yX3_searchTeams, Cond.selects RX3 yX3_searchTeams yX3_searchTeams, Cond.code yX3_searchTeams cX3_searchTeams 2 none, Cond.methodLink RX3 162 yX2_prepare, Cond.instanceMethod yX2_prepare, Cond.selects RX2 yX2_prepare yX2_prepare, Cond.code yX2_prepare cX2_prepare 5 none, Cond.fieldLink RX2 37 "GlassBooths$Search" "floors" "I", Cond.fieldLink RX2 41 "GlassBooths$Search" "wanted" "I", Cond.fieldLink RX2 44 "GlassBooths$Search" "found" "I"]
def wsL_law_r8 : List Cond := [Cond.fieldLink RX2 47 "GlassBooths$Search" "sparedBits" "I", Cond.fieldLink RX2 50 "GlassBooths$Search" "leastPay" "I", Cond.fieldLink RX2 53 "GlassBooths$Search" "fewestMoved" "I", Cond.fieldLink RX2 56 "GlassBooths$Search" "payOfNearest" "I", Cond.fieldLink RX2 59 "GlassBooths$Search" "openSeats" "I", Cond.instanceMethod yX2_placeFrom, Cond.selects RX2 yX2_placeFrom yX2_placeFrom, Cond.code yX2_placeFrom cX2_placeFrom 3 none, Cond.methodLink RX2 71 yX1_has, Cond.methodLink RX2 75 yX2_weighIfWhole, Cond.instanceMethod yX2_weighIfWhole, Cond.selects RX2 yX2_weighIfWhole yX2_weighIfWhole, Cond.code yX2_weighIfWhole cX2_weighIfWhole 2 none, Cond.methodLink RX2 89 yX2_shareKnown, Cond.instanceMethod yX2_shareKnown, Cond.selects RX2 yX2_shareKnown yX2_shareKnown, Cond.code yX2_shareKnown cX2_shareKnown 3 none, Cond.static yX3_isTongue, Cond.code yX3_isTongue cX3_isTongue 1 (some .boolean), Cond.methodLink RX2 101 yX1_knownBy, Cond.instanceMethod yX1_knownBy, Cond.selects RX1 yX1_knownBy yX1_knownBy, Cond.code yX1_knownBy cX1_knownBy 2 (some .int), Cond.methodLink RX1 35 yX1_has]
def wsL_law_r9 : List Cond := [Cond.methodLink RX2 92 yX2_reachesFloors, Cond.instanceMethod yX2_reachesFloors, Cond.selects RX2 yX2_reachesFloors yX2_reachesFloors, Cond.code yX2_reachesFloors cX2_reachesFloors 4 (some .boolean), Cond.methodLink RX2 95 yX2_weigh, Cond.instanceMethod yX2_weigh, Cond.selects RX2 yX2_weigh yX2_weigh, Cond.code yX2_weigh cX2_weigh 4 none, Cond.methodLink RX2 105 yX1_payOf, Cond.instanceMethod yX1_payOf, Cond.selects RX1 yX1_payOf yX1_payOf, Cond.code yX1_payOf cX1_payOf 2 (some .int), Cond.methodLink RX2 108 yX1_boothOf, Cond.instanceMethod yX1_boothOf, Cond.selects RX1 yX1_boothOf yX1_boothOf, Cond.code yX1_boothOf cX1_boothOf 2 (some .int), Cond.methodLink RX2 111 yX2_keepIfCheaper, Cond.instanceMethod yX2_keepIfCheaper, Cond.selects RX2 yX2_keepIfCheaper yX2_keepIfCheaper, Cond.code yX2_keepIfCheaper cX2_keepIfCheaper 2 none, Cond.methodLink RX2 117 arraycopyName, Cond.native arraycopyName, Cond.static arraycopyName, Cond.initialized "java/lang/System"]
def wsL_law_r10 : List Cond := [Cond.methodLink RX2 114 yX2_keepIfNearer, Cond.instanceMethod yX2_keepIfNearer, Cond.selects RX2 yX2_keepIfNearer yX2_keepIfNearer, Cond.code yX2_keepIfNearer cX2_keepIfNearer 3 none, Cond.methodLink RX2 78 yX2_placeIn, Cond.instanceMethod yX2_placeIn, Cond.selects RX2 yX2_placeIn yX2_placeIn, Cond.methodLink RX2 82 yX2_placeFrom, Cond.code yX2_placeIn cX2_placeIn 3 none, Cond.methodLink RX2 86 yX1_canTurnInto, Cond.instanceMethod yX1_canTurnInto, Cond.selects RX1 yX1_canTurnInto yX1_canTurnInto, Cond.code yX1_canTurnInto cX1_canTurnInto 3 (some .boolean), Cond.methodLink RX1 39 yX1_isIll, Cond.methodLink RL 35 yX4_whole, Cond.instanceMethod yX4_whole, Cond.selects RX4 yX4_whole yX4_whole, Cond.code yX4_whole cX4_whole 2 (some .int), Cond.fieldLink RX4 87 "GlassBoothsModel" "wholeMany" "I", Cond.methodLink RX4 108 yX4_findTeams, Cond.instanceMethod yX4_findTeams, Cond.selects RX4 yX4_findTeams yX4_findTeams, Cond.code yX4_findTeams cX4_findTeams 10 none, Cond.fieldLink RX4 90 "GlassBoothsModel" "cheapest" "I"]
def wsL_law_r11 : List Cond := [Cond.fieldLink RX4 93 "GlassBoothsModel" "nearest" "I", Cond.fieldLink RX4 96 "GlassBoothsModel" "always" "I", Cond.fieldLink RX4 105 "GlassBoothsModel" "nearPay" "I", Cond.methodLink RX4 99 yX4_isTeam, Cond.instanceMethod yX4_isTeam, Cond.selects RX4 yX4_isTeam yX4_isTeam, Cond.code yX4_isTeam cX4_isTeam 6 (some .boolean), Cond.methodLink RX4 80 yX4_has, Cond.static yX4_has, Cond.code yX4_has cX4_has 2 (some .boolean), Cond.methodLink RX4 102 yX4_isWhole, Cond.instanceMethod yX4_isWhole, Cond.selects RX4 yX4_isWhole yX4_isWhole, Cond.code yX4_isWhole cX4_isWhole 7 (some .boolean), Cond.methodLink RX4 84 yX4_allKnow, Cond.instanceMethod yX4_allKnow, Cond.selects RX4 yX4_allKnow yX4_allKnow, Cond.code yX4_allKnow cX4_allKnow 5 (some .boolean), Cond.methodLink RL 36 yX3_cheapest, Cond.instanceMethod yX3_cheapest, Cond.selects RX3 yX3_cheapest yX3_cheapest, Cond.code yX3_cheapest cX3_cheapest 2 (some .int), Cond.methodLink RL 39 yX4_cheapest, Cond.instanceMethod yX4_cheapest]
def wsL_law_r12 : List Cond := [Cond.selects RX4 yX4_cheapest yX4_cheapest, Cond.code yX4_cheapest cX4_cheapest 2 (some .int), Cond.methodLink RL 40 yX3_nearest, Cond.instanceMethod yX3_nearest, Cond.selects RX3 yX3_nearest yX3_nearest, Cond.code yX3_nearest cX3_nearest 2 (some .int), Cond.methodLink RL 43 yX4_nearest, Cond.instanceMethod yX4_nearest, Cond.selects RX4 yX4_nearest yX4_nearest, Cond.code yX4_nearest cX4_nearest 2 (some .int), Cond.methodLink RL 44 yX3_take, Cond.instanceMethod yX3_take, Cond.selects RX3 yX3_take yX3_take, Cond.code yX3_take cX3_take 3 (some .int), Cond.methodLink RX3 83 yX1_seatAs, Cond.instanceMethod yX1_seatAs, Cond.selects RX1 yX1_seatAs yX1_seatAs, Cond.code yX1_seatAs cX1_seatAs 2 none, Cond.methodLink RX1 55 arraycopyName, Cond.methodLink RL 48 yX4_take, Cond.instanceMethod yX4_take, Cond.selects RX4 yX4_take yX4_take, Cond.code yX4_take cX4_take 4 (some .int), Cond.methodLink RL 49 yX3_leave]
def wsL_law_r13 : List Cond := [Cond.instanceMethod yX3_leave, Cond.selects RX3 yX3_leave yX3_leave, Cond.code yX3_leave cX3_leave 2 (some .int), Cond.methodLink RX3 93 yX1_seated, Cond.instanceMethod yX1_seated, Cond.selects RX1 yX1_seated yX1_seated, Cond.code yX1_seated cX1_seated 3 (some .int), Cond.methodLink RX1 45 yX1_boothOf, Cond.methodLink RX3 97 yX1_unseatAll, Cond.instanceMethod yX1_unseatAll, Cond.selects RX1 yX1_unseatAll yX1_unseatAll, Cond.code yX1_unseatAll cX1_unseatAll 1 none, Cond.methodLink RX1 49 yJ7_fill_53178, Cond.methodLink RL 53 yX4_leave, Cond.instanceMethod yX4_leave, Cond.selects RX4 yX4_leave yX4_leave, Cond.code yX4_leave cX4_leave 3 (some .int), Cond.methodLink RX4 112 yX4_seated, Cond.instanceMethod yX4_seated, Cond.selects RX4 yX4_seated yX4_seated, Cond.code yX4_seated cX4_seated 3 (some .int), Cond.methodLink RL 54 yX3_booth, Cond.instanceMethod yX3_booth, Cond.selects RX3 yX3_booth yX3_booth]
def wsL_law_r14 : List Cond := [Cond.code yX3_booth cX3_booth 2 (some .int), Cond.methodLink RX3 100 yX1_boothOf, Cond.methodLink RL 57 yX4_booth, Cond.instanceMethod yX4_booth, Cond.selects RX4 yX4_booth yX4_booth, Cond.code yX4_booth cX4_booth 2 (some .int), Cond.methodLink RL 58 yX3_lacking, Cond.instanceMethod yX3_lacking, Cond.selects RX3 yX3_lacking yX3_lacking, Cond.code yX3_lacking cX3_lacking 4 (some .int), Cond.methodLink RX3 104 yX3_holds, Cond.methodLink RX3 108 yX1_ableToTurnInto, Cond.instanceMethod yX1_ableToTurnInto, Cond.selects RX1 yX1_ableToTurnInto yX1_ableToTurnInto, Cond.code yX1_ableToTurnInto cX1_ableToTurnInto 4 (some .int), Cond.methodLink RX1 42 yX1_canTurnInto, Cond.methodLink RL 61 yX4_lacking, Cond.instanceMethod yX4_lacking, Cond.selects RX4 yX4_lacking yX4_lacking, Cond.code yX4_lacking cX4_lacking 6 (some .int), Cond.methodLink RL 62 yX3_needed, Cond.instanceMethod yX3_needed, Cond.selects RX3 yX3_needed yX3_needed, Cond.code yX3_needed cX3_needed 3 (some .int)]
def wsL_law_r15 : List Cond := [Cond.methodLink RL 65 yX4_needed, Cond.instanceMethod yX4_needed, Cond.selects RX4 yX4_needed yX4_needed, Cond.code yX4_needed cX4_needed 3 (some .int), Cond.methodLink RL 66 yX3_speak, Cond.instanceMethod yX3_speak, Cond.selects RX3 yX3_speak yX3_speak, Cond.code yX3_speak cX3_speak 4 (some .int), Cond.methodLink RX3 114 yX3_isHalf, Cond.static yX3_isHalf, Cond.code yX3_isHalf cX3_isHalf 1 (some .boolean), Cond.methodLink RX3 117 yX3_isTongue, Cond.methodLink RX3 120 yX0_setSpoken, Cond.instanceMethod yX0_setSpoken, Cond.selects RX0 yX0_setSpoken yX0_setSpoken, Cond.code yX0_setSpoken cX0_setSpoken 4 none, Cond.methodLink RL 69 yX4_speak, Cond.instanceMethod yX4_speak, Cond.selects RX4 yX4_speak yX4_speak, Cond.code yX4_speak cX4_speak 4 (some .int), Cond.methodLink RX4 116 yX4_isHalf, Cond.static yX4_isHalf, Cond.code yX4_isHalf cX4_isHalf 1 (some .boolean), Cond.methodLink RX4 119 yX4_isTongue]
def wsL_law_r16 : List Cond := [Cond.static yX4_isTongue, Cond.code yX4_isTongue cX4_isTongue 1 (some .boolean), Cond.methodLink RL 70 yX3_silence, Cond.instanceMethod yX3_silence, Cond.selects RX3 yX3_silence yX3_silence, Cond.code yX3_silence cX3_silence 3 (some .int), Cond.methodLink RX3 124 yX0_isSilent, Cond.instanceMethod yX0_isSilent, Cond.selects RX0 yX0_isSilent yX0_isSilent, Cond.code yX0_isSilent cX0_isSilent 2 (some .boolean), Cond.methodLink RX3 127 yX0_setSilent, Cond.instanceMethod yX0_setSilent, Cond.selects RX0 yX0_setSilent yX0_setSilent, Cond.code yX0_setSilent cX0_setSilent 2 none, Cond.methodLink RX0 41 yX0_setSpoken, Cond.methodLink RL 73 yX4_silence, Cond.instanceMethod yX4_silence, Cond.selects RX4 yX4_silence yX4_silence, Cond.code yX4_silence cX4_silence 3 (some .int), Cond.methodLink RL 74 yX3_limit, Cond.instanceMethod yX3_limit, Cond.selects RX3 yX3_limit yX3_limit, Cond.code yX3_limit cX3_limit 3 (some .int), Cond.methodLink RL 77 yX4_limit]
def wsL_law_r17 : List Cond := [Cond.instanceMethod yX4_limit, Cond.selects RX4 yX4_limit yX4_limit, Cond.code yX4_limit cX4_limit 3 (some .int), Cond.methodLink RL 78 yX3_on, Cond.instanceMethod yX3_on, Cond.selects RX3 yX3_on yX3_on, Cond.code yX3_on cX3_on 3 (some .int), Cond.methodLink RX3 130 yX0_playThrough, Cond.instanceMethod yX0_playThrough, Cond.selects RX0 yX0_playThrough yX0_playThrough, Cond.code yX0_playThrough cX0_playThrough 3 none, Cond.methodLink RX0 48 yX0_playHalf, Cond.instanceMethod yX0_playHalf, Cond.selects RX0 yX0_playHalf yX0_playHalf, Cond.code yX0_playHalf cX0_playHalf 3 none, Cond.methodLink RX0 60 yX0_chooseOn, Cond.instanceMethod yX0_chooseOn, Cond.selects RX0 yX0_chooseOn yX0_chooseOn, Cond.code yX0_chooseOn cX0_chooseOn 3 none, Cond.methodLink RX0 75 yX1_boothOf, Cond.methodLink RX0 81 yX0_isFresher, Cond.instanceMethod yX0_isFresher, Cond.selects RX0 yX0_isFresher yX0_isFresher, Cond.code yX0_isFresher cX0_isFresher 3 (some .boolean)]
def wsL_law_r18 : List Cond := [Cond.methodLink RX0 85 yX1_has, Cond.methodLink RX0 63 yX0_wayFrom, Cond.instanceMethod yX0_wayFrom, Cond.selects RX0 yX0_wayFrom yX0_wayFrom, Cond.code yX0_wayFrom cX0_wayFrom 5 (some .int), Cond.methodLink RX0 88 yX1_knownBy, Cond.methodLink RX0 66 yX0_tire, Cond.instanceMethod yX0_tire, Cond.selects RX0 yX0_tire yX0_tire, Cond.code yX0_tire cX0_tire 3 none, Cond.methodLink RX0 97 Lib.Math.max.name, Cond.static Lib.Math.max.name, Cond.initialized "java/lang/Math", Cond.code Lib.Math.max.name Lib.Math.max.code 2 (some .int), Cond.methodLink RX0 94 yX0_isTurning, Cond.instanceMethod yX0_isTurning, Cond.selects RX0 yX0_isTurning yX0_isTurning, Cond.code yX0_isTurning cX0_isTurning 3 (some .boolean), Cond.methodLink RL 81 yX4_on, Cond.instanceMethod yX4_on, Cond.selects RX4 yX4_on yX4_on, Cond.code yX4_on cX4_on 3 (some .int), Cond.methodLink RX4 131 yX4_goTo, Cond.instanceMethod yX4_goTo]
def wsL_law_r19 : List Cond := [Cond.selects RX4 yX4_goTo yX4_goTo, Cond.code yX4_goTo cX4_goTo 6 none, Cond.fieldLink RX4 125 "GlassBoothsModel" "worn" "I", Cond.methodLink RX4 128 yX4_findOn, Cond.instanceMethod yX4_findOn, Cond.selects RX4 yX4_findOn yX4_findOn, Cond.code yX4_findOn cX4_findOn 5 none, Cond.methodLink RX4 122 yX4_knowsIt, Cond.instanceMethod yX4_knowsIt, Cond.selects RX4 yX4_knowsIt yX4_knowsIt, Cond.code yX4_knowsIt cX4_knowsIt 3 (some .boolean), Cond.methodLink RL 82 yX3_heard, Cond.instanceMethod yX3_heard, Cond.selects RX3 yX3_heard yX3_heard, Cond.code yX3_heard cX3_heard 3 (some .int), Cond.methodLink RL 85 yX4_heard, Cond.instanceMethod yX4_heard, Cond.selects RX4 yX4_heard yX4_heard, Cond.code yX4_heard cX4_heard 3 (some .int), Cond.methodLink RL 86 yX3_tired, Cond.instanceMethod yX3_tired, Cond.selects RX3 yX3_tired yX3_tired, Cond.code yX3_tired cX3_tired 3 (some .int), Cond.methodLink RL 89 yX4_tired]
def wsL_law_r20 : List Cond := [Cond.instanceMethod yX4_tired, Cond.selects RX4 yX4_tired yX4_tired, Cond.code yX4_tired cX4_tired 3 (some .int), Cond.methodLink RL 90 yX3_late, Cond.instanceMethod yX3_late, Cond.selects RX3 yX3_late yX3_late, Cond.code yX3_late cX3_late 2 (some .int), Cond.methodLink RX3 142 yX0_lateOverall, Cond.instanceMethod yX0_lateOverall, Cond.selects RX0 yX0_lateOverall yX0_lateOverall, Cond.code yX0_lateOverall cX0_lateOverall 4 (some .int), Cond.methodLink RX0 52 yX0_lateIn, Cond.instanceMethod yX0_lateIn, Cond.selects RX0 yX0_lateIn yX0_lateIn, Cond.code yX0_lateIn cX0_lateIn 4 (some .int), Cond.methodLink RL 93 yX4_late, Cond.instanceMethod yX4_late, Cond.selects RX4 yX4_late yX4_late, Cond.code yX4_late cX4_late 2 (some .int), Cond.methodLink RL 94 yX3_worn, Cond.instanceMethod yX3_worn, Cond.selects RX3 yX3_worn yX3_worn, Cond.code yX3_worn cX3_worn 1 (some .int), Cond.methodLink RX3 145 yX0_wornBits]
def wsL_law_r21 : List Cond := [Cond.instanceMethod yX0_wornBits, Cond.selects RX0 yX0_wornBits yX0_wornBits, Cond.code yX0_wornBits cX0_wornBits 4 (some .int), Cond.methodLink RX0 56 yX0_tiredAbove, Cond.instanceMethod yX0_tiredAbove, Cond.selects RX0 yX0_tiredAbove yX0_tiredAbove, Cond.code yX0_tiredAbove cX0_tiredAbove 4 (some .int), Cond.methodLink RL 97 yX4_worn, Cond.instanceMethod yX4_worn, Cond.selects RX4 yX4_worn yX4_worn, Cond.code yX4_worn cX4_worn 1 (some .int), Cond.methodLink RL 98 yX3_count, Cond.instanceMethod yX3_count, Cond.selects RX3 yX3_count yX3_count, Cond.code yX3_count cX3_count 2 (some .int), Cond.methodLink RX3 154 yJ6_bitCount_0f7a4, Cond.static yJ6_bitCount_0f7a4, Cond.initialized RJ6, Cond.code yJ6_bitCount_0f7a4 cJ6_bitCount_0f7a4 1 (some .int), Cond.constant RJ6 265 (1431655765), Cond.constant RJ6 266 (858993459), Cond.constant RJ6 267 (252645135), Cond.methodLink RX3 159 yX0_spokenHalves, Cond.instanceMethod yX0_spokenHalves]
def wsL_law_r22 : List Cond := [Cond.selects RX0 yX0_spokenHalves yX0_spokenHalves, Cond.code yX0_spokenHalves cX0_spokenHalves 3 (some .int), Cond.methodLink RX0 45 yX0_isSilent, Cond.methodLink RL 101 yX4_count, Cond.instanceMethod yX4_count, Cond.selects RX4 yX4_count yX4_count, Cond.code yX4_count cX4_count 4 (some .int)]
def wsL_law : List Cond := (wsL_law_r1 ++ (wsL_law_r2 ++ (wsL_law_r3 ++ (wsL_law_r4 ++ (wsL_law_r5 ++ (wsL_law_r6 ++ (wsL_law_r7 ++ (wsL_law_r8 ++ (wsL_law_r9 ++ (wsL_law_r10 ++ (wsL_law_r11 ++ (wsL_law_r12 ++ (wsL_law_r13 ++ (wsL_law_r14 ++ (wsL_law_r15 ++ (wsL_law_r16 ++ (wsL_law_r17 ++ (wsL_law_r18 ++ (wsL_law_r19 ++ (wsL_law_r20 ++ (wsL_law_r21 ++ wsL_law_r22))))))))))))))))))))) ++ wsX30 ++ wsX40 ++ wsX10 ++ wsX20 ++ wsX00 ++ ([] : List Cond)
abbrev vwCl : List vw_C := [(RX0, TX0, 6), (RX1, TX1, 6), (RX2, TX2, 14), (RX3, TX3, 7), (RX4, TX4, 25)]
end
section
set_option maxRecDepth 20000 in
theorem ggX0_init_J7_fill_53178 : GoodIn wsX0_init wsJ7_fill_53178 := goodIn_r _ [14] (by decide +kernel) (by decide +kernel)
set_option maxRecDepth 20000 in
theorem gX0_init_J7_fill_53178 : GoodIn wsX0_init (va_wsS RX0 31 yJ7_fill_53178 wsJ7_fill_53178) := goodIn_app (goodIn_of _ (by decide +kernel)) ggX0_init_J7_fill_53178
set_option maxRecDepth 20000 in
theorem ggX0_setSpoken_X3_isHalf : GoodIn wsX0_setSpoken wsX3_isHalf := goodIn_r _ [5] (by decide +kernel) (by decide +kernel)
set_option maxRecDepth 20000 in
theorem gX0_setSpoken_X3_isHalf_n37 : GoodIn wsX0_setSpoken (wsX3_isHalf) := ggX0_setSpoken_X3_isHalf
set_option maxRecDepth 20000 in
theorem ggX0_setSilent_X0_setSpoken : GoodIn wsX0_setSilent wsX0_setSpoken := goodIn_r _ [5, 6, 7, 8, 9, 10, 11, 12, 13, 14, 15, 16] (by decide +kernel) (by decide +kernel)
set_option maxRecDepth 20000 in
theorem gX0_setSilent_X0_setSpoken : GoodIn wsX0_setSilent (wsV RX0 41 RX0 yX0_setSpoken wsX0_setSpoken) := goodIn_app (goodIn_of _ (by decide +kernel)) ggX0_setSilent_X0_setSpoken
set_option maxRecDepth 20000 in
theorem ggX0_isSilent_X3_isHalf : GoodIn wsX0_isSilent wsX3_isHalf := goodIn_r _ [4] (by decide +kernel) (by decide +kernel)
set_option maxRecDepth 20000 in
theorem gX0_isSilent_X3_isHalf_n37 : GoodIn wsX0_isSilent (wsX3_isHalf) := ggX0_isSilent_X3_isHalf
set_option maxRecDepth 20000 in
theorem ggX0_spokenHalves_X0_isSilent : GoodIn wsX0_spokenHalves wsX0_isSilent := goodIn_r _ [5, 6, 7, 8, 9, 10, 11, 12, 13, 14, 15] (by decide +kernel) (by decide +kernel)
set_option maxRecDepth 20000 in
theorem gX0_spokenHalves_X0_isSilent : GoodIn wsX0_spokenHalves (wsV RX0 45 RX0 yX0_isSilent wsX0_isSilent) := goodIn_app (goodIn_of _ (by decide +kernel)) ggX0_spokenHalves_X0_isSilent
set_option maxRecDepth 20000 in
theorem ggX0_playThrough_J7_fill_53178 : GoodIn wsX0_playThrough wsJ7_fill_53178 := goodIn_r _ [5] (by decide +kernel) (by decide +kernel)
set_option maxRecDepth 20000 in
theorem gX0_playThrough_J7_fill_53178 : GoodIn wsX0_playThrough (va_wsS RX0 31 yJ7_fill_53178 wsJ7_fill_53178) := goodIn_app (goodIn_of _ (by decide +kernel)) ggX0_playThrough_J7_fill_53178
set_option maxRecDepth 20000 in
theorem ggX0_playThrough_X0_playHalf : GoodIn wsX0_playThrough wsX0_playHalf := goodIn_r _ [10, 11, 12, 13, 14, 15, 16, 17, 18, 19, 9, 20, 21, 22, 2, 3, 4, 5, 23, 24, 25, 26, 27, 28, 29, 30, 31, 32, 33, 34, 35, 36, 37, 38, 39, 1, 40, 41, 42, 43, 44, 45, 46, 47, 48, 49, 50, 51, 52, 53, 54, 55, 56, 57, 58, 59, 60, 61, 62, 63, 64, 65, 66, 67, 68, 69, 70, 71, 72, 73, 74, 75] (by decide +kernel) (by decide +kernel)
set_option maxRecDepth 20000 in
theorem gX0_playThrough_X0_playHalf : GoodIn wsX0_playThrough (wsV RX0 48 RX0 yX0_playHalf wsX0_playHalf) := goodIn_app (goodIn_of _ (by decide +kernel)) ggX0_playThrough_X0_playHalf
set_option maxRecDepth 20000 in
theorem ggX0_lateOverall_J7_fill_53178 : GoodIn wsX0_lateOverall wsJ7_fill_53178 := goodIn_r _ [5] (by decide +kernel) (by decide +kernel)
set_option maxRecDepth 20000 in
theorem gX0_lateOverall_J7_fill_53178 : GoodIn wsX0_lateOverall (va_wsS RX0 31 yJ7_fill_53178 wsJ7_fill_53178) := goodIn_app (goodIn_of _ (by decide +kernel)) ggX0_lateOverall_J7_fill_53178
set_option maxRecDepth 20000 in
theorem ggX0_lateOverall_X0_playHalf : GoodIn wsX0_lateOverall wsX0_playHalf := goodIn_r _ [10, 11, 12, 13, 14, 15, 16, 17, 18, 19, 9, 20, 21, 22, 2, 3, 4, 5, 23, 24, 25, 26, 27, 28, 29, 30, 31, 32, 33, 34, 35, 36, 37, 38, 39, 1, 40, 41, 42, 43, 44, 45, 46, 47, 48, 49, 50, 51, 52, 53, 54, 55, 56, 57, 58, 59, 60, 61, 62, 63, 68, 69, 70, 71, 72, 73, 74, 75, 76, 77, 78, 79] (by decide +kernel) (by decide +kernel)
set_option maxRecDepth 20000 in
theorem gX0_lateOverall_X0_playHalf : GoodIn wsX0_lateOverall (wsV RX0 48 RX0 yX0_playHalf wsX0_playHalf) := goodIn_app (goodIn_of _ (by decide +kernel)) ggX0_lateOverall_X0_playHalf
set_option maxRecDepth 20000 in
theorem ggX0_lateOverall_X0_lateIn : GoodIn wsX0_lateOverall wsX0_lateIn := goodIn_r _ [67, 11, 13, 14, 15, 16, 34, 35, 68, 69, 70, 71, 72, 73] (by decide +kernel) (by decide +kernel)
set_option maxRecDepth 20000 in
theorem gX0_lateOverall_X0_lateIn : GoodIn wsX0_lateOverall (wsV RX0 52 RX0 yX0_lateIn wsX0_lateIn) := goodIn_app (goodIn_of _ (by decide +kernel)) ggX0_lateOverall_X0_lateIn
set_option maxRecDepth 20000 in
theorem ggX0_wornBits_J7_fill_53178 : GoodIn wsX0_wornBits wsJ7_fill_53178 := goodIn_r _ [5] (by decide +kernel) (by decide +kernel)
set_option maxRecDepth 20000 in
theorem gX0_wornBits_J7_fill_53178 : GoodIn wsX0_wornBits (va_wsS RX0 31 yJ7_fill_53178 wsJ7_fill_53178) := goodIn_app (goodIn_of _ (by decide +kernel)) ggX0_wornBits_J7_fill_53178
set_option maxRecDepth 20000 in
theorem ggX0_wornBits_X0_playHalf : GoodIn wsX0_wornBits wsX0_playHalf := goodIn_r _ [10, 11, 12, 13, 14, 15, 16, 17, 18, 19, 9, 20, 21, 22, 2, 3, 4, 5, 23, 24, 25, 26, 27, 28, 29, 30, 31, 32, 33, 34, 35, 36, 37, 38, 39, 1, 40, 41, 42, 43, 44, 45, 46, 47, 48, 49, 50, 51, 52, 53, 54, 55, 56, 57, 58, 59, 60, 61, 62, 63, 68, 69, 70, 71, 72, 73, 74, 75, 76, 77, 78, 79] (by decide +kernel) (by decide +kernel)
set_option maxRecDepth 20000 in
theorem gX0_wornBits_X0_playHalf : GoodIn wsX0_wornBits (wsV RX0 48 RX0 yX0_playHalf wsX0_playHalf) := goodIn_app (goodIn_of _ (by decide +kernel)) ggX0_wornBits_X0_playHalf
set_option maxRecDepth 20000 in
theorem ggX0_wornBits_X0_tiredAbove : GoodIn wsX0_wornBits wsX0_tiredAbove := goodIn_r _ [67, 22, 1, 68, 69, 70, 71, 72, 73, 74, 75, 76, 77, 78, 79] (by decide +kernel) (by decide +kernel)
set_option maxRecDepth 20000 in
theorem gX0_wornBits_X0_tiredAbove : GoodIn wsX0_wornBits (wsV RX0 56 RX0 yX0_tiredAbove wsX0_tiredAbove) := goodIn_app (goodIn_of _ (by decide +kernel)) ggX0_wornBits_X0_tiredAbove
set_option maxRecDepth 20000 in
theorem ggX0_playHalf_X3_isHalf : GoodIn wsX0_playHalf wsX3_isHalf := goodIn_r _ [6] (by decide +kernel) (by decide +kernel)
set_option maxRecDepth 20000 in
theorem gX0_playHalf_X3_isHalf_n37 : GoodIn wsX0_playHalf (wsX3_isHalf) := ggX0_playHalf_X3_isHalf
set_option maxRecDepth 20000 in
theorem ggX0_playHalf_X0_chooseOn : GoodIn wsX0_playHalf wsX0_chooseOn := goodIn_r _ [11, 12, 13, 14, 15, 16, 17, 18, 19, 20, 21, 22, 23, 24, 25, 26, 27, 28, 29, 5, 30, 31, 32, 33, 10, 34, 35, 36, 60, 61, 62, 63, 64, 65, 66, 67, 68, 69, 70, 71] (by decide +kernel) (by decide +kernel)
set_option maxRecDepth 20000 in
theorem gX0_playHalf_X0_chooseOn : GoodIn wsX0_playHalf (wsV RX0 60 RX0 yX0_chooseOn wsX0_chooseOn) := goodIn_app (goodIn_of _ (by decide +kernel)) ggX0_playHalf_X0_chooseOn
set_option maxRecDepth 20000 in
theorem ggX0_playHalf_X0_wayFrom : GoodIn wsX0_playHalf wsX0_wayFrom := goodIn_r _ [40, 12, 13, 41, 42, 43, 21, 44, 45, 24, 25, 26, 27, 28, 46, 5, 47, 60, 61, 62, 63, 64, 65, 66, 67, 68, 69, 70, 71] (by decide +kernel) (by decide +kernel)
set_option maxRecDepth 20000 in
theorem gX0_playHalf_X0_wayFrom : GoodIn wsX0_playHalf (wsV RX0 63 RX0 yX0_wayFrom wsX0_wayFrom) := goodIn_app (goodIn_of _ (by decide +kernel)) ggX0_playHalf_X0_wayFrom
set_option maxRecDepth 20000 in
theorem ggX0_playHalf_X0_tire : GoodIn wsX0_playHalf wsX0_tire := goodIn_r _ [51, 13, 35, 52, 53, 54, 55, 56, 57, 58, 10, 59, 12, 1, 18, 19, 20, 21, 22, 23, 24, 25, 26, 27, 28, 29, 5, 30, 60, 61, 62, 63, 64, 65, 66, 67, 68, 69, 70, 71] (by decide +kernel) (by decide +kernel)
set_option maxRecDepth 20000 in
theorem gX0_playHalf_X0_tire : GoodIn wsX0_playHalf (wsV RX0 66 RX0 yX0_tire wsX0_tire) := goodIn_app (goodIn_of _ (by decide +kernel)) ggX0_playHalf_X0_tire
set_option maxRecDepth 20000 in
theorem ggX0_chooseOn_J7_fill_53178 : GoodIn wsX0_chooseOn wsJ7_fill_53178 := goodIn_r _ [6] (by decide +kernel) (by decide +kernel)
set_option maxRecDepth 20000 in
theorem gX0_chooseOn_J7_fill_53178 : GoodIn wsX0_chooseOn (va_wsS RX0 31 yJ7_fill_53178 wsJ7_fill_53178) := goodIn_app (goodIn_of _ (by decide +kernel)) ggX0_chooseOn_J7_fill_53178
set_option maxRecDepth 20000 in
theorem ggX0_chooseOn_X1_boothOf : GoodIn wsX0_chooseOn wsX1_boothOf := goodIn_r _ [11, 12, 13, 14, 15, 10, 16, 17, 34, 35, 36, 37, 38, 39] (by decide +kernel) (by decide +kernel)
set_option maxRecDepth 20000 in
theorem gX0_chooseOn_X1_boothOf : GoodIn wsX0_chooseOn (wsV RX0 75 RX1 yX1_boothOf wsX1_boothOf) := goodIn_app (goodIn_of _ (by decide +kernel)) ggX0_chooseOn_X1_boothOf
set_option maxRecDepth 20000 in
theorem ggX0_chooseOn_X3_isTongue : GoodIn wsX0_chooseOn wsX3_isTongue := goodIn_r _ [20] (by decide +kernel) (by decide +kernel)
set_option maxRecDepth 20000 in
theorem gX0_chooseOn_X3_isTongue_n78 : GoodIn wsX0_chooseOn (wsX3_isTongue) := ggX0_chooseOn_X3_isTongue
set_option maxRecDepth 20000 in
theorem ggX0_chooseOn_X0_isFresher : GoodIn wsX0_chooseOn wsX0_isFresher := goodIn_r _ [25, 2, 26, 27, 14, 15, 10, 16, 17, 28, 29, 30, 31, 32, 33, 34, 35, 36, 37, 38, 39] (by decide +kernel) (by decide +kernel)
set_option maxRecDepth 20000 in
theorem gX0_chooseOn_X0_isFresher : GoodIn wsX0_chooseOn (wsV RX0 81 RX0 yX0_isFresher wsX0_isFresher) := goodIn_app (goodIn_of _ (by decide +kernel)) ggX0_chooseOn_X0_isFresher
end
section
set_option maxRecDepth 20000 in
theorem ggX0_isFresher_X1_has : GoodIn wsX0_isFresher wsX1_has := goodIn_r _ [7, 8, 15, 16, 17, 18, 19, 20] (by decide +kernel) (by decide +kernel)
set_option maxRecDepth 20000 in
theorem gX0_isFresher_X1_has : GoodIn wsX0_isFresher (wsV RX0 85 RX1 yX1_has wsX1_has) := goodIn_app (goodIn_of _ (by decide +kernel)) ggX0_isFresher_X1_has
set_option maxRecDepth 20000 in
theorem ggX0_wayFrom_X1_knownBy : GoodIn wsX0_wayFrom wsX1_knownBy := goodIn_r _ [7, 8, 9, 10, 11, 6, 12, 13, 23, 24, 25, 26, 27, 28] (by decide +kernel) (by decide +kernel)
set_option maxRecDepth 20000 in
theorem gX0_wayFrom_X1_knownBy : GoodIn wsX0_wayFrom (wsV RX0 88 RX1 yX1_knownBy wsX1_knownBy) := goodIn_app (goodIn_of _ (by decide +kernel)) ggX0_wayFrom_X1_knownBy
set_option maxRecDepth 20000 in
theorem ggX0_wayFrom_X3_holds : GoodIn wsX0_wayFrom wsX3_holds := goodIn_r _ [16] (by decide +kernel) (by decide +kernel)
set_option maxRecDepth 20000 in
theorem gX0_wayFrom_X3_holds_n91 : GoodIn wsX0_wayFrom (wsX3_holds) := ggX0_wayFrom_X3_holds
set_option maxRecDepth 20000 in
theorem ggX0_tire_X0_isTurning : GoodIn wsX0_tire wsX0_isTurning := goodIn_r _ [11, 1, 12, 13, 14, 15, 16, 17, 18, 19, 20, 21, 22, 23, 24, 25, 26, 27, 28, 29, 30, 31, 32, 33, 34, 35, 36, 37, 38, 39] (by decide +kernel) (by decide +kernel)
set_option maxRecDepth 20000 in
theorem gX0_tire_X0_isTurning : GoodIn wsX0_tire (wsV RX0 94 RX0 yX0_isTurning wsX0_isTurning) := goodIn_app (goodIn_of _ (by decide +kernel)) ggX0_tire_X0_isTurning
set_option maxRecDepth 20000 in
theorem ggX0_isTurning_X1_boothOf : GoodIn wsX0_isTurning wsX1_boothOf := goodIn_r _ [8, 9, 10, 11, 12, 7, 13, 14, 24, 25, 26, 27, 28, 29] (by decide +kernel) (by decide +kernel)
set_option maxRecDepth 20000 in
theorem gX0_isTurning_X1_boothOf : GoodIn wsX0_isTurning (wsV RX0 75 RX1 yX1_boothOf wsX1_boothOf) := goodIn_app (goodIn_of _ (by decide +kernel)) ggX0_isTurning_X1_boothOf
set_option maxRecDepth 20000 in
theorem ggX0_isTurning_X3_isTongue : GoodIn wsX0_isTurning wsX3_isTongue := goodIn_r _ [17] (by decide +kernel) (by decide +kernel)
set_option maxRecDepth 20000 in
theorem gX0_isTurning_X3_isTongue_n78 : GoodIn wsX0_isTurning (wsX3_isTongue) := ggX0_isTurning_X3_isTongue
set_option maxRecDepth 20000 in
theorem ggX0_lateIn_X3_isHalf : GoodIn wsX0_lateIn wsX3_isHalf := goodIn_r _ [5] (by decide +kernel) (by decide +kernel)
set_option maxRecDepth 20000 in
theorem gX0_lateIn_X3_isHalf_n37 : GoodIn wsX0_lateIn (wsX3_isHalf) := ggX0_lateIn_X3_isHalf
set_option maxRecDepth 20000 in
theorem ggX0_lateIn_X3_isTongue : GoodIn wsX0_lateIn wsX3_isTongue := goodIn_r _ [7] (by decide +kernel) (by decide +kernel)
set_option maxRecDepth 20000 in
theorem gX0_lateIn_X3_isTongue_n78 : GoodIn wsX0_lateIn (wsX3_isTongue) := ggX0_lateIn_X3_isTongue
set_option maxRecDepth 20000 in
theorem ggX1_isIll_X3_holds : GoodIn wsX1_isIll wsX3_holds := goodIn_r _ [4] (by decide +kernel) (by decide +kernel)
set_option maxRecDepth 20000 in
theorem gX1_isIll_X3_holds_n31 : GoodIn wsX1_isIll (wsX3_holds) := ggX1_isIll_X3_holds
set_option maxRecDepth 20000 in
theorem ggX1_payOf_X1_has : GoodIn wsX1_payOf wsX1_has := goodIn_r _ [6, 7, 8, 9, 10, 11, 12, 13] (by decide +kernel) (by decide +kernel)
set_option maxRecDepth 20000 in
theorem gX1_payOf_X1_has : GoodIn wsX1_payOf (wsV RX1 35 RX1 yX1_has wsX1_has) := goodIn_app (goodIn_of _ (by decide +kernel)) ggX1_payOf_X1_has
set_option maxRecDepth 20000 in
theorem ggX1_knownBy_X1_has : GoodIn wsX1_knownBy wsX1_has := goodIn_r _ [6, 7, 8, 9, 10, 11, 12, 13] (by decide +kernel) (by decide +kernel)
set_option maxRecDepth 20000 in
theorem gX1_knownBy_X1_has : GoodIn wsX1_knownBy (wsV RX1 35 RX1 yX1_has wsX1_has) := goodIn_app (goodIn_of _ (by decide +kernel)) ggX1_knownBy_X1_has
set_option maxRecDepth 20000 in
theorem ggX1_boothOf_X1_has : GoodIn wsX1_boothOf wsX1_has := goodIn_r _ [6, 7, 8, 9, 10, 11, 12, 13] (by decide +kernel) (by decide +kernel)
set_option maxRecDepth 20000 in
theorem gX1_boothOf_X1_has : GoodIn wsX1_boothOf (wsV RX1 35 RX1 yX1_has wsX1_has) := goodIn_app (goodIn_of _ (by decide +kernel)) ggX1_boothOf_X1_has
set_option maxRecDepth 20000 in
theorem ggX1_canTurnInto_X1_has : GoodIn wsX1_canTurnInto wsX1_has := goodIn_r _ [6, 7, 16, 17, 18, 19, 20, 21] (by decide +kernel) (by decide +kernel)
set_option maxRecDepth 20000 in
theorem gX1_canTurnInto_X1_has : GoodIn wsX1_canTurnInto (wsV RX1 35 RX1 yX1_has wsX1_has) := goodIn_app (goodIn_of _ (by decide +kernel)) ggX1_canTurnInto_X1_has
set_option maxRecDepth 20000 in
theorem ggX1_canTurnInto_X1_isIll : GoodIn wsX1_canTurnInto wsX1_isIll := goodIn_r _ [11, 12, 13, 14, 15, 16, 17, 18, 19, 20, 21] (by decide +kernel) (by decide +kernel)
set_option maxRecDepth 20000 in
theorem gX1_canTurnInto_X1_isIll : GoodIn wsX1_canTurnInto (wsV RX1 39 RX1 yX1_isIll wsX1_isIll) := goodIn_app (goodIn_of _ (by decide +kernel)) ggX1_canTurnInto_X1_isIll
set_option maxRecDepth 20000 in
theorem ggX1_canTurnInto_X3_holds : GoodIn wsX1_canTurnInto wsX3_holds := goodIn_r _ [15] (by decide +kernel) (by decide +kernel)
set_option maxRecDepth 20000 in
theorem gX1_canTurnInto_X3_holds_n31 : GoodIn wsX1_canTurnInto (wsX3_holds) := ggX1_canTurnInto_X3_holds
set_option maxRecDepth 20000 in
theorem ggX1_ableToTurnInto_X1_canTurnInto : GoodIn wsX1_ableToTurnInto wsX1_canTurnInto := goodIn_r _ [6, 7, 8, 9, 10, 5, 11, 1, 12, 13, 14, 15, 16, 17, 18, 19, 20, 21, 22, 23, 24, 25] (by decide +kernel) (by decide +kernel)
set_option maxRecDepth 20000 in
theorem gX1_ableToTurnInto_X1_canTurnInto : GoodIn wsX1_ableToTurnInto (wsV RX1 42 RX1 yX1_canTurnInto wsX1_canTurnInto) := goodIn_app (goodIn_of _ (by decide +kernel)) ggX1_ableToTurnInto_X1_canTurnInto
set_option maxRecDepth 20000 in
theorem ggX1_seated_X1_boothOf : GoodIn wsX1_seated wsX1_boothOf := goodIn_r _ [6, 7, 8, 9, 10, 5, 11, 1, 12, 13, 14, 15, 16, 17] (by decide +kernel) (by decide +kernel)
set_option maxRecDepth 20000 in
theorem gX1_seated_X1_boothOf : GoodIn wsX1_seated (wsV RX1 45 RX1 yX1_boothOf wsX1_boothOf) := goodIn_app (goodIn_of _ (by decide +kernel)) ggX1_seated_X1_boothOf
set_option maxRecDepth 20000 in
theorem ggX1_unseatAll_J7_fill_53178 : GoodIn wsX1_unseatAll wsJ7_fill_53178 := goodIn_r _ [5] (by decide +kernel) (by decide +kernel)
set_option maxRecDepth 20000 in
theorem gX1_unseatAll_J7_fill_53178 : GoodIn wsX1_unseatAll (va_wsS RX1 49 yJ7_fill_53178 wsJ7_fill_53178) := goodIn_app (goodIn_of _ (by decide +kernel)) ggX1_unseatAll_J7_fill_53178
set_option maxRecDepth 20000 in
theorem ggX2_init_J7_fill_53178 : GoodIn wsX2_init wsJ7_fill_53178 := goodIn_r _ [14] (by decide +kernel) (by decide +kernel)
set_option maxRecDepth 20000 in
theorem gX2_init_J7_fill_53178 : GoodIn wsX2_init (va_wsS RX2 31 yJ7_fill_53178 wsJ7_fill_53178) := goodIn_app (goodIn_of _ (by decide +kernel)) ggX2_init_J7_fill_53178
set_option maxRecDepth 20000 in
theorem ggX2_prepare_X3_holds : GoodIn wsX2_prepare wsX3_holds := goodIn_r _ [12] (by decide +kernel) (by decide +kernel)
set_option maxRecDepth 20000 in
theorem gX2_prepare_X3_holds_n62 : GoodIn wsX2_prepare (wsX3_holds) := ggX2_prepare_X3_holds
set_option maxRecDepth 20000 in
theorem ggX2_placeFrom_X1_has : GoodIn wsX2_placeFrom wsX1_has := goodIn_r _ [8, 9, 106, 107, 108, 109, 110, 111] (by decide +kernel) (by decide +kernel)
set_option maxRecDepth 20000 in
theorem gX2_placeFrom_X1_has : GoodIn wsX2_placeFrom (wsV RX2 71 RX1 yX1_has wsX1_has) := goodIn_app (goodIn_of _ (by decide +kernel)) ggX2_placeFrom_X1_has
end
section
set_option maxRecDepth 20000 in
theorem ggX2_placeFrom_X2_weighIfWhole : GoodIn wsX2_placeFrom wsX2_weighIfWhole := goodIn_r _ [14, 15, 16, 17, 18, 13, 19, 20, 2, 3, 21, 22, 23, 24, 25, 26, 27, 28, 29, 30, 7, 31, 32, 33, 5, 6, 8, 9, 34, 35, 36, 37, 38, 39, 40, 41, 42, 43, 44, 45, 46, 47, 48, 49, 50, 51, 52, 53, 54, 55, 56, 57, 58, 59, 60, 61, 62, 63, 64, 65, 66, 67, 68, 69, 70, 71, 72, 73, 92, 93, 94, 95, 96, 97, 98, 99, 100, 101, 102, 103, 104, 105, 106, 107, 108, 109, 110, 111] (by decide +kernel) (by decide +kernel)
set_option maxRecDepth 20000 in
theorem gX2_placeFrom_X2_weighIfWhole : GoodIn wsX2_placeFrom (wsV RX2 75 RX2 yX2_weighIfWhole wsX2_weighIfWhole) := goodIn_app (goodIn_of _ (by decide +kernel)) ggX2_placeFrom_X2_weighIfWhole
set_option maxRecDepth 20000 in
theorem ggX2_placeFrom_X2_placeIn : GoodIn wsX2_placeFrom wsX2_placeIn := goodIn_r _ [80, 81, 2, 3, 1, 82, 83, 84, 7, 85, 86, 33, 5, 6, 8, 9, 87, 88, 89, 90, 91, 34, 26, 35, 77, 78, 79, 13, 0, 4, 10, 11, 12, 14, 15, 16, 17, 18, 19, 20, 21, 22, 23, 24, 25, 27, 28, 29, 30, 31, 32, 36, 37, 38, 39, 40, 41, 42, 43, 44, 45, 46, 47, 48, 49, 50, 51, 52, 53, 54, 55, 56, 57, 58, 59, 60, 61, 62, 63, 64, 65, 66, 67, 68, 69, 70, 71, 72, 73, 74, 75, 76, 92, 93, 94, 95, 96, 97, 98, 99, 100, 101, 102, 103, 104, 105, 106, 107, 108, 109, 110, 111] (by decide +kernel) (by decide +kernel)
set_option maxRecDepth 20000 in
theorem gX2_placeFrom_X2_placeIn : GoodIn wsX2_placeFrom (wsV RX2 78 RX2 yX2_placeIn wsX2_placeIn) := goodIn_app (goodIn_of _ (by decide +kernel)) ggX2_placeFrom_X2_placeIn
set_option maxRecDepth 20000 in
theorem ggX2_placeFrom_X2_placeFrom : GoodIn wsX2_placeFrom wsX2_placeFrom := goodIn_r _ [0, 1, 2, 3, 4, 5, 6, 7, 8, 9, 10, 11, 12, 13, 14, 15, 16, 17, 18, 19, 20, 21, 22, 23, 24, 25, 26, 27, 28, 29, 30, 31, 32, 33, 34, 35, 36, 37, 38, 39, 40, 41, 42, 43, 44, 45, 46, 47, 48, 49, 50, 51, 52, 53, 54, 55, 56, 57, 58, 59, 60, 61, 62, 63, 64, 65, 66, 67, 68, 69, 70, 71, 72, 73, 74, 75, 76, 77, 78, 79, 80, 81, 82, 83, 84, 85, 86, 87, 88, 89, 90, 91, 92, 93, 94, 95, 96, 97, 98, 99, 100, 101, 102, 103, 104, 105, 106, 107, 108, 109, 110, 111] (by decide +kernel) (by decide +kernel)
set_option maxRecDepth 20000 in
theorem gX2_placeFrom_X2_placeFrom : GoodIn wsX2_placeFrom (wsV RX2 82 RX2 yX2_placeFrom wsX2_placeFrom) := goodIn_app (goodIn_of _ (by decide +kernel)) ggX2_placeFrom_X2_placeFrom
set_option maxRecDepth 20000 in
theorem ggX2_placeIn_X1_canTurnInto : GoodIn wsX2_placeIn wsX1_canTurnInto := goodIn_r _ [9, 10, 11, 12, 13, 8, 14, 15, 16, 17, 18, 19, 20, 21, 22, 23, 106, 107, 108, 109, 110, 111] (by decide +kernel) (by decide +kernel)
set_option maxRecDepth 20000 in
theorem gX2_placeIn_X1_canTurnInto : GoodIn wsX2_placeIn (wsV RX2 86 RX1 yX1_canTurnInto wsX1_canTurnInto) := goodIn_app (goodIn_of _ (by decide +kernel)) ggX2_placeIn_X1_canTurnInto
set_option maxRecDepth 20000 in
theorem ggX2_placeIn_X2_placeFrom : GoodIn wsX2_placeIn wsX2_placeFrom := goodIn_r _ [28, 4, 2, 3, 29, 12, 13, 8, 14, 15, 30, 31, 32, 27, 33, 34, 35, 36, 37, 38, 39, 40, 41, 42, 43, 44, 22, 45, 46, 47, 48, 49, 50, 11, 21, 23, 51, 52, 53, 54, 55, 56, 57, 58, 59, 60, 61, 62, 63, 64, 65, 66, 67, 68, 69, 70, 71, 72, 73, 74, 75, 76, 77, 78, 79, 80, 81, 82, 83, 84, 85, 86, 87, 88, 89, 90, 91, 24, 25, 26, 0, 1, 5, 6, 7, 9, 10, 16, 17, 18, 19, 20, 92, 93, 94, 95, 96, 97, 98, 99, 100, 101, 102, 103, 104, 105, 106, 107, 108, 109, 110, 111] (by decide +kernel) (by decide +kernel)
set_option maxRecDepth 20000 in
theorem gX2_placeIn_X2_placeFrom : GoodIn wsX2_placeIn (wsV RX2 82 RX2 yX2_placeFrom wsX2_placeFrom) := goodIn_app (goodIn_of _ (by decide +kernel)) ggX2_placeIn_X2_placeFrom
set_option maxRecDepth 20000 in
theorem ggX2_weighIfWhole_X2_shareKnown : GoodIn wsX2_weighIfWhole wsX2_shareKnown := goodIn_r _ [6, 7, 8, 9, 10, 11, 12, 13, 14, 15, 16, 17, 18, 19, 20, 21, 22, 23, 24, 25, 26, 27, 68, 69, 70, 71, 72, 73, 74, 75, 76, 77, 78, 79, 80, 81, 82, 83, 84, 85, 86, 87] (by decide +kernel) (by decide +kernel)
set_option maxRecDepth 20000 in
theorem gX2_weighIfWhole_X2_shareKnown : GoodIn wsX2_weighIfWhole (wsV RX2 89 RX2 yX2_shareKnown wsX2_shareKnown) := goodIn_app (goodIn_of _ (by decide +kernel)) ggX2_weighIfWhole_X2_shareKnown
set_option maxRecDepth 20000 in
theorem ggX2_weighIfWhole_X3_holds : GoodIn wsX2_weighIfWhole wsX3_holds := goodIn_r _ [29] (by decide +kernel) (by decide +kernel)
set_option maxRecDepth 20000 in
theorem gX2_weighIfWhole_X3_holds_n62 : GoodIn wsX2_weighIfWhole (wsX3_holds) := ggX2_weighIfWhole_X3_holds
set_option maxRecDepth 20000 in
theorem ggX2_weighIfWhole_X2_reachesFloors : GoodIn wsX2_weighIfWhole wsX2_reachesFloors := goodIn_r _ [33, 7, 1, 34, 28, 15, 29, 68, 69, 70, 71, 72, 73, 74, 75, 76, 77, 78, 79, 80, 81] (by decide +kernel) (by decide +kernel)
set_option maxRecDepth 20000 in
theorem gX2_weighIfWhole_X2_reachesFloors : GoodIn wsX2_weighIfWhole (wsV RX2 92 RX2 yX2_reachesFloors wsX2_reachesFloors) := goodIn_app (goodIn_of _ (by decide +kernel)) ggX2_weighIfWhole_X2_reachesFloors
set_option maxRecDepth 20000 in
theorem ggX2_weighIfWhole_X2_weigh : GoodIn wsX2_weighIfWhole wsX2_weigh := goodIn_r _ [38, 8, 9, 39, 40, 41, 42, 43, 20, 44, 45, 23, 24, 25, 26, 27, 46, 47, 48, 49, 50, 51, 52, 53, 5, 54, 55, 56, 57, 58, 59, 60, 61, 62, 63, 64, 65, 66, 67, 68, 69, 70, 71, 72, 73, 74, 75, 76, 77, 78, 79, 80, 81, 82, 83, 84, 85, 86, 87] (by decide +kernel) (by decide +kernel)
set_option maxRecDepth 20000 in
theorem gX2_weighIfWhole_X2_weigh : GoodIn wsX2_weighIfWhole (wsV RX2 95 RX2 yX2_weigh wsX2_weigh) := goodIn_app (goodIn_of _ (by decide +kernel)) ggX2_weighIfWhole_X2_weigh
set_option maxRecDepth 20000 in
theorem ggX2_shareKnown_J7_fill_53178 : GoodIn wsX2_shareKnown wsJ7_fill_53178 := goodIn_r _ [7] (by decide +kernel) (by decide +kernel)
set_option maxRecDepth 20000 in
theorem gX2_shareKnown_J7_fill_53178 : GoodIn wsX2_shareKnown (va_wsS RX2 31 yJ7_fill_53178 wsJ7_fill_53178) := goodIn_app (goodIn_of _ (by decide +kernel)) ggX2_shareKnown_J7_fill_53178
set_option maxRecDepth 20000 in
theorem ggX2_shareKnown_X3_isTongue : GoodIn wsX2_shareKnown wsX3_isTongue := goodIn_r _ [10] (by decide +kernel) (by decide +kernel)
set_option maxRecDepth 20000 in
theorem gX2_shareKnown_X3_isTongue_n98 : GoodIn wsX2_shareKnown (wsX3_isTongue) := ggX2_shareKnown_X3_isTongue
set_option maxRecDepth 20000 in
theorem ggX2_shareKnown_X1_knownBy : GoodIn wsX2_shareKnown wsX1_knownBy := goodIn_r _ [15, 16, 17, 18, 19, 14, 20, 21, 36, 37, 38, 39, 40, 41] (by decide +kernel) (by decide +kernel)
set_option maxRecDepth 20000 in
theorem gX2_shareKnown_X1_knownBy : GoodIn wsX2_shareKnown (wsV RX2 101 RX1 yX1_knownBy wsX1_knownBy) := goodIn_app (goodIn_of _ (by decide +kernel)) ggX2_shareKnown_X1_knownBy
set_option maxRecDepth 20000 in
theorem ggX2_reachesFloors_X3_holds : GoodIn wsX2_reachesFloors wsX3_holds := goodIn_r _ [6] (by decide +kernel) (by decide +kernel)
set_option maxRecDepth 20000 in
theorem gX2_reachesFloors_X3_holds_n62 : GoodIn wsX2_reachesFloors (wsX3_holds) := ggX2_reachesFloors_X3_holds
set_option maxRecDepth 20000 in
theorem ggX2_weigh_X1_payOf : GoodIn wsX2_weigh wsX1_payOf := goodIn_r _ [9, 10, 11, 12, 13, 8, 14, 15, 53, 54, 55, 56, 57, 58] (by decide +kernel) (by decide +kernel)
set_option maxRecDepth 20000 in
theorem gX2_weigh_X1_payOf : GoodIn wsX2_weigh (wsV RX2 105 RX1 yX1_payOf wsX1_payOf) := goodIn_app (goodIn_of _ (by decide +kernel)) ggX2_weigh_X1_payOf
set_option maxRecDepth 20000 in
theorem ggX2_weigh_X1_boothOf : GoodIn wsX2_weigh wsX1_boothOf := goodIn_r _ [19, 20, 11, 12, 13, 8, 14, 15, 53, 54, 55, 56, 57, 58] (by decide +kernel) (by decide +kernel)
set_option maxRecDepth 20000 in
theorem gX2_weigh_X1_boothOf : GoodIn wsX2_weigh (wsV RX2 108 RX1 yX1_boothOf wsX1_boothOf) := goodIn_app (goodIn_of _ (by decide +kernel)) ggX2_weigh_X1_boothOf
set_option maxRecDepth 20000 in
theorem ggX2_weigh_X2_keepIfCheaper : GoodIn wsX2_weigh wsX2_keepIfCheaper := goodIn_r _ [25, 4, 26, 2, 27, 28, 29, 30, 31, 39, 40, 41, 42, 43, 44, 45, 46, 47, 48, 49, 50, 51, 52] (by decide +kernel) (by decide +kernel)
set_option maxRecDepth 20000 in
theorem gX2_weigh_X2_keepIfCheaper : GoodIn wsX2_weigh (wsV RX2 111 RX2 yX2_keepIfCheaper wsX2_keepIfCheaper) := goodIn_app (goodIn_of _ (by decide +kernel)) ggX2_weigh_X2_keepIfCheaper
set_option maxRecDepth 20000 in
theorem ggX2_weigh_X2_keepIfNearer : GoodIn wsX2_weigh wsX2_keepIfNearer := goodIn_r _ [35, 4, 36, 37, 2, 38, 28, 29, 30, 31, 39, 40, 41, 42, 43, 44, 45, 46, 47, 48, 49, 50, 51, 52] (by decide +kernel) (by decide +kernel)
set_option maxRecDepth 20000 in
theorem gX2_weigh_X2_keepIfNearer : GoodIn wsX2_weigh (wsV RX2 114 RX2 yX2_keepIfNearer wsX2_keepIfNearer) := goodIn_app (goodIn_of _ (by decide +kernel)) ggX2_weigh_X2_keepIfNearer
set_option maxRecDepth 20000 in
theorem ggX3_init_X1_init : GoodIn wsX3_init wsX1_init := goodIn_r _ [22, 23, 2, 3, 16, 24, 25, 26, 27, 53, 54, 55, 56, 57, 58] (by decide +kernel) (by decide +kernel)
set_option maxRecDepth 20000 in
theorem gX3_init_X1_init_n9 : GoodIn wsX3_init (wsX1_init) := ggX3_init_X1_init
set_option maxRecDepth 20000 in
theorem ggX3_init_X2_init : GoodIn wsX3_init wsX2_init := goodIn_r _ [30, 31, 2, 3, 16, 32, 33, 34, 35, 36, 37, 38, 39, 40, 41, 66, 67, 68, 69, 70, 71, 72, 73, 74, 75, 76, 77, 78, 79] (by decide +kernel) (by decide +kernel)
set_option maxRecDepth 20000 in
theorem gX3_init_X2_init : GoodIn wsX3_init (wsX2_init) := ggX3_init_X2_init
set_option maxRecDepth 20000 in
theorem ggX3_init_X0_init : GoodIn wsX3_init wsX0_init := goodIn_r _ [44, 45, 2, 3, 16, 46, 47, 48, 49, 50, 51, 52, 39, 40, 41, 80, 81, 82, 83, 84, 85] (by decide +kernel) (by decide +kernel)
set_option maxRecDepth 20000 in
theorem gX3_init_X0_init : GoodIn wsX3_init (wsX0_init) := ggX3_init_X0_init
set_option maxRecDepth 20000 in
theorem ggX3_person_X3_areTongues : GoodIn wsX3_person wsX3_areTongues := goodIn_r _ [5] (by decide +kernel) (by decide +kernel)
set_option maxRecDepth 20000 in
theorem gX3_person_X3_areTongues : GoodIn wsX3_person (va_wsS RX3 46 yX3_areTongues wsX3_areTongues) := goodIn_app (goodIn_of _ (by decide +kernel)) ggX3_person_X3_areTongues
end
section
set_option maxRecDepth 20000 in
theorem ggX3_person_X1_add : GoodIn wsX3_person wsX1_add := goodIn_r _ [10, 11, 12, 13, 14, 15, 23, 24, 25, 26, 27, 28] (by decide +kernel) (by decide +kernel)
set_option maxRecDepth 20000 in
theorem gX3_person_X1_add : GoodIn wsX3_person (wsV RX3 50 RX1 yX1_add wsX1_add) := goodIn_app (goodIn_of _ (by decide +kernel)) ggX3_person_X1_add
set_option maxRecDepth 20000 in
theorem ggX3_ill_X1_has : GoodIn wsX3_ill wsX1_has := goodIn_r _ [6, 7, 27, 28, 29, 30, 31, 32] (by decide +kernel) (by decide +kernel)
set_option maxRecDepth 20000 in
theorem gX3_ill_X1_has : GoodIn wsX3_ill (wsV RX3 54 RX1 yX1_has wsX1_has) := goodIn_app (goodIn_of _ (by decide +kernel)) ggX3_ill_X1_has
set_option maxRecDepth 20000 in
theorem ggX3_ill_X1_isIll : GoodIn wsX3_ill wsX1_isIll := goodIn_r _ [11, 12, 13, 14, 15, 27, 28, 29, 30, 31, 32] (by decide +kernel) (by decide +kernel)
set_option maxRecDepth 20000 in
theorem gX3_ill_X1_isIll : GoodIn wsX3_ill (wsV RX3 57 RX1 yX1_isIll wsX1_isIll) := goodIn_app (goodIn_of _ (by decide +kernel)) ggX3_ill_X1_isIll
set_option maxRecDepth 20000 in
theorem ggX3_ill_X1_setIll : GoodIn wsX3_ill wsX1_setIll := goodIn_r _ [19, 12, 27, 28, 29, 30, 31, 32] (by decide +kernel) (by decide +kernel)
set_option maxRecDepth 20000 in
theorem gX3_ill_X1_setIll : GoodIn wsX3_ill (wsV RX3 60 RX1 yX1_setIll wsX1_setIll) := goodIn_app (goodIn_of _ (by decide +kernel)) ggX3_ill_X1_setIll
set_option maxRecDepth 20000 in
theorem ggX3_session_X3_isSession : GoodIn wsX3_session wsX3_isSession := goodIn_r _ [6] (by decide +kernel) (by decide +kernel)
set_option maxRecDepth 20000 in
theorem gX3_session_X3_isSession : GoodIn wsX3_session (va_wsS RX3 64 yX3_isSession wsX3_isSession) := goodIn_app (goodIn_of _ (by decide +kernel)) ggX3_session_X3_isSession
set_option maxRecDepth 20000 in
theorem ggX3_session_X3_areTongues : GoodIn wsX3_session wsX3_areTongues := goodIn_r _ [9] (by decide +kernel) (by decide +kernel)
set_option maxRecDepth 20000 in
theorem gX3_session_X3_areTongues : GoodIn wsX3_session (va_wsS RX3 46 yX3_areTongues wsX3_areTongues) := goodIn_app (goodIn_of _ (by decide +kernel)) ggX3_session_X3_areTongues
set_option maxRecDepth 20000 in
theorem ggX3_whole_X3_isSession : GoodIn wsX3_whole wsX3_isSession := goodIn_r _ [5] (by decide +kernel) (by decide +kernel)
set_option maxRecDepth 20000 in
theorem gX3_whole_X3_isSession : GoodIn wsX3_whole (va_wsS RX3 64 yX3_isSession wsX3_isSession) := goodIn_app (goodIn_of _ (by decide +kernel)) ggX3_whole_X3_isSession
set_option maxRecDepth 20000 in
theorem ggX3_whole_X3_searchTeams : GoodIn wsX3_whole wsX3_searchTeams := goodIn_r _ [9, 1, 10, 11, 12, 2, 3, 4, 5, 13, 14, 15, 16, 17, 18, 19, 20, 21, 22, 23, 24, 25, 26, 27, 28, 29, 30, 31, 32, 33, 34, 35, 36, 37, 38, 39, 40, 41, 42, 43, 44, 45, 46, 47, 48, 49, 50, 51, 52, 53, 54, 55, 56, 57, 58, 59, 60, 61, 62, 63, 64, 65, 66, 67, 68, 69, 70, 71, 72, 73, 74, 75, 76, 77, 78, 79, 80, 81, 82, 83, 84, 85, 86, 87, 88, 89, 90, 91, 92, 93, 94, 95, 96, 97, 98, 99, 100, 101, 102, 103, 104, 105, 106, 107, 108, 109, 110, 111, 112, 113, 114, 115, 116, 117, 118, 119, 120, 121, 122, 123, 124, 125, 126, 127, 128, 129, 130, 131, 132, 133, 134] (by decide +kernel) (by decide +kernel)
set_option maxRecDepth 20000 in
theorem gX3_whole_X3_searchTeams : GoodIn wsX3_whole (wsV RX3 67 RX3 yX3_searchTeams wsX3_searchTeams) := goodIn_app (goodIn_of _ (by decide +kernel)) ggX3_whole_X3_searchTeams
set_option maxRecDepth 20000 in
theorem ggX3_cheapest_X3_isSession : GoodIn wsX3_cheapest wsX3_isSession := goodIn_r _ [5] (by decide +kernel) (by decide +kernel)
set_option maxRecDepth 20000 in
theorem gX3_cheapest_X3_isSession : GoodIn wsX3_cheapest (va_wsS RX3 64 yX3_isSession wsX3_isSession) := goodIn_app (goodIn_of _ (by decide +kernel)) ggX3_cheapest_X3_isSession
set_option maxRecDepth 20000 in
theorem ggX3_cheapest_X3_searchTeams : GoodIn wsX3_cheapest wsX3_searchTeams := goodIn_r _ [9, 1, 10, 11, 12, 2, 3, 4, 5, 13, 14, 15, 16, 17, 18, 19, 20, 21, 22, 23, 24, 25, 26, 27, 28, 29, 30, 31, 32, 33, 34, 35, 36, 37, 38, 39, 40, 41, 42, 43, 44, 45, 46, 47, 48, 49, 50, 51, 52, 53, 54, 55, 56, 57, 58, 59, 60, 61, 62, 63, 64, 65, 66, 67, 68, 69, 70, 71, 72, 73, 74, 75, 76, 77, 78, 79, 80, 81, 82, 83, 84, 85, 86, 87, 88, 89, 90, 91, 92, 93, 94, 95, 96, 97, 98, 99, 100, 101, 102, 103, 104, 105, 106, 107, 108, 109, 110, 111, 112, 113, 114, 115, 116, 117, 118, 119, 120, 121, 122, 123, 124, 125, 126, 127, 128, 129, 130, 131, 132, 133, 134] (by decide +kernel) (by decide +kernel)
set_option maxRecDepth 20000 in
theorem gX3_cheapest_X3_searchTeams : GoodIn wsX3_cheapest (wsV RX3 67 RX3 yX3_searchTeams wsX3_searchTeams) := goodIn_app (goodIn_of _ (by decide +kernel)) ggX3_cheapest_X3_searchTeams
set_option maxRecDepth 20000 in
theorem ggX3_nearest_X3_isSession : GoodIn wsX3_nearest wsX3_isSession := goodIn_r _ [5] (by decide +kernel) (by decide +kernel)
set_option maxRecDepth 20000 in
theorem gX3_nearest_X3_isSession : GoodIn wsX3_nearest (va_wsS RX3 64 yX3_isSession wsX3_isSession) := goodIn_app (goodIn_of _ (by decide +kernel)) ggX3_nearest_X3_isSession
set_option maxRecDepth 20000 in
theorem ggX3_nearest_X3_searchTeams : GoodIn wsX3_nearest wsX3_searchTeams := goodIn_r _ [9, 1, 10, 11, 12, 2, 3, 4, 5, 13, 14, 15, 16, 17, 18, 19, 20, 21, 22, 23, 24, 25, 26, 27, 28, 29, 30, 31, 32, 33, 34, 35, 36, 37, 38, 39, 40, 41, 42, 43, 44, 45, 46, 47, 48, 49, 50, 51, 52, 53, 54, 55, 56, 57, 58, 59, 60, 61, 62, 63, 64, 65, 66, 67, 68, 69, 70, 71, 72, 73, 74, 75, 76, 77, 78, 79, 80, 81, 82, 83, 84, 85, 86, 87, 88, 89, 90, 91, 92, 93, 94, 95, 96, 97, 98, 99, 100, 101, 102, 103, 104, 105, 106, 107, 108, 109, 110, 111, 112, 113, 114, 115, 116, 117, 118, 119, 120, 121, 122, 123, 124, 125, 126, 127, 128, 129, 130, 131, 132, 133, 134] (by decide +kernel) (by decide +kernel)
set_option maxRecDepth 20000 in
theorem gX3_nearest_X3_searchTeams : GoodIn wsX3_nearest (wsV RX3 67 RX3 yX3_searchTeams wsX3_searchTeams) := goodIn_app (goodIn_of _ (by decide +kernel)) ggX3_nearest_X3_searchTeams
set_option maxRecDepth 20000 in
theorem ggX3_take_X3_isSession : GoodIn wsX3_take wsX3_isSession := goodIn_r _ [6] (by decide +kernel) (by decide +kernel)
set_option maxRecDepth 20000 in
theorem gX3_take_X3_isSession : GoodIn wsX3_take (va_wsS RX3 64 yX3_isSession wsX3_isSession) := goodIn_app (goodIn_of _ (by decide +kernel)) ggX3_take_X3_isSession
set_option maxRecDepth 20000 in
theorem ggX3_take_X3_searchTeams : GoodIn wsX3_take wsX3_searchTeams := goodIn_r _ [10, 1, 11, 12, 13, 3, 4, 5, 6, 14, 15, 16, 17, 18, 19, 20, 21, 22, 23, 24, 25, 26, 27, 28, 29, 30, 31, 32, 33, 34, 35, 36, 37, 38, 39, 40, 41, 42, 43, 44, 45, 46, 47, 48, 49, 50, 51, 52, 53, 54, 55, 56, 57, 58, 59, 60, 61, 62, 63, 64, 65, 66, 67, 68, 69, 70, 71, 72, 73, 74, 75, 76, 77, 78, 79, 80, 81, 82, 83, 84, 85, 86, 87, 88, 89, 90, 91, 92, 93, 94, 95, 96, 97, 98, 99, 100, 101, 102, 103, 104, 105, 106, 107, 108, 114, 115, 116, 117, 118, 119, 120, 121, 122, 123, 124, 125, 126, 127, 128, 129, 130, 131, 132, 133, 134, 135, 136, 137, 138, 139, 140] (by decide +kernel) (by decide +kernel)
set_option maxRecDepth 20000 in
theorem gX3_take_X3_searchTeams : GoodIn wsX3_take (wsV RX3 67 RX3 yX3_searchTeams wsX3_searchTeams) := goodIn_app (goodIn_of _ (by decide +kernel)) ggX3_take_X3_searchTeams
set_option maxRecDepth 20000 in
theorem ggX3_take_X1_seatAs : GoodIn wsX3_take wsX1_seatAs := goodIn_r _ [112, 79, 113, 86, 87, 88, 135, 136, 137, 138, 139, 140] (by decide +kernel) (by decide +kernel)
set_option maxRecDepth 20000 in
theorem gX3_take_X1_seatAs : GoodIn wsX3_take (wsV RX3 83 RX1 yX1_seatAs wsX1_seatAs) := goodIn_app (goodIn_of _ (by decide +kernel)) ggX3_take_X1_seatAs
set_option maxRecDepth 20000 in
theorem ggX3_leave_X1_seated : GoodIn wsX3_leave wsX1_seated := goodIn_r _ [6, 7, 8, 9, 10, 5, 11, 12, 13, 14, 15, 16, 32, 33, 34, 35, 36, 37] (by decide +kernel) (by decide +kernel)
set_option maxRecDepth 20000 in
theorem gX3_leave_X1_seated : GoodIn wsX3_leave (wsV RX3 93 RX1 yX1_seated wsX1_seated) := goodIn_app (goodIn_of _ (by decide +kernel)) ggX3_leave_X1_seated
set_option maxRecDepth 20000 in
theorem ggX3_leave_X1_unseatAll : GoodIn wsX3_leave wsX1_unseatAll := goodIn_r _ [20, 12, 21, 22, 23, 24, 32, 33, 34, 35, 36, 37] (by decide +kernel) (by decide +kernel)
set_option maxRecDepth 20000 in
theorem gX3_leave_X1_unseatAll : GoodIn wsX3_leave (wsV RX3 97 RX1 yX1_unseatAll wsX1_unseatAll) := goodIn_app (goodIn_of _ (by decide +kernel)) ggX3_leave_X1_unseatAll
set_option maxRecDepth 20000 in
theorem ggX3_booth_X1_has : GoodIn wsX3_booth wsX1_has := goodIn_r _ [6, 7, 21, 22, 23, 24, 25, 26] (by decide +kernel) (by decide +kernel)
set_option maxRecDepth 20000 in
theorem gX3_booth_X1_has : GoodIn wsX3_booth (wsV RX3 54 RX1 yX1_has wsX1_has) := goodIn_app (goodIn_of _ (by decide +kernel)) ggX3_booth_X1_has
set_option maxRecDepth 20000 in
theorem ggX3_booth_X1_boothOf : GoodIn wsX3_booth wsX1_boothOf := goodIn_r _ [11, 12, 13, 3, 4, 5, 6, 7, 21, 22, 23, 24, 25, 26] (by decide +kernel) (by decide +kernel)
set_option maxRecDepth 20000 in
theorem gX3_booth_X1_boothOf : GoodIn wsX3_booth (wsV RX3 100 RX1 yX1_boothOf wsX1_boothOf) := goodIn_app (goodIn_of _ (by decide +kernel)) ggX3_booth_X1_boothOf
set_option maxRecDepth 20000 in
theorem ggX3_lacking_X3_isSession : GoodIn wsX3_lacking wsX3_isSession := goodIn_r _ [7] (by decide +kernel) (by decide +kernel)
set_option maxRecDepth 20000 in
theorem gX3_lacking_X3_isSession : GoodIn wsX3_lacking (va_wsS RX3 64 yX3_isSession wsX3_isSession) := goodIn_app (goodIn_of _ (by decide +kernel)) ggX3_lacking_X3_isSession
set_option maxRecDepth 20000 in
theorem ggX3_lacking_X3_holds : GoodIn wsX3_lacking wsX3_holds := goodIn_r _ [10] (by decide +kernel) (by decide +kernel)
set_option maxRecDepth 20000 in
theorem gX3_lacking_X3_holds : GoodIn wsX3_lacking (va_wsS RX3 104 yX3_holds wsX3_holds) := goodIn_app (goodIn_of _ (by decide +kernel)) ggX3_lacking_X3_holds
end
section
set_option maxRecDepth 20000 in
theorem ggX3_lacking_X1_ableToTurnInto : GoodIn wsX3_lacking wsX1_ableToTurnInto := goodIn_r _ [15, 16, 17, 18, 19, 14, 20, 21, 22, 23, 24, 25, 26, 27, 28, 29, 30, 9, 6, 10, 38, 39, 40, 41, 42, 43] (by decide +kernel) (by decide +kernel)
set_option maxRecDepth 20000 in
theorem gX3_lacking_X1_ableToTurnInto : GoodIn wsX3_lacking (wsV RX3 108 RX1 yX1_ableToTurnInto wsX1_ableToTurnInto) := goodIn_app (goodIn_of _ (by decide +kernel)) ggX3_lacking_X1_ableToTurnInto
set_option maxRecDepth 20000 in
theorem ggX3_needed_X1_has : GoodIn wsX3_needed wsX1_has := goodIn_r _ [7, 8, 132, 133, 134, 135, 136, 137] (by decide +kernel) (by decide +kernel)
set_option maxRecDepth 20000 in
theorem gX3_needed_X1_has : GoodIn wsX3_needed (wsV RX3 54 RX1 yX1_has wsX1_has) := goodIn_app (goodIn_of _ (by decide +kernel)) ggX3_needed_X1_has
set_option maxRecDepth 20000 in
theorem ggX3_needed_X3_isSession : GoodIn wsX3_needed wsX3_isSession := goodIn_r _ [12] (by decide +kernel) (by decide +kernel)
set_option maxRecDepth 20000 in
theorem gX3_needed_X3_isSession : GoodIn wsX3_needed (va_wsS RX3 64 yX3_isSession wsX3_isSession) := goodIn_app (goodIn_of _ (by decide +kernel)) ggX3_needed_X3_isSession
set_option maxRecDepth 20000 in
theorem ggX3_needed_X3_searchTeams : GoodIn wsX3_needed wsX3_searchTeams := goodIn_r _ [16, 2, 17, 18, 19, 9, 10, 11, 12, 20, 21, 22, 23, 24, 25, 26, 27, 28, 29, 30, 31, 32, 33, 34, 35, 36, 37, 38, 39, 40, 41, 4, 5, 6, 7, 8, 42, 43, 44, 45, 46, 47, 48, 49, 50, 51, 52, 53, 54, 55, 56, 57, 58, 59, 60, 61, 62, 63, 64, 65, 66, 67, 68, 69, 70, 71, 72, 73, 74, 75, 76, 77, 78, 79, 80, 81, 82, 83, 84, 85, 86, 87, 88, 89, 90, 91, 92, 93, 94, 95, 96, 97, 98, 99, 100, 101, 102, 103, 104, 105, 106, 107, 108, 109, 111, 112, 113, 114, 115, 116, 117, 118, 119, 120, 121, 122, 123, 124, 125, 126, 127, 128, 129, 130, 131, 132, 133, 134, 135, 136, 137] (by decide +kernel) (by decide +kernel)
set_option maxRecDepth 20000 in
theorem gX3_needed_X3_searchTeams : GoodIn wsX3_needed (wsV RX3 67 RX3 yX3_searchTeams wsX3_searchTeams) := goodIn_app (goodIn_of _ (by decide +kernel)) ggX3_needed_X3_searchTeams
set_option maxRecDepth 20000 in
theorem ggX3_needed_X3_holds : GoodIn wsX3_needed wsX3_holds := goodIn_r _ [35] (by decide +kernel) (by decide +kernel)
set_option maxRecDepth 20000 in
theorem gX3_needed_X3_holds : GoodIn wsX3_needed (va_wsS RX3 104 yX3_holds wsX3_holds) := goodIn_app (goodIn_of _ (by decide +kernel)) ggX3_needed_X3_holds
set_option maxRecDepth 20000 in
theorem ggX3_speak_X3_isHalf : GoodIn wsX3_speak wsX3_isHalf := goodIn_r _ [5] (by decide +kernel) (by decide +kernel)
set_option maxRecDepth 20000 in
theorem gX3_speak_X3_isHalf : GoodIn wsX3_speak (va_wsS RX3 114 yX3_isHalf wsX3_isHalf) := goodIn_app (goodIn_of _ (by decide +kernel)) ggX3_speak_X3_isHalf
set_option maxRecDepth 20000 in
theorem ggX3_speak_X3_isTongue : GoodIn wsX3_speak wsX3_isTongue := goodIn_r _ [8] (by decide +kernel) (by decide +kernel)
set_option maxRecDepth 20000 in
theorem gX3_speak_X3_isTongue : GoodIn wsX3_speak (va_wsS RX3 117 yX3_isTongue wsX3_isTongue) := goodIn_app (goodIn_of _ (by decide +kernel)) ggX3_speak_X3_isTongue
set_option maxRecDepth 20000 in
theorem ggX3_speak_X0_setSpoken : GoodIn wsX3_speak wsX0_setSpoken := goodIn_r _ [13, 14, 15, 3, 4, 5, 23, 24, 25, 26, 27, 28] (by decide +kernel) (by decide +kernel)
set_option maxRecDepth 20000 in
theorem gX3_speak_X0_setSpoken : GoodIn wsX3_speak (wsV RX3 120 RX0 yX0_setSpoken wsX0_setSpoken) := goodIn_app (goodIn_of _ (by decide +kernel)) ggX3_speak_X0_setSpoken
set_option maxRecDepth 20000 in
theorem ggX3_silence_X3_isHalf : GoodIn wsX3_silence wsX3_isHalf := goodIn_r _ [5] (by decide +kernel) (by decide +kernel)
set_option maxRecDepth 20000 in
theorem gX3_silence_X3_isHalf : GoodIn wsX3_silence (va_wsS RX3 114 yX3_isHalf wsX3_isHalf) := goodIn_app (goodIn_of _ (by decide +kernel)) ggX3_silence_X3_isHalf
set_option maxRecDepth 20000 in
theorem ggX3_silence_X0_isSilent : GoodIn wsX3_silence wsX0_isSilent := goodIn_r _ [10, 11, 3, 4, 5, 28, 29, 30, 31, 32, 33] (by decide +kernel) (by decide +kernel)
set_option maxRecDepth 20000 in
theorem gX3_silence_X0_isSilent : GoodIn wsX3_silence (wsV RX3 124 RX0 yX0_isSilent wsX0_isSilent) := goodIn_app (goodIn_of _ (by decide +kernel)) ggX3_silence_X0_isSilent
set_option maxRecDepth 20000 in
theorem ggX3_silence_X0_setSilent : GoodIn wsX3_silence wsX0_setSilent := goodIn_r _ [15, 16, 17, 18, 9, 19, 11, 20, 3, 4, 5, 28, 29, 30, 31, 32, 33] (by decide +kernel) (by decide +kernel)
set_option maxRecDepth 20000 in
theorem gX3_silence_X0_setSilent : GoodIn wsX3_silence (wsV RX3 127 RX0 yX0_setSilent wsX0_setSilent) := goodIn_app (goodIn_of _ (by decide +kernel)) ggX3_silence_X0_setSilent
set_option maxRecDepth 20000 in
theorem ggX3_on_X3_isTongue : GoodIn wsX3_on wsX3_isTongue := goodIn_r _ [5] (by decide +kernel) (by decide +kernel)
set_option maxRecDepth 20000 in
theorem gX3_on_X3_isTongue : GoodIn wsX3_on (va_wsS RX3 117 yX3_isTongue wsX3_isTongue) := goodIn_app (goodIn_of _ (by decide +kernel)) ggX3_on_X3_isTongue
set_option maxRecDepth 20000 in
theorem ggX3_on_X3_isHalf : GoodIn wsX3_on wsX3_isHalf := goodIn_r _ [8] (by decide +kernel) (by decide +kernel)
set_option maxRecDepth 20000 in
theorem gX3_on_X3_isHalf : GoodIn wsX3_on (va_wsS RX3 114 yX3_isHalf wsX3_isHalf) := goodIn_app (goodIn_of _ (by decide +kernel)) ggX3_on_X3_isHalf
set_option maxRecDepth 20000 in
theorem ggX3_on_X0_playThrough : GoodIn wsX3_on wsX0_playThrough := goodIn_r _ [13, 14, 15, 16, 17, 18, 19, 20, 21, 12, 22, 23, 24, 25, 7, 4, 8, 26, 27, 28, 29, 30, 31, 32, 33, 34, 35, 36, 37, 38, 39, 40, 41, 42, 3, 5, 43, 44, 45, 46, 47, 48, 49, 50, 51, 52, 53, 54, 55, 56, 57, 58, 59, 60, 61, 62, 63, 64, 65, 66, 67, 68, 69, 70, 78, 79, 80, 81, 82, 83, 84, 85, 86, 87, 88, 89] (by decide +kernel) (by decide +kernel)
set_option maxRecDepth 20000 in
theorem gX3_on_X0_playThrough : GoodIn wsX3_on (wsV RX3 130 RX0 yX0_playThrough wsX0_playThrough) := goodIn_app (goodIn_of _ (by decide +kernel)) ggX3_on_X0_playThrough
set_option maxRecDepth 20000 in
theorem ggX3_heard_X3_isTongue : GoodIn wsX3_heard wsX3_isTongue := goodIn_r _ [5] (by decide +kernel) (by decide +kernel)
set_option maxRecDepth 20000 in
theorem gX3_heard_X3_isTongue : GoodIn wsX3_heard (va_wsS RX3 117 yX3_isTongue wsX3_isTongue) := goodIn_app (goodIn_of _ (by decide +kernel)) ggX3_heard_X3_isTongue
set_option maxRecDepth 20000 in
theorem ggX3_heard_X3_isHalf : GoodIn wsX3_heard wsX3_isHalf := goodIn_r _ [8] (by decide +kernel) (by decide +kernel)
set_option maxRecDepth 20000 in
theorem gX3_heard_X3_isHalf : GoodIn wsX3_heard (va_wsS RX3 114 yX3_isHalf wsX3_isHalf) := goodIn_app (goodIn_of _ (by decide +kernel)) ggX3_heard_X3_isHalf
set_option maxRecDepth 20000 in
theorem ggX3_heard_X0_playThrough : GoodIn wsX3_heard wsX0_playThrough := goodIn_r _ [13, 14, 15, 16, 17, 18, 19, 20, 21, 12, 22, 23, 24, 25, 7, 4, 8, 26, 27, 28, 29, 30, 31, 32, 33, 34, 35, 36, 37, 38, 39, 40, 41, 42, 3, 5, 43, 44, 45, 46, 47, 48, 49, 50, 51, 52, 53, 54, 55, 56, 57, 58, 59, 60, 61, 62, 63, 64, 65, 66, 67, 68, 69, 70, 78, 79, 80, 81, 82, 83, 84, 85, 86, 87, 88, 89] (by decide +kernel) (by decide +kernel)
set_option maxRecDepth 20000 in
theorem gX3_heard_X0_playThrough : GoodIn wsX3_heard (wsV RX3 130 RX0 yX0_playThrough wsX0_playThrough) := goodIn_app (goodIn_of _ (by decide +kernel)) ggX3_heard_X0_playThrough
set_option maxRecDepth 20000 in
theorem ggX3_tired_X1_has : GoodIn wsX3_tired wsX1_has := goodIn_r _ [7, 8, 85, 86, 87, 88, 89, 90] (by decide +kernel) (by decide +kernel)
set_option maxRecDepth 20000 in
theorem gX3_tired_X1_has : GoodIn wsX3_tired (wsV RX3 54 RX1 yX1_has wsX1_has) := goodIn_app (goodIn_of _ (by decide +kernel)) ggX3_tired_X1_has
set_option maxRecDepth 20000 in
theorem ggX3_tired_X3_isHalf : GoodIn wsX3_tired wsX3_isHalf := goodIn_r _ [12] (by decide +kernel) (by decide +kernel)
set_option maxRecDepth 20000 in
theorem gX3_tired_X3_isHalf : GoodIn wsX3_tired (va_wsS RX3 114 yX3_isHalf wsX3_isHalf) := goodIn_app (goodIn_of _ (by decide +kernel)) ggX3_tired_X3_isHalf
set_option maxRecDepth 20000 in
theorem ggX3_tired_X0_playThrough : GoodIn wsX3_tired wsX0_playThrough := goodIn_r _ [17, 18, 19, 20, 21, 22, 23, 24, 25, 16, 26, 27, 28, 29, 10, 11, 12, 30, 31, 32, 33, 34, 35, 36, 37, 38, 6, 39, 40, 41, 4, 5, 7, 8, 42, 43, 44, 45, 46, 47, 48, 49, 50, 51, 52, 53, 54, 55, 56, 57, 58, 59, 60, 61, 62, 63, 64, 65, 66, 67, 68, 69, 70, 71, 79, 80, 81, 82, 83, 84, 85, 86, 87, 88, 89, 90] (by decide +kernel) (by decide +kernel)
set_option maxRecDepth 20000 in
theorem gX3_tired_X0_playThrough : GoodIn wsX3_tired (wsV RX3 130 RX0 yX0_playThrough wsX0_playThrough) := goodIn_app (goodIn_of _ (by decide +kernel)) ggX3_tired_X0_playThrough
set_option maxRecDepth 20000 in
theorem ggX3_late_X3_isTongue : GoodIn wsX3_late wsX3_isTongue := goodIn_r _ [5] (by decide +kernel) (by decide +kernel)
set_option maxRecDepth 20000 in
theorem gX3_late_X3_isTongue : GoodIn wsX3_late (va_wsS RX3 117 yX3_isTongue wsX3_isTongue) := goodIn_app (goodIn_of _ (by decide +kernel)) ggX3_late_X3_isTongue
end
section
set_option maxRecDepth 20000 in
theorem ggX3_late_X0_lateOverall : GoodIn wsX3_late wsX0_lateOverall := goodIn_r _ [10, 11, 12, 13, 14, 15, 16, 17, 18, 9, 19, 20, 21, 22, 23, 4, 24, 25, 26, 27, 28, 29, 30, 31, 32, 33, 34, 35, 36, 37, 38, 39, 40, 41, 3, 5, 42, 43, 44, 45, 46, 47, 48, 49, 50, 51, 52, 53, 54, 55, 56, 57, 58, 59, 60, 61, 62, 63, 64, 65, 66, 67, 68, 69, 70, 71, 72, 73, 81, 82, 83, 84, 85, 86, 87, 88, 89, 90, 91, 92] (by decide +kernel) (by decide +kernel)
set_option maxRecDepth 20000 in
theorem gX3_late_X0_lateOverall : GoodIn wsX3_late (wsV RX3 142 RX0 yX0_lateOverall wsX0_lateOverall) := goodIn_app (goodIn_of _ (by decide +kernel)) ggX3_late_X0_lateOverall
set_option maxRecDepth 20000 in
theorem ggX3_worn_X0_wornBits : GoodIn wsX3_worn wsX0_wornBits := goodIn_r _ [7, 8, 9, 10, 11, 12, 13, 14, 15, 6, 16, 17, 18, 19, 20, 21, 22, 23, 24, 25, 26, 27, 28, 29, 30, 31, 32, 33, 34, 35, 36, 37, 38, 39, 40, 41, 42, 43, 44, 45, 46, 47, 48, 49, 50, 51, 52, 53, 54, 55, 56, 57, 58, 59, 60, 61, 62, 63, 64, 65, 66, 67, 68, 69, 70, 71, 72, 73, 81, 82, 83, 84, 85, 86, 87, 88, 89, 90, 91, 92] (by decide +kernel) (by decide +kernel)
set_option maxRecDepth 20000 in
theorem gX3_worn_X0_wornBits : GoodIn wsX3_worn (wsV RX3 145 RX0 yX0_wornBits wsX0_wornBits) := goodIn_app (goodIn_of _ (by decide +kernel)) ggX3_worn_X0_wornBits
set_option maxRecDepth 20000 in
theorem ggX3_count_J6_bitCount_0f7a4 : GoodIn wsX3_count wsJ6_bitCount_0f7a4 := goodIn_r _ [7, 8, 9, 10] (by decide +kernel) (by decide +kernel)
set_option maxRecDepth 20000 in
theorem gX3_count_J6_bitCount_0f7a4 : GoodIn wsX3_count (va_wsS RX3 154 yJ6_bitCount_0f7a4 wsJ6_bitCount_0f7a4) := goodIn_app (goodIn_of _ (by decide +kernel)) ggX3_count_J6_bitCount_0f7a4
set_option maxRecDepth 20000 in
theorem ggX3_count_X1_seated : GoodIn wsX3_count wsX1_seated := goodIn_r _ [15, 16, 17, 18, 19, 14, 20, 21, 22, 23, 24, 25, 46, 47, 48, 49, 50, 51] (by decide +kernel) (by decide +kernel)
set_option maxRecDepth 20000 in
theorem gX3_count_X1_seated : GoodIn wsX3_count (wsV RX3 93 RX1 yX1_seated wsX1_seated) := goodIn_app (goodIn_of _ (by decide +kernel)) ggX3_count_X1_seated
set_option maxRecDepth 20000 in
theorem ggX3_count_X0_spokenHalves : GoodIn wsX3_count wsX0_spokenHalves := goodIn_r _ [30, 31, 32, 33, 29, 34, 35, 36, 37, 38, 52, 53, 54, 55, 56, 57] (by decide +kernel) (by decide +kernel)
set_option maxRecDepth 20000 in
theorem gX3_count_X0_spokenHalves : GoodIn wsX3_count (wsV RX3 159 RX0 yX0_spokenHalves wsX0_spokenHalves) := goodIn_app (goodIn_of _ (by decide +kernel)) ggX3_count_X0_spokenHalves
set_option maxRecDepth 20000 in
theorem ggX3_searchTeams_X3_isSession : GoodIn wsX3_searchTeams wsX3_isSession := goodIn_r _ [8] (by decide +kernel) (by decide +kernel)
set_option maxRecDepth 20000 in
theorem gX3_searchTeams_X3_isSession : GoodIn wsX3_searchTeams (va_wsS RX3 64 yX3_isSession wsX3_isSession) := goodIn_app (goodIn_of _ (by decide +kernel)) ggX3_searchTeams_X3_isSession
set_option maxRecDepth 20000 in
theorem ggX3_searchTeams_X2_prepare : GoodIn wsX3_searchTeams wsX2_prepare := goodIn_r _ [13, 14, 15, 16, 17, 18, 19, 20, 21, 22, 23, 7, 24, 111, 112, 113, 114, 115, 116, 117, 118, 119, 120, 121, 122, 123, 124] (by decide +kernel) (by decide +kernel)
set_option maxRecDepth 20000 in
theorem gX3_searchTeams_X2_prepare : GoodIn wsX3_searchTeams (wsV RX3 162 RX2 yX2_prepare wsX2_prepare) := goodIn_app (goodIn_of _ (by decide +kernel)) ggX3_searchTeams_X2_prepare
set_option maxRecDepth 20000 in
theorem ggX3_searchTeams_X2_placeFrom : GoodIn wsX3_searchTeams wsX2_placeFrom := goodIn_r _ [27, 21, 28, 29, 30, 31, 32, 33, 34, 35, 36, 37, 38, 12, 39, 15, 40, 41, 42, 43, 44, 45, 46, 47, 48, 49, 7, 50, 51, 52, 53, 54, 55, 56, 23, 24, 57, 58, 59, 60, 14, 61, 62, 63, 64, 17, 16, 65, 66, 67, 68, 69, 70, 71, 72, 73, 74, 75, 76, 77, 78, 18, 79, 80, 81, 82, 83, 84, 85, 86, 87, 19, 20, 88, 89, 90, 91, 92, 25, 26, 93, 22, 94, 95, 96, 97, 98, 99, 100, 101, 102, 103, 111, 112, 113, 114, 115, 116, 117, 118, 119, 120, 121, 122, 123, 124, 125, 126, 127, 128, 129, 130] (by decide +kernel) (by decide +kernel)
set_option maxRecDepth 20000 in
theorem gX3_searchTeams_X2_placeFrom_n165 : GoodIn wsX3_searchTeams (wsX2_placeFrom) := ggX3_searchTeams_X2_placeFrom
set_option maxRecDepth 20000 in
theorem ggX4_isPerson_X4_in : GoodIn wsX4_isPerson wsX4_in := goodIn_r _ [5] (by decide +kernel) (by decide +kernel)
set_option maxRecDepth 20000 in
theorem gX4_isPerson_X4_in : GoodIn wsX4_isPerson (va_wsS RX4 69 yX4_in wsX4_in) := goodIn_app (goodIn_of _ (by decide +kernel)) ggX4_isPerson_X4_in
set_option maxRecDepth 20000 in
theorem ggX4_isSession_X4_in : GoodIn wsX4_isSession wsX4_in := goodIn_r _ [4] (by decide +kernel) (by decide +kernel)
set_option maxRecDepth 20000 in
theorem gX4_isSession_X4_in : GoodIn wsX4_isSession (va_wsS RX4 69 yX4_in wsX4_in) := goodIn_app (goodIn_of _ (by decide +kernel)) ggX4_isSession_X4_in
set_option maxRecDepth 20000 in
theorem ggX4_isTongue_X4_in : GoodIn wsX4_isTongue wsX4_in := goodIn_r _ [4] (by decide +kernel) (by decide +kernel)
set_option maxRecDepth 20000 in
theorem gX4_isTongue_X4_in : GoodIn wsX4_isTongue (va_wsS RX4 69 yX4_in wsX4_in) := goodIn_app (goodIn_of _ (by decide +kernel)) ggX4_isTongue_X4_in
set_option maxRecDepth 20000 in
theorem ggX4_isHalf_X4_in : GoodIn wsX4_isHalf wsX4_in := goodIn_r _ [4] (by decide +kernel) (by decide +kernel)
set_option maxRecDepth 20000 in
theorem gX4_isHalf_X4_in : GoodIn wsX4_isHalf (va_wsS RX4 69 yX4_in wsX4_in) := goodIn_app (goodIn_of _ (by decide +kernel)) ggX4_isHalf_X4_in
set_option maxRecDepth 20000 in
theorem ggX4_person_X4_in : GoodIn wsX4_person wsX4_in := goodIn_r _ [8] (by decide +kernel) (by decide +kernel)
set_option maxRecDepth 20000 in
theorem gX4_person_X4_in : GoodIn wsX4_person (va_wsS RX4 69 yX4_in wsX4_in) := goodIn_app (goodIn_of _ (by decide +kernel)) ggX4_person_X4_in
set_option maxRecDepth 20000 in
theorem ggX4_ill_X4_isPerson : GoodIn wsX4_ill wsX4_isPerson := goodIn_r _ [6, 7, 8, 9, 5, 10, 11, 12, 13, 14, 15, 16, 17, 18, 19, 20, 21, 22, 23, 24, 25, 26, 27, 28, 29, 30, 31, 32, 33, 34, 35] (by decide +kernel) (by decide +kernel)
set_option maxRecDepth 20000 in
theorem gX4_ill_X4_isPerson : GoodIn wsX4_ill (wsV RX4 73 RX4 yX4_isPerson wsX4_isPerson) := goodIn_app (goodIn_of _ (by decide +kernel)) ggX4_ill_X4_isPerson
set_option maxRecDepth 20000 in
theorem ggX4_session_X4_isSession : GoodIn wsX4_session wsX4_isSession := goodIn_r _ [6, 7, 8, 5, 9] (by decide +kernel) (by decide +kernel)
set_option maxRecDepth 20000 in
theorem gX4_session_X4_isSession : GoodIn wsX4_session (va_wsS RX4 77 yX4_isSession wsX4_isSession) := goodIn_app (goodIn_of _ (by decide +kernel)) ggX4_session_X4_isSession
set_option maxRecDepth 20000 in
theorem ggX4_session_X4_in : GoodIn wsX4_session wsX4_in := goodIn_r _ [9] (by decide +kernel) (by decide +kernel)
set_option maxRecDepth 20000 in
theorem gX4_session_X4_in : GoodIn wsX4_session (va_wsS RX4 69 yX4_in wsX4_in) := goodIn_app (goodIn_of _ (by decide +kernel)) ggX4_session_X4_in
set_option maxRecDepth 20000 in
theorem ggX4_seats_X4_in : GoodIn wsX4_seats wsX4_in := goodIn_r _ [5] (by decide +kernel) (by decide +kernel)
set_option maxRecDepth 20000 in
theorem gX4_seats_X4_in : GoodIn wsX4_seats (va_wsS RX4 69 yX4_in wsX4_in) := goodIn_app (goodIn_of _ (by decide +kernel)) ggX4_seats_X4_in
set_option maxRecDepth 20000 in
theorem ggX4_isTeam_X4_has : GoodIn wsX4_isTeam wsX4_has := goodIn_r _ [10] (by decide +kernel) (by decide +kernel)
set_option maxRecDepth 20000 in
theorem gX4_isTeam_X4_has : GoodIn wsX4_isTeam (va_wsS RX4 80 yX4_has wsX4_has) := goodIn_app (goodIn_of _ (by decide +kernel)) ggX4_isTeam_X4_has
set_option maxRecDepth 20000 in
theorem ggX4_allKnow_X4_has : GoodIn wsX4_allKnow wsX4_has := goodIn_r _ [7] (by decide +kernel) (by decide +kernel)
set_option maxRecDepth 20000 in
theorem gX4_allKnow_X4_has : GoodIn wsX4_allKnow (va_wsS RX4 80 yX4_has wsX4_has) := goodIn_app (goodIn_of _ (by decide +kernel)) ggX4_allKnow_X4_has
set_option maxRecDepth 20000 in
theorem ggX4_isWhole_X4_has : GoodIn wsX4_isWhole wsX4_has := goodIn_r _ [6] (by decide +kernel) (by decide +kernel)
set_option maxRecDepth 20000 in
theorem gX4_isWhole_X4_has : GoodIn wsX4_isWhole (va_wsS RX4 80 yX4_has wsX4_has) := goodIn_app (goodIn_of _ (by decide +kernel)) ggX4_isWhole_X4_has
set_option maxRecDepth 20000 in
theorem ggX4_isWhole_X4_allKnow : GoodIn wsX4_isWhole wsX4_allKnow := goodIn_r _ [10, 11, 12, 13, 3, 4, 5, 6, 14, 15, 16, 17, 18, 19, 20, 21, 22, 23, 24, 25, 26, 27, 28, 29, 30, 31, 32, 33, 34, 35, 36, 37, 38] (by decide +kernel) (by decide +kernel)
set_option maxRecDepth 20000 in
theorem gX4_isWhole_X4_allKnow : GoodIn wsX4_isWhole (wsV RX4 84 RX4 yX4_allKnow wsX4_allKnow) := goodIn_app (goodIn_of _ (by decide +kernel)) ggX4_isWhole_X4_allKnow
end
section
set_option maxRecDepth 20000 in
theorem ggX4_findTeams_X4_isTeam : GoodIn wsX4_findTeams wsX4_isTeam := goodIn_r _ [16, 5, 6, 17, 18, 19, 20, 21, 22, 15, 23, 34, 35, 36, 37, 38, 39, 40, 41, 42, 43, 44, 45, 46, 47, 48, 49, 50, 51, 52, 53, 54, 55, 56, 57, 58] (by decide +kernel) (by decide +kernel)
set_option maxRecDepth 20000 in
theorem gX4_findTeams_X4_isTeam : GoodIn wsX4_findTeams (wsV RX4 99 RX4 yX4_isTeam wsX4_isTeam) := goodIn_app (goodIn_of _ (by decide +kernel)) ggX4_findTeams_X4_isTeam
set_option maxRecDepth 20000 in
theorem ggX4_findTeams_X4_isWhole : GoodIn wsX4_findTeams wsX4_isWhole := goodIn_r _ [27, 28, 17, 21, 22, 15, 23, 29, 30, 31, 32, 5, 6, 33, 34, 35, 36, 37, 38, 39, 40, 41, 42, 43, 44, 45, 46, 47, 48, 49, 50, 51, 52, 53, 54, 55, 56, 57, 58] (by decide +kernel) (by decide +kernel)
set_option maxRecDepth 20000 in
theorem gX4_findTeams_X4_isWhole : GoodIn wsX4_findTeams (wsV RX4 102 RX4 yX4_isWhole wsX4_isWhole) := goodIn_app (goodIn_of _ (by decide +kernel)) ggX4_findTeams_X4_isWhole
set_option maxRecDepth 20000 in
theorem ggX4_whole_X4_isSession : GoodIn wsX4_whole wsX4_isSession := goodIn_r _ [5, 6, 7, 4, 8] (by decide +kernel) (by decide +kernel)
set_option maxRecDepth 20000 in
theorem gX4_whole_X4_isSession : GoodIn wsX4_whole (va_wsS RX4 77 yX4_isSession wsX4_isSession) := goodIn_app (goodIn_of _ (by decide +kernel)) ggX4_whole_X4_isSession
set_option maxRecDepth 20000 in
theorem ggX4_whole_X4_findTeams : GoodIn wsX4_whole wsX4_findTeams := goodIn_r _ [12, 1, 13, 14, 15, 16, 17, 18, 19, 20, 21, 22, 23, 24, 25, 4, 26, 27, 28, 29, 30, 31, 32, 33, 34, 35, 36, 37, 38, 39, 40, 41, 42, 43, 44, 45, 46, 47, 48, 49, 50, 51, 52, 53, 54, 55, 56, 57, 58, 59, 60, 61, 62, 63, 64, 65, 66, 67, 68] (by decide +kernel) (by decide +kernel)
set_option maxRecDepth 20000 in
theorem gX4_whole_X4_findTeams : GoodIn wsX4_whole (wsV RX4 108 RX4 yX4_findTeams wsX4_findTeams) := goodIn_app (goodIn_of _ (by decide +kernel)) ggX4_whole_X4_findTeams
set_option maxRecDepth 20000 in
theorem ggX4_cheapest_X4_isSession : GoodIn wsX4_cheapest wsX4_isSession := goodIn_r _ [5, 6, 7, 4, 8] (by decide +kernel) (by decide +kernel)
set_option maxRecDepth 20000 in
theorem gX4_cheapest_X4_isSession : GoodIn wsX4_cheapest (va_wsS RX4 77 yX4_isSession wsX4_isSession) := goodIn_app (goodIn_of _ (by decide +kernel)) ggX4_cheapest_X4_isSession
set_option maxRecDepth 20000 in
theorem ggX4_cheapest_X4_findTeams : GoodIn wsX4_cheapest wsX4_findTeams := goodIn_r _ [12, 13, 1, 14, 15, 16, 17, 18, 19, 20, 21, 22, 23, 24, 25, 4, 26, 27, 28, 29, 30, 31, 32, 33, 34, 35, 36, 37, 38, 39, 40, 41, 42, 43, 44, 45, 46, 47, 48, 49, 50, 51, 52, 53, 54, 55, 56, 57, 58, 59, 60, 61, 62, 63, 64, 65, 66, 67, 68] (by decide +kernel) (by decide +kernel)
set_option maxRecDepth 20000 in
theorem gX4_cheapest_X4_findTeams : GoodIn wsX4_cheapest (wsV RX4 108 RX4 yX4_findTeams wsX4_findTeams) := goodIn_app (goodIn_of _ (by decide +kernel)) ggX4_cheapest_X4_findTeams
set_option maxRecDepth 20000 in
theorem ggX4_nearest_X4_isSession : GoodIn wsX4_nearest wsX4_isSession := goodIn_r _ [5, 6, 7, 4, 8] (by decide +kernel) (by decide +kernel)
set_option maxRecDepth 20000 in
theorem gX4_nearest_X4_isSession : GoodIn wsX4_nearest (va_wsS RX4 77 yX4_isSession wsX4_isSession) := goodIn_app (goodIn_of _ (by decide +kernel)) ggX4_nearest_X4_isSession
set_option maxRecDepth 20000 in
theorem ggX4_nearest_X4_findTeams : GoodIn wsX4_nearest wsX4_findTeams := goodIn_r _ [12, 13, 14, 1, 15, 16, 17, 18, 19, 20, 21, 22, 23, 24, 25, 4, 26, 27, 28, 29, 30, 31, 32, 33, 34, 35, 36, 37, 38, 39, 40, 41, 42, 43, 44, 45, 46, 47, 48, 49, 50, 51, 52, 53, 54, 55, 56, 57, 58, 59, 60, 61, 62, 63, 64, 65, 66, 67, 68] (by decide +kernel) (by decide +kernel)
set_option maxRecDepth 20000 in
theorem gX4_nearest_X4_findTeams : GoodIn wsX4_nearest (wsV RX4 108 RX4 yX4_findTeams wsX4_findTeams) := goodIn_app (goodIn_of _ (by decide +kernel)) ggX4_nearest_X4_findTeams
set_option maxRecDepth 20000 in
theorem ggX4_take_X4_isSession : GoodIn wsX4_take wsX4_isSession := goodIn_r _ [11, 12, 13, 10, 14] (by decide +kernel) (by decide +kernel)
set_option maxRecDepth 20000 in
theorem gX4_take_X4_isSession : GoodIn wsX4_take (va_wsS RX4 77 yX4_isSession wsX4_isSession) := goodIn_app (goodIn_of _ (by decide +kernel)) ggX4_take_X4_isSession
set_option maxRecDepth 20000 in
theorem ggX4_take_X4_in : GoodIn wsX4_take wsX4_in := goodIn_r _ [14] (by decide +kernel) (by decide +kernel)
set_option maxRecDepth 20000 in
theorem gX4_take_X4_in : GoodIn wsX4_take (va_wsS RX4 69 yX4_in wsX4_in) := goodIn_app (goodIn_of _ (by decide +kernel)) ggX4_take_X4_in
set_option maxRecDepth 20000 in
theorem ggX4_take_X4_findTeams : GoodIn wsX4_take wsX4_findTeams := goodIn_r _ [18, 1, 6, 19, 20, 2, 21, 22, 3, 7, 4, 5, 23, 24, 25, 10, 26, 27, 28, 29, 30, 31, 32, 33, 34, 35, 36, 37, 38, 39, 40, 41, 42, 43, 44, 45, 46, 47, 48, 49, 50, 51, 52, 53, 54, 55, 56, 57, 58, 59, 60, 61, 62, 63, 64, 65, 66, 67, 68] (by decide +kernel) (by decide +kernel)
set_option maxRecDepth 20000 in
theorem gX4_take_X4_findTeams : GoodIn wsX4_take (wsV RX4 108 RX4 yX4_findTeams wsX4_findTeams) := goodIn_app (goodIn_of _ (by decide +kernel)) ggX4_take_X4_findTeams
set_option maxRecDepth 20000 in
theorem ggX4_leave_X4_seated : GoodIn wsX4_leave wsX4_seated := goodIn_r _ [6, 7, 1, 8, 9, 10, 11, 12, 13, 14, 15, 16, 17, 18, 19, 20, 21, 22, 23, 24, 25, 26, 27, 28, 29, 30, 31, 32] (by decide +kernel) (by decide +kernel)
set_option maxRecDepth 20000 in
theorem gX4_leave_X4_seated : GoodIn wsX4_leave (wsV RX4 112 RX4 yX4_seated wsX4_seated) := goodIn_app (goodIn_of _ (by decide +kernel)) ggX4_leave_X4_seated
set_option maxRecDepth 20000 in
theorem ggX4_booth_X4_isPerson : GoodIn wsX4_booth wsX4_isPerson := goodIn_r _ [6, 7, 8, 9, 5, 10, 11, 12, 13, 14, 15, 16, 17, 18, 19, 20, 21, 22, 23, 24, 25, 26, 27, 28, 29, 30, 31, 32, 33, 34, 35] (by decide +kernel) (by decide +kernel)
set_option maxRecDepth 20000 in
theorem gX4_booth_X4_isPerson : GoodIn wsX4_booth (wsV RX4 73 RX4 yX4_isPerson wsX4_isPerson) := goodIn_app (goodIn_of _ (by decide +kernel)) ggX4_booth_X4_isPerson
set_option maxRecDepth 20000 in
theorem ggX4_lacking_X4_isSession : GoodIn wsX4_lacking wsX4_isSession := goodIn_r _ [9, 10, 11, 8, 12] (by decide +kernel) (by decide +kernel)
set_option maxRecDepth 20000 in
theorem gX4_lacking_X4_isSession : GoodIn wsX4_lacking (va_wsS RX4 77 yX4_isSession wsX4_isSession) := goodIn_app (goodIn_of _ (by decide +kernel)) ggX4_lacking_X4_isSession
set_option maxRecDepth 20000 in
theorem ggX4_lacking_X4_has : GoodIn wsX4_lacking wsX4_has := goodIn_r _ [15] (by decide +kernel) (by decide +kernel)
set_option maxRecDepth 20000 in
theorem gX4_lacking_X4_has : GoodIn wsX4_lacking (va_wsS RX4 80 yX4_has wsX4_has) := goodIn_app (goodIn_of _ (by decide +kernel)) ggX4_lacking_X4_has
set_option maxRecDepth 20000 in
theorem ggX4_needed_X4_isPerson : GoodIn wsX4_needed wsX4_isPerson := goodIn_r _ [7, 8, 9, 10, 6, 11, 48, 49, 50, 51, 52, 53, 54, 55, 56, 57, 58, 59, 60, 61, 62, 63, 64, 65, 66, 67, 68, 69, 70, 71, 72] (by decide +kernel) (by decide +kernel)
set_option maxRecDepth 20000 in
theorem gX4_needed_X4_isPerson : GoodIn wsX4_needed (wsV RX4 73 RX4 yX4_isPerson wsX4_isPerson) := goodIn_app (goodIn_of _ (by decide +kernel)) ggX4_needed_X4_isPerson
set_option maxRecDepth 20000 in
theorem ggX4_needed_X4_isSession : GoodIn wsX4_needed wsX4_isSession := goodIn_r _ [14, 9, 10, 6, 11] (by decide +kernel) (by decide +kernel)
set_option maxRecDepth 20000 in
theorem gX4_needed_X4_isSession : GoodIn wsX4_needed (va_wsS RX4 77 yX4_isSession wsX4_isSession) := goodIn_app (goodIn_of _ (by decide +kernel)) ggX4_needed_X4_isSession
set_option maxRecDepth 20000 in
theorem ggX4_needed_X4_findTeams : GoodIn wsX4_needed wsX4_findTeams := goodIn_r _ [18, 1, 19, 20, 2, 8, 21, 22, 23, 24, 25, 26, 27, 28, 29, 6, 30, 31, 32, 33, 34, 35, 36, 37, 38, 39, 40, 41, 42, 43, 44, 45, 46, 47, 48, 49, 50, 51, 52, 53, 54, 55, 56, 57, 58, 59, 60, 61, 62, 63, 64, 65, 66, 67, 68, 69, 70, 71, 72] (by decide +kernel) (by decide +kernel)
set_option maxRecDepth 20000 in
theorem gX4_needed_X4_findTeams : GoodIn wsX4_needed (wsV RX4 108 RX4 yX4_findTeams wsX4_findTeams) := goodIn_app (goodIn_of _ (by decide +kernel)) ggX4_needed_X4_findTeams
set_option maxRecDepth 20000 in
theorem ggX4_needed_X4_has : GoodIn wsX4_needed wsX4_has := goodIn_r _ [37] (by decide +kernel) (by decide +kernel)
set_option maxRecDepth 20000 in
theorem gX4_needed_X4_has : GoodIn wsX4_needed (va_wsS RX4 80 yX4_has wsX4_has) := goodIn_app (goodIn_of _ (by decide +kernel)) ggX4_needed_X4_has
set_option maxRecDepth 20000 in
theorem ggX4_speak_X4_isHalf : GoodIn wsX4_speak wsX4_isHalf := goodIn_r _ [6, 7, 8, 5, 9] (by decide +kernel) (by decide +kernel)
set_option maxRecDepth 20000 in
theorem gX4_speak_X4_isHalf : GoodIn wsX4_speak (va_wsS RX4 116 yX4_isHalf wsX4_isHalf) := goodIn_app (goodIn_of _ (by decide +kernel)) ggX4_speak_X4_isHalf
set_option maxRecDepth 20000 in
theorem ggX4_speak_X4_isTongue : GoodIn wsX4_speak wsX4_isTongue := goodIn_r _ [12, 7, 8, 5, 9] (by decide +kernel) (by decide +kernel)
set_option maxRecDepth 20000 in
theorem gX4_speak_X4_isTongue : GoodIn wsX4_speak (va_wsS RX4 119 yX4_isTongue wsX4_isTongue) := goodIn_app (goodIn_of _ (by decide +kernel)) ggX4_speak_X4_isTongue
end
section
set_option maxRecDepth 20000 in
theorem ggX4_speak_X4_in : GoodIn wsX4_speak wsX4_in := goodIn_r _ [9] (by decide +kernel) (by decide +kernel)
set_option maxRecDepth 20000 in
theorem gX4_speak_X4_in : GoodIn wsX4_speak (va_wsS RX4 69 yX4_in wsX4_in) := goodIn_app (goodIn_of _ (by decide +kernel)) ggX4_speak_X4_in
set_option maxRecDepth 20000 in
theorem ggX4_silence_X4_isHalf : GoodIn wsX4_silence wsX4_isHalf := goodIn_r _ [5, 6, 7, 4, 8] (by decide +kernel) (by decide +kernel)
set_option maxRecDepth 20000 in
theorem gX4_silence_X4_isHalf : GoodIn wsX4_silence (va_wsS RX4 116 yX4_isHalf wsX4_isHalf) := goodIn_app (goodIn_of _ (by decide +kernel)) ggX4_silence_X4_isHalf
set_option maxRecDepth 20000 in
theorem ggX4_limit_X4_in : GoodIn wsX4_limit wsX4_in := goodIn_r _ [5] (by decide +kernel) (by decide +kernel)
set_option maxRecDepth 20000 in
theorem gX4_limit_X4_in : GoodIn wsX4_limit (va_wsS RX4 69 yX4_in wsX4_in) := goodIn_app (goodIn_of _ (by decide +kernel)) ggX4_limit_X4_in
set_option maxRecDepth 20000 in
theorem ggX4_knowsIt_X4_has : GoodIn wsX4_knowsIt wsX4_has := goodIn_r _ [5] (by decide +kernel) (by decide +kernel)
set_option maxRecDepth 20000 in
theorem gX4_knowsIt_X4_has : GoodIn wsX4_knowsIt (va_wsS RX4 80 yX4_has wsX4_has) := goodIn_app (goodIn_of _ (by decide +kernel)) ggX4_knowsIt_X4_has
set_option maxRecDepth 20000 in
theorem ggX4_findOn_X4_knowsIt : GoodIn wsX4_findOn wsX4_knowsIt := goodIn_r _ [12, 7, 13, 14, 11, 15, 16, 17, 18, 19, 20, 21, 22, 23, 24, 25, 26, 27, 28, 29, 30, 31, 32, 33, 34, 35, 36, 37, 38, 39, 40] (by decide +kernel) (by decide +kernel)
set_option maxRecDepth 20000 in
theorem gX4_findOn_X4_knowsIt : GoodIn wsX4_findOn (wsV RX4 122 RX4 yX4_knowsIt wsX4_knowsIt) := goodIn_app (goodIn_of _ (by decide +kernel)) ggX4_findOn_X4_knowsIt
set_option maxRecDepth 20000 in
theorem ggX4_findOn_X4_has : GoodIn wsX4_findOn wsX4_has := goodIn_r _ [15] (by decide +kernel) (by decide +kernel)
set_option maxRecDepth 20000 in
theorem gX4_findOn_X4_has : GoodIn wsX4_findOn (va_wsS RX4 80 yX4_has wsX4_has) := goodIn_app (goodIn_of _ (by decide +kernel)) ggX4_findOn_X4_has
set_option maxRecDepth 20000 in
theorem ggX4_goTo_X4_findOn : GoodIn wsX4_goTo wsX4_findOn := goodIn_r _ [13, 5, 4, 14, 2, 15, 6, 16, 17, 18, 19, 12, 20, 21, 22, 23, 24, 25, 26, 27, 28, 29, 30, 31, 32, 33, 34, 35, 36, 37, 38, 39, 40, 41, 42, 43, 44, 45, 46, 47, 48] (by decide +kernel) (by decide +kernel)
set_option maxRecDepth 20000 in
theorem gX4_goTo_X4_findOn : GoodIn wsX4_goTo (wsV RX4 128 RX4 yX4_findOn wsX4_findOn) := goodIn_app (goodIn_of _ (by decide +kernel)) ggX4_goTo_X4_findOn
set_option maxRecDepth 20000 in
theorem ggX4_on_X4_isTongue : GoodIn wsX4_on wsX4_isTongue := goodIn_r _ [5, 6, 7, 4, 8] (by decide +kernel) (by decide +kernel)
set_option maxRecDepth 20000 in
theorem gX4_on_X4_isTongue : GoodIn wsX4_on (va_wsS RX4 119 yX4_isTongue wsX4_isTongue) := goodIn_app (goodIn_of _ (by decide +kernel)) ggX4_on_X4_isTongue
set_option maxRecDepth 20000 in
theorem ggX4_on_X4_isHalf : GoodIn wsX4_on wsX4_isHalf := goodIn_r _ [11, 6, 7, 4, 8] (by decide +kernel) (by decide +kernel)
set_option maxRecDepth 20000 in
theorem gX4_on_X4_isHalf : GoodIn wsX4_on (va_wsS RX4 116 yX4_isHalf wsX4_isHalf) := goodIn_app (goodIn_of _ (by decide +kernel)) ggX4_on_X4_isHalf
set_option maxRecDepth 20000 in
theorem ggX4_on_X4_goTo : GoodIn wsX4_on wsX4_goTo := goodIn_r _ [15, 16, 17, 18, 19, 1, 20, 21, 22, 23, 24, 25, 4, 26, 27, 28, 29, 30, 31, 32, 33, 34, 35, 36, 37, 38, 39, 40, 41, 42, 43, 44, 45, 46, 47, 48, 49, 50, 51, 52, 53, 54, 55, 56, 57, 58, 59, 60, 61] (by decide +kernel) (by decide +kernel)
set_option maxRecDepth 20000 in
theorem gX4_on_X4_goTo : GoodIn wsX4_on (wsV RX4 131 RX4 yX4_goTo wsX4_goTo) := goodIn_app (goodIn_of _ (by decide +kernel)) ggX4_on_X4_goTo
set_option maxRecDepth 20000 in
theorem ggX4_heard_X4_isTongue : GoodIn wsX4_heard wsX4_isTongue := goodIn_r _ [5, 6, 7, 4, 8] (by decide +kernel) (by decide +kernel)
set_option maxRecDepth 20000 in
theorem gX4_heard_X4_isTongue : GoodIn wsX4_heard (va_wsS RX4 119 yX4_isTongue wsX4_isTongue) := goodIn_app (goodIn_of _ (by decide +kernel)) ggX4_heard_X4_isTongue
set_option maxRecDepth 20000 in
theorem ggX4_heard_X4_isHalf : GoodIn wsX4_heard wsX4_isHalf := goodIn_r _ [11, 6, 7, 4, 8] (by decide +kernel) (by decide +kernel)
set_option maxRecDepth 20000 in
theorem gX4_heard_X4_isHalf : GoodIn wsX4_heard (va_wsS RX4 116 yX4_isHalf wsX4_isHalf) := goodIn_app (goodIn_of _ (by decide +kernel)) ggX4_heard_X4_isHalf
set_option maxRecDepth 20000 in
theorem ggX4_heard_X4_goTo : GoodIn wsX4_heard wsX4_goTo := goodIn_r _ [15, 16, 17, 18, 19, 20, 1, 21, 22, 23, 24, 25, 4, 26, 27, 28, 29, 30, 31, 32, 33, 34, 35, 36, 37, 38, 39, 40, 41, 42, 43, 44, 45, 46, 47, 48, 49, 50, 51, 52, 53, 54, 55, 56, 57, 58, 59, 60, 61] (by decide +kernel) (by decide +kernel)
set_option maxRecDepth 20000 in
theorem gX4_heard_X4_goTo : GoodIn wsX4_heard (wsV RX4 131 RX4 yX4_goTo wsX4_goTo) := goodIn_app (goodIn_of _ (by decide +kernel)) ggX4_heard_X4_goTo
set_option maxRecDepth 20000 in
theorem ggX4_tired_X4_isPerson : GoodIn wsX4_tired wsX4_isPerson := goodIn_r _ [6, 7, 8, 9, 5, 10, 38, 39, 40, 41, 42, 43, 44, 45, 46, 47, 48, 49, 50, 51, 52, 53, 54, 55, 56, 57, 58, 59, 60, 61, 62] (by decide +kernel) (by decide +kernel)
set_option maxRecDepth 20000 in
theorem gX4_tired_X4_isPerson : GoodIn wsX4_tired (wsV RX4 73 RX4 yX4_isPerson wsX4_isPerson) := goodIn_app (goodIn_of _ (by decide +kernel)) ggX4_tired_X4_isPerson
set_option maxRecDepth 20000 in
theorem ggX4_tired_X4_isHalf : GoodIn wsX4_tired wsX4_isHalf := goodIn_r _ [13, 8, 9, 5, 10] (by decide +kernel) (by decide +kernel)
set_option maxRecDepth 20000 in
theorem gX4_tired_X4_isHalf : GoodIn wsX4_tired (va_wsS RX4 116 yX4_isHalf wsX4_isHalf) := goodIn_app (goodIn_of _ (by decide +kernel)) ggX4_tired_X4_isHalf
set_option maxRecDepth 20000 in
theorem ggX4_tired_X4_goTo : GoodIn wsX4_tired wsX4_goTo := goodIn_r _ [17, 18, 1, 19, 7, 20, 21, 22, 23, 24, 25, 26, 5, 27, 28, 29, 30, 31, 32, 33, 34, 35, 36, 37, 38, 39, 40, 41, 42, 43, 44, 45, 46, 47, 48, 49, 50, 51, 52, 53, 54, 55, 56, 57, 58, 59, 60, 61, 62] (by decide +kernel) (by decide +kernel)
set_option maxRecDepth 20000 in
theorem gX4_tired_X4_goTo : GoodIn wsX4_tired (wsV RX4 131 RX4 yX4_goTo wsX4_goTo) := goodIn_app (goodIn_of _ (by decide +kernel)) ggX4_tired_X4_goTo
set_option maxRecDepth 20000 in
theorem ggX4_late_X4_isTongue : GoodIn wsX4_late wsX4_isTongue := goodIn_r _ [5, 6, 7, 4, 8] (by decide +kernel) (by decide +kernel)
set_option maxRecDepth 20000 in
theorem gX4_late_X4_isTongue : GoodIn wsX4_late (va_wsS RX4 119 yX4_isTongue wsX4_isTongue) := goodIn_app (goodIn_of _ (by decide +kernel)) ggX4_late_X4_isTongue
set_option maxRecDepth 20000 in
theorem ggX4_late_X4_goTo : GoodIn wsX4_late wsX4_goTo := goodIn_r _ [12, 13, 14, 1, 15, 16, 17, 18, 19, 20, 21, 22, 4, 23, 24, 25, 26, 27, 28, 29, 30, 31, 32, 33, 34, 35, 36, 37, 38, 39, 40, 41, 42, 43, 44, 45, 46, 47, 48, 49, 50, 51, 52, 53, 54, 55, 56, 57, 58] (by decide +kernel) (by decide +kernel)
set_option maxRecDepth 20000 in
theorem gX4_late_X4_goTo : GoodIn wsX4_late (wsV RX4 131 RX4 yX4_goTo wsX4_goTo) := goodIn_app (goodIn_of _ (by decide +kernel)) ggX4_late_X4_goTo
set_option maxRecDepth 20000 in
theorem ggX4_worn_X4_goTo : GoodIn wsX4_worn wsX4_goTo := goodIn_r _ [6, 1, 7, 8, 9, 10, 11, 12, 13, 14, 15, 16, 5, 17, 18, 19, 20, 21, 22, 23, 24, 25, 26, 27, 28, 29, 30, 31, 32, 33, 34, 35, 36, 37, 38, 39, 40, 41, 42, 43, 44, 45, 46, 47, 48, 49, 50, 51, 52] (by decide +kernel) (by decide +kernel)
set_option maxRecDepth 20000 in
theorem gX4_worn_X4_goTo : GoodIn wsX4_worn (wsV RX4 131 RX4 yX4_goTo wsX4_goTo) := goodIn_app (goodIn_of _ (by decide +kernel)) ggX4_worn_X4_goTo
set_option maxRecDepth 20000 in
theorem ggX4_count_X4_seated : GoodIn wsX4_count wsX4_seated := goodIn_r _ [9, 1, 10, 11, 12, 13, 14, 15, 16, 17, 18, 19, 20, 21, 22, 23, 24, 25, 26, 27, 28, 29, 30, 31, 32, 33, 34, 35] (by decide +kernel) (by decide +kernel)
set_option maxRecDepth 20000 in
theorem gX4_count_X4_seated : GoodIn wsX4_count (wsV RX4 112 RX4 yX4_seated wsX4_seated) := goodIn_app (goodIn_of _ (by decide +kernel)) ggX4_count_X4_seated
end
section
theorem dX0_init_0 : decode cX0_init 0 = .ok (.aload_n 0, 1) := by decide +kernel
theorem dX0_init_1 : decode cX0_init 1 = .ok (.invokespecial 3, 3) := by decide +kernel
theorem dX0_init_4 : decode cX0_init 4 = .ok (.aload_n 0, 1) := by decide +kernel
theorem dX0_init_5 : decode cX0_init 5 = .ok (.bipush 16, 2) := by decide +kernel
theorem dX0_init_7 : decode cX0_init 7 = .ok (.newarray .int, 2) := by decide +kernel
theorem dX0_init_9 : decode cX0_init 9 = .ok (.putfield 9, 3) := by decide +kernel
theorem dX0_init_12 : decode cX0_init 12 = .ok (.aload_n 0, 1) := by decide +kernel
theorem dX0_init_13 : decode cX0_init 13 = .ok (.bipush 16, 2) := by decide +kernel
theorem dX0_init_15 : decode cX0_init 15 = .ok (.newarray .int, 2) := by decide +kernel
theorem dX0_init_17 : decode cX0_init 17 = .ok (.putfield 15, 3) := by decide +kernel
theorem dX0_init_20 : decode cX0_init 20 = .ok (.aload_n 0, 1) := by decide +kernel
theorem dX0_init_21 : decode cX0_init 21 = .ok (.bipush 6, 2) := by decide +kernel
theorem dX0_init_23 : decode cX0_init 23 = .ok (.newarray .int, 2) := by decide +kernel
theorem dX0_init_25 : decode cX0_init 25 = .ok (.putfield 18, 3) := by decide +kernel
theorem dX0_init_28 : decode cX0_init 28 = .ok (.aload_n 0, 1) := by decide +kernel
theorem dX0_init_29 : decode cX0_init 29 = .ok (.iconst 5, 1) := by decide +kernel
theorem dX0_init_30 : decode cX0_init 30 = .ok (.newarray .int, 2) := by decide +kernel
theorem dX0_init_32 : decode cX0_init 32 = .ok (.putfield 21, 3) := by decide +kernel
theorem dX0_init_35 : decode cX0_init 35 = .ok (.aload_n 0, 1) := by decide +kernel
theorem dX0_init_36 : decode cX0_init 36 = .ok (.iconst 5, 1) := by decide +kernel
theorem dX0_init_37 : decode cX0_init 37 = .ok (.newarray .int, 2) := by decide +kernel
theorem dX0_init_39 : decode cX0_init 39 = .ok (.putfield 24, 3) := by decide +kernel
theorem dX0_init_42 : decode cX0_init 42 = .ok (.aload_n 0, 1) := by decide +kernel
theorem dX0_init_43 : decode cX0_init 43 = .ok (.aload_n 1, 1) := by decide +kernel
theorem dX0_init_44 : decode cX0_init 44 = .ok (.putfield 27, 3) := by decide +kernel
theorem dX0_init_47 : decode cX0_init 47 = .ok (.aload_n 0, 1) := by decide +kernel
theorem dX0_init_48 : decode cX0_init 48 = .ok (.getfield 9, 3) := by decide +kernel
theorem dX0_init_51 : decode cX0_init 51 = .ok (.iconst (-1), 1) := by decide +kernel
theorem dX0_init_52 : decode cX0_init 52 = .ok (.invokestatic 31, 3) := by decide +kernel
theorem dX0_init_55 : decode cX0_init 55 = .ok (.return_, 1) := by decide +kernel
theorem dX0_setSpoken_0 : decode cX0_setSpoken 0 = .ok (.iload_n 1, 1) := by decide +kernel
theorem dX0_setSpoken_1 : decode cX0_setSpoken 1 = .ok (.invokestatic 37, 3) := by decide +kernel
theorem dX0_setSpoken_4 : decode cX0_setSpoken 4 = .ok (.ifCond .eq 17, 3) := by decide +kernel
theorem dX0_setSpoken_7 : decode cX0_setSpoken 7 = .ok (.aload_n 0, 1) := by decide +kernel
theorem dX0_setSpoken_8 : decode cX0_setSpoken 8 = .ok (.getfield 9, 3) := by decide +kernel
theorem dX0_setSpoken_11 : decode cX0_setSpoken 11 = .ok (.iload_n 1, 1) := by decide +kernel
theorem dX0_setSpoken_12 : decode cX0_setSpoken 12 = .ok (.iload_n 2, 1) := by decide +kernel
theorem dX0_setSpoken_13 : decode cX0_setSpoken 13 = .ok (.iastore, 1) := by decide +kernel
theorem dX0_setSpoken_14 : decode cX0_setSpoken 14 = .ok (.aload_n 0, 1) := by decide +kernel
theorem dX0_setSpoken_15 : decode cX0_setSpoken 15 = .ok (.getfield 15, 3) := by decide +kernel
theorem dX0_setSpoken_18 : decode cX0_setSpoken 18 = .ok (.iload_n 1, 1) := by decide +kernel
theorem dX0_setSpoken_19 : decode cX0_setSpoken 19 = .ok (.iload_n 3, 1) := by decide +kernel
theorem dX0_setSpoken_20 : decode cX0_setSpoken 20 = .ok (.iastore, 1) := by decide +kernel
theorem dX0_setSpoken_21 : decode cX0_setSpoken 21 = .ok (.return_, 1) := by decide +kernel
theorem dX0_setSilent_0 : decode cX0_setSilent 0 = .ok (.aload_n 0, 1) := by decide +kernel
theorem dX0_setSilent_1 : decode cX0_setSilent 1 = .ok (.iload_n 1, 1) := by decide +kernel
theorem dX0_setSilent_2 : decode cX0_setSilent 2 = .ok (.iconst (-1), 1) := by decide +kernel
theorem dX0_setSilent_3 : decode cX0_setSilent 3 = .ok (.iconst 0, 1) := by decide +kernel
theorem dX0_setSilent_4 : decode cX0_setSilent 4 = .ok (.invokevirtual 41, 3) := by decide +kernel
theorem dX0_setSilent_7 : decode cX0_setSilent 7 = .ok (.return_, 1) := by decide +kernel
theorem dX0_isSilent_0 : decode cX0_isSilent 0 = .ok (.iload_n 1, 1) := by decide +kernel
theorem dX0_isSilent_1 : decode cX0_isSilent 1 = .ok (.invokestatic 37, 3) := by decide +kernel
theorem dX0_isSilent_4 : decode cX0_isSilent 4 = .ok (.ifCond .eq 13, 3) := by decide +kernel
theorem dX0_isSilent_7 : decode cX0_isSilent 7 = .ok (.aload_n 0, 1) := by decide +kernel
theorem dX0_isSilent_8 : decode cX0_isSilent 8 = .ok (.getfield 9, 3) := by decide +kernel
theorem dX0_isSilent_11 : decode cX0_isSilent 11 = .ok (.iload_n 1, 1) := by decide +kernel
theorem dX0_isSilent_12 : decode cX0_isSilent 12 = .ok (.iaload, 1) := by decide +kernel
theorem dX0_isSilent_13 : decode cX0_isSilent 13 = .ok (.iconst (-1), 1) := by decide +kernel
theorem dX0_isSilent_14 : decode cX0_isSilent 14 = .ok (.if_icmp .ne 7, 3) := by decide +kernel
theorem dX0_isSilent_17 : decode cX0_isSilent 17 = .ok (.iconst 1, 1) := by decide +kernel
theorem dX0_isSilent_18 : decode cX0_isSilent 18 = .ok (.goto 4, 3) := by decide +kernel
theorem dX0_isSilent_21 : decode cX0_isSilent 21 = .ok (.iconst 0, 1) := by decide +kernel
theorem dX0_isSilent_22 : decode cX0_isSilent 22 = .ok (.ireturn, 1) := by decide +kernel
theorem dX0_spokenHalves_0 : decode cX0_spokenHalves 0 = .ok (.iconst 0, 1) := by decide +kernel
theorem dX0_spokenHalves_1 : decode cX0_spokenHalves 1 = .ok (.istore_n 1, 1) := by decide +kernel
theorem dX0_spokenHalves_2 : decode cX0_spokenHalves 2 = .ok (.iconst 0, 1) := by decide +kernel
theorem dX0_spokenHalves_3 : decode cX0_spokenHalves 3 = .ok (.istore_n 2, 1) := by decide +kernel
theorem dX0_spokenHalves_4 : decode cX0_spokenHalves 4 = .ok (.iload_n 2, 1) := by decide +kernel
theorem dX0_spokenHalves_5 : decode cX0_spokenHalves 5 = .ok (.bipush 16, 2) := by decide +kernel
theorem dX0_spokenHalves_7 : decode cX0_spokenHalves 7 = .ok (.if_icmp .ge 20, 3) := by decide +kernel
theorem dX0_spokenHalves_10 : decode cX0_spokenHalves 10 = .ok (.aload_n 0, 1) := by decide +kernel
theorem dX0_spokenHalves_11 : decode cX0_spokenHalves 11 = .ok (.iload_n 2, 1) := by decide +kernel
theorem dX0_spokenHalves_12 : decode cX0_spokenHalves 12 = .ok (.invokevirtual 45, 3) := by decide +kernel
theorem dX0_spokenHalves_15 : decode cX0_spokenHalves 15 = .ok (.ifCond .ne 6, 3) := by decide +kernel
theorem dX0_spokenHalves_18 : decode cX0_spokenHalves 18 = .ok (.iinc 1 1, 3) := by decide +kernel
theorem dX0_spokenHalves_21 : decode cX0_spokenHalves 21 = .ok (.iinc 2 1, 3) := by decide +kernel
theorem dX0_spokenHalves_24 : decode cX0_spokenHalves 24 = .ok (.goto (-20), 3) := by decide +kernel
theorem dX0_spokenHalves_27 : decode cX0_spokenHalves 27 = .ok (.iload_n 1, 1) := by decide +kernel
theorem dX0_spokenHalves_28 : decode cX0_spokenHalves 28 = .ok (.ireturn, 1) := by decide +kernel
theorem dX0_playThrough_0 : decode cX0_playThrough 0 = .ok (.aload_n 0, 1) := by decide +kernel
theorem dX0_playThrough_1 : decode cX0_playThrough 1 = .ok (.getfield 18, 3) := by decide +kernel
theorem dX0_playThrough_4 : decode cX0_playThrough 4 = .ok (.iconst 0, 1) := by decide +kernel
theorem dX0_playThrough_5 : decode cX0_playThrough 5 = .ok (.invokestatic 31, 3) := by decide +kernel
theorem dX0_playThrough_8 : decode cX0_playThrough 8 = .ok (.iconst 0, 1) := by decide +kernel
theorem dX0_playThrough_9 : decode cX0_playThrough 9 = .ok (.istore_n 2, 1) := by decide +kernel
theorem dX0_playThrough_10 : decode cX0_playThrough 10 = .ok (.iload_n 2, 1) := by decide +kernel
theorem dX0_playThrough_11 : decode cX0_playThrough 11 = .ok (.bipush 16, 2) := by decide +kernel
theorem dX0_playThrough_13 : decode cX0_playThrough 13 = .ok (.if_icmp .ge 19, 3) := by decide +kernel
theorem dX0_playThrough_16 : decode cX0_playThrough 16 = .ok (.iload_n 2, 1) := by decide +kernel
theorem dX0_playThrough_17 : decode cX0_playThrough 17 = .ok (.iload_n 1, 1) := by decide +kernel
theorem dX0_playThrough_18 : decode cX0_playThrough 18 = .ok (.if_icmp .gt 14, 3) := by decide +kernel
theorem dX0_playThrough_21 : decode cX0_playThrough 21 = .ok (.aload_n 0, 1) := by decide +kernel
theorem dX0_playThrough_22 : decode cX0_playThrough 22 = .ok (.iload_n 2, 1) := by decide +kernel
theorem dX0_playThrough_23 : decode cX0_playThrough 23 = .ok (.invokevirtual 48, 3) := by decide +kernel
theorem dX0_playThrough_26 : decode cX0_playThrough 26 = .ok (.iinc 2 1, 3) := by decide +kernel
theorem dX0_playThrough_29 : decode cX0_playThrough 29 = .ok (.goto (-19), 3) := by decide +kernel
theorem dX0_playThrough_32 : decode cX0_playThrough 32 = .ok (.return_, 1) := by decide +kernel
theorem dX0_lateOverall_0 : decode cX0_lateOverall 0 = .ok (.iconst 0, 1) := by decide +kernel
theorem dX0_lateOverall_1 : decode cX0_lateOverall 1 = .ok (.istore_n 2, 1) := by decide +kernel
theorem dX0_lateOverall_2 : decode cX0_lateOverall 2 = .ok (.aload_n 0, 1) := by decide +kernel
theorem dX0_lateOverall_3 : decode cX0_lateOverall 3 = .ok (.getfield 18, 3) := by decide +kernel
theorem dX0_lateOverall_6 : decode cX0_lateOverall 6 = .ok (.iconst 0, 1) := by decide +kernel
theorem dX0_lateOverall_7 : decode cX0_lateOverall 7 = .ok (.invokestatic 31, 3) := by decide +kernel
theorem dX0_lateOverall_10 : decode cX0_lateOverall 10 = .ok (.iconst 0, 1) := by decide +kernel
theorem dX0_lateOverall_11 : decode cX0_lateOverall 11 = .ok (.istore_n 3, 1) := by decide +kernel
theorem dX0_lateOverall_12 : decode cX0_lateOverall 12 = .ok (.iload_n 3, 1) := by decide +kernel
theorem dX0_lateOverall_13 : decode cX0_lateOverall 13 = .ok (.bipush 16, 2) := by decide +kernel
theorem dX0_lateOverall_15 : decode cX0_lateOverall 15 = .ok (.if_icmp .ge 23, 3) := by decide +kernel
theorem dX0_lateOverall_18 : decode cX0_lateOverall 18 = .ok (.aload_n 0, 1) := by decide +kernel
theorem dX0_lateOverall_19 : decode cX0_lateOverall 19 = .ok (.iload_n 3, 1) := by decide +kernel
theorem dX0_lateOverall_20 : decode cX0_lateOverall 20 = .ok (.invokevirtual 48, 3) := by decide +kernel
theorem dX0_lateOverall_23 : decode cX0_lateOverall 23 = .ok (.iload_n 2, 1) := by decide +kernel
theorem dX0_lateOverall_24 : decode cX0_lateOverall 24 = .ok (.aload_n 0, 1) := by decide +kernel
theorem dX0_lateOverall_25 : decode cX0_lateOverall 25 = .ok (.iload_n 3, 1) := by decide +kernel
theorem dX0_lateOverall_26 : decode cX0_lateOverall 26 = .ok (.iload_n 1, 1) := by decide +kernel
theorem dX0_lateOverall_27 : decode cX0_lateOverall 27 = .ok (.invokevirtual 52, 3) := by decide +kernel
theorem dX0_lateOverall_30 : decode cX0_lateOverall 30 = .ok (.iadd, 1) := by decide +kernel
theorem dX0_lateOverall_31 : decode cX0_lateOverall 31 = .ok (.istore_n 2, 1) := by decide +kernel
theorem dX0_lateOverall_32 : decode cX0_lateOverall 32 = .ok (.iinc 3 1, 3) := by decide +kernel
theorem dX0_lateOverall_35 : decode cX0_lateOverall 35 = .ok (.goto (-23), 3) := by decide +kernel
theorem dX0_lateOverall_38 : decode cX0_lateOverall 38 = .ok (.iload_n 2, 1) := by decide +kernel
theorem dX0_lateOverall_39 : decode cX0_lateOverall 39 = .ok (.ireturn, 1) := by decide +kernel
theorem dX0_wornBits_0 : decode cX0_wornBits 0 = .ok (.iconst 0, 1) := by decide +kernel
theorem dX0_wornBits_1 : decode cX0_wornBits 1 = .ok (.istore_n 2, 1) := by decide +kernel
theorem dX0_wornBits_2 : decode cX0_wornBits 2 = .ok (.aload_n 0, 1) := by decide +kernel
theorem dX0_wornBits_3 : decode cX0_wornBits 3 = .ok (.getfield 18, 3) := by decide +kernel
theorem dX0_wornBits_6 : decode cX0_wornBits 6 = .ok (.iconst 0, 1) := by decide +kernel
theorem dX0_wornBits_7 : decode cX0_wornBits 7 = .ok (.invokestatic 31, 3) := by decide +kernel
theorem dX0_wornBits_10 : decode cX0_wornBits 10 = .ok (.iconst 0, 1) := by decide +kernel
theorem dX0_wornBits_11 : decode cX0_wornBits 11 = .ok (.istore_n 3, 1) := by decide +kernel
theorem dX0_wornBits_12 : decode cX0_wornBits 12 = .ok (.iload_n 3, 1) := by decide +kernel
theorem dX0_wornBits_13 : decode cX0_wornBits 13 = .ok (.bipush 16, 2) := by decide +kernel
theorem dX0_wornBits_15 : decode cX0_wornBits 15 = .ok (.if_icmp .ge 22, 3) := by decide +kernel
theorem dX0_wornBits_18 : decode cX0_wornBits 18 = .ok (.aload_n 0, 1) := by decide +kernel
theorem dX0_wornBits_19 : decode cX0_wornBits 19 = .ok (.iload_n 3, 1) := by decide +kernel
theorem dX0_wornBits_20 : decode cX0_wornBits 20 = .ok (.invokevirtual 48, 3) := by decide +kernel
theorem dX0_wornBits_23 : decode cX0_wornBits 23 = .ok (.iload_n 2, 1) := by decide +kernel
theorem dX0_wornBits_24 : decode cX0_wornBits 24 = .ok (.aload_n 0, 1) := by decide +kernel
theorem dX0_wornBits_25 : decode cX0_wornBits 25 = .ok (.iload_n 1, 1) := by decide +kernel
theorem dX0_wornBits_26 : decode cX0_wornBits 26 = .ok (.invokevirtual 56, 3) := by decide +kernel
theorem dX0_wornBits_29 : decode cX0_wornBits 29 = .ok (.ior, 1) := by decide +kernel
theorem dX0_wornBits_30 : decode cX0_wornBits 30 = .ok (.istore_n 2, 1) := by decide +kernel
theorem dX0_wornBits_31 : decode cX0_wornBits 31 = .ok (.iinc 3 1, 3) := by decide +kernel
theorem dX0_wornBits_34 : decode cX0_wornBits 34 = .ok (.goto (-22), 3) := by decide +kernel
theorem dX0_wornBits_37 : decode cX0_wornBits 37 = .ok (.iload_n 2, 1) := by decide +kernel
theorem dX0_wornBits_38 : decode cX0_wornBits 38 = .ok (.ireturn, 1) := by decide +kernel
theorem dX0_playHalf_0 : decode cX0_playHalf 0 = .ok (.iload_n 1, 1) := by decide +kernel
theorem dX0_playHalf_1 : decode cX0_playHalf 1 = .ok (.invokestatic 37, 3) := by decide +kernel
theorem dX0_playHalf_4 : decode cX0_playHalf 4 = .ok (.ifCond .ne 4, 3) := by decide +kernel
theorem dX0_playHalf_7 : decode cX0_playHalf 7 = .ok (.return_, 1) := by decide +kernel
theorem dX0_playHalf_8 : decode cX0_playHalf 8 = .ok (.aload_n 0, 1) := by decide +kernel
theorem dX0_playHalf_9 : decode cX0_playHalf 9 = .ok (.invokevirtual 60, 3) := by decide +kernel
theorem dX0_playHalf_12 : decode cX0_playHalf 12 = .ok (.iconst 0, 1) := by decide +kernel
theorem dX0_playHalf_13 : decode cX0_playHalf 13 = .ok (.istore_n 2, 1) := by decide +kernel
theorem dX0_playHalf_14 : decode cX0_playHalf 14 = .ok (.iload_n 2, 1) := by decide +kernel
theorem dX0_playHalf_15 : decode cX0_playHalf 15 = .ok (.iconst 5, 1) := by decide +kernel
theorem dX0_playHalf_16 : decode cX0_playHalf 16 = .ok (.if_icmp .ge 26, 3) := by decide +kernel
theorem dX0_playHalf_19 : decode cX0_playHalf 19 = .ok (.aload_n 0, 1) := by decide +kernel
theorem dX0_playHalf_20 : decode cX0_playHalf 20 = .ok (.getfield 24, 3) := by decide +kernel
theorem dX0_playHalf_23 : decode cX0_playHalf 23 = .ok (.iload_n 2, 1) := by decide +kernel
theorem dX0_playHalf_24 : decode cX0_playHalf 24 = .ok (.aload_n 0, 1) := by decide +kernel
theorem dX0_playHalf_25 : decode cX0_playHalf 25 = .ok (.aload_n 0, 1) := by decide +kernel
theorem dX0_playHalf_26 : decode cX0_playHalf 26 = .ok (.getfield 9, 3) := by decide +kernel
theorem dX0_playHalf_29 : decode cX0_playHalf 29 = .ok (.iload_n 1, 1) := by decide +kernel
theorem dX0_playHalf_30 : decode cX0_playHalf 30 = .ok (.iaload, 1) := by decide +kernel
theorem dX0_playHalf_31 : decode cX0_playHalf 31 = .ok (.iload_n 2, 1) := by decide +kernel
theorem dX0_playHalf_32 : decode cX0_playHalf 32 = .ok (.invokevirtual 63, 3) := by decide +kernel
theorem dX0_playHalf_35 : decode cX0_playHalf 35 = .ok (.iastore, 1) := by decide +kernel
theorem dX0_playHalf_36 : decode cX0_playHalf 36 = .ok (.iinc 2 1, 3) := by decide +kernel
theorem dX0_playHalf_39 : decode cX0_playHalf 39 = .ok (.goto (-25), 3) := by decide +kernel
theorem dX0_playHalf_42 : decode cX0_playHalf 42 = .ok (.aload_n 0, 1) := by decide +kernel
theorem dX0_playHalf_43 : decode cX0_playHalf 43 = .ok (.aload_n 0, 1) := by decide +kernel
theorem dX0_playHalf_44 : decode cX0_playHalf 44 = .ok (.getfield 15, 3) := by decide +kernel
theorem dX0_playHalf_47 : decode cX0_playHalf 47 = .ok (.iload_n 1, 1) := by decide +kernel
theorem dX0_playHalf_48 : decode cX0_playHalf 48 = .ok (.iaload, 1) := by decide +kernel
theorem dX0_playHalf_49 : decode cX0_playHalf 49 = .ok (.invokevirtual 66, 3) := by decide +kernel
theorem dX0_playHalf_52 : decode cX0_playHalf 52 = .ok (.return_, 1) := by decide +kernel
theorem dX0_chooseOn_0 : decode cX0_chooseOn 0 = .ok (.aload_n 0, 1) := by decide +kernel
theorem dX0_chooseOn_1 : decode cX0_chooseOn 1 = .ok (.getfield 21, 3) := by decide +kernel
theorem dX0_chooseOn_4 : decode cX0_chooseOn 4 = .ok (.iconst (-1), 1) := by decide +kernel
theorem dX0_chooseOn_5 : decode cX0_chooseOn 5 = .ok (.invokestatic 31, 3) := by decide +kernel
theorem dX0_chooseOn_8 : decode cX0_chooseOn 8 = .ok (.iconst 0, 1) := by decide +kernel
theorem dX0_chooseOn_9 : decode cX0_chooseOn 9 = .ok (.istore_n 1, 1) := by decide +kernel
theorem dX0_chooseOn_10 : decode cX0_chooseOn 10 = .ok (.iload_n 1, 1) := by decide +kernel
theorem dX0_chooseOn_11 : decode cX0_chooseOn 11 = .ok (.aload_n 0, 1) := by decide +kernel
theorem dX0_chooseOn_12 : decode cX0_chooseOn 12 = .ok (.getfield 27, 3) := by decide +kernel
theorem dX0_chooseOn_15 : decode cX0_chooseOn 15 = .ok (.getfield 69, 3) := by decide +kernel
theorem dX0_chooseOn_18 : decode cX0_chooseOn 18 = .ok (.if_icmp .ge 46, 3) := by decide +kernel
theorem dX0_chooseOn_21 : decode cX0_chooseOn 21 = .ok (.aload_n 0, 1) := by decide +kernel
theorem dX0_chooseOn_22 : decode cX0_chooseOn 22 = .ok (.getfield 27, 3) := by decide +kernel
theorem dX0_chooseOn_25 : decode cX0_chooseOn 25 = .ok (.iload_n 1, 1) := by decide +kernel
theorem dX0_chooseOn_26 : decode cX0_chooseOn 26 = .ok (.invokevirtual 75, 3) := by decide +kernel
theorem dX0_chooseOn_29 : decode cX0_chooseOn 29 = .ok (.istore_n 2, 1) := by decide +kernel
theorem dX0_chooseOn_30 : decode cX0_chooseOn 30 = .ok (.iload_n 2, 1) := by decide +kernel
theorem dX0_chooseOn_31 : decode cX0_chooseOn 31 = .ok (.invokestatic 78, 3) := by decide +kernel
theorem dX0_chooseOn_34 : decode cX0_chooseOn 34 = .ok (.ifCond .eq 24, 3) := by decide +kernel
theorem dX0_chooseOn_37 : decode cX0_chooseOn 37 = .ok (.aload_n 0, 1) := by decide +kernel
theorem dX0_chooseOn_38 : decode cX0_chooseOn 38 = .ok (.iload_n 1, 1) := by decide +kernel
theorem dX0_chooseOn_39 : decode cX0_chooseOn 39 = .ok (.aload_n 0, 1) := by decide +kernel
theorem dX0_chooseOn_40 : decode cX0_chooseOn 40 = .ok (.getfield 21, 3) := by decide +kernel
theorem dX0_chooseOn_43 : decode cX0_chooseOn 43 = .ok (.iload_n 2, 1) := by decide +kernel
theorem dX0_chooseOn_44 : decode cX0_chooseOn 44 = .ok (.iaload, 1) := by decide +kernel
theorem dX0_chooseOn_45 : decode cX0_chooseOn 45 = .ok (.invokevirtual 81, 3) := by decide +kernel
theorem dX0_chooseOn_48 : decode cX0_chooseOn 48 = .ok (.ifCond .eq 10, 3) := by decide +kernel
theorem dX0_chooseOn_51 : decode cX0_chooseOn 51 = .ok (.aload_n 0, 1) := by decide +kernel
theorem dX0_chooseOn_52 : decode cX0_chooseOn 52 = .ok (.getfield 21, 3) := by decide +kernel
theorem dX0_chooseOn_55 : decode cX0_chooseOn 55 = .ok (.iload_n 2, 1) := by decide +kernel
theorem dX0_chooseOn_56 : decode cX0_chooseOn 56 = .ok (.iload_n 1, 1) := by decide +kernel
theorem dX0_chooseOn_57 : decode cX0_chooseOn 57 = .ok (.iastore, 1) := by decide +kernel
theorem dX0_chooseOn_58 : decode cX0_chooseOn 58 = .ok (.iinc 1 1, 3) := by decide +kernel
theorem dX0_chooseOn_61 : decode cX0_chooseOn 61 = .ok (.goto (-51), 3) := by decide +kernel
theorem dX0_chooseOn_64 : decode cX0_chooseOn 64 = .ok (.return_, 1) := by decide +kernel
theorem dX0_isFresher_0 : decode cX0_isFresher 0 = .ok (.aload_n 0, 1) := by decide +kernel
theorem dX0_isFresher_1 : decode cX0_isFresher 1 = .ok (.getfield 27, 3) := by decide +kernel
theorem dX0_isFresher_4 : decode cX0_isFresher 4 = .ok (.iload_n 2, 1) := by decide +kernel
theorem dX0_isFresher_5 : decode cX0_isFresher 5 = .ok (.invokevirtual 85, 3) := by decide +kernel
theorem dX0_isFresher_8 : decode cX0_isFresher 8 = .ok (.ifCond .eq 18, 3) := by decide +kernel
theorem dX0_isFresher_11 : decode cX0_isFresher 11 = .ok (.aload_n 0, 1) := by decide +kernel
theorem dX0_isFresher_12 : decode cX0_isFresher 12 = .ok (.getfield 18, 3) := by decide +kernel
theorem dX0_isFresher_15 : decode cX0_isFresher 15 = .ok (.iload_n 1, 1) := by decide +kernel
theorem dX0_isFresher_16 : decode cX0_isFresher 16 = .ok (.iaload, 1) := by decide +kernel
theorem dX0_isFresher_17 : decode cX0_isFresher 17 = .ok (.aload_n 0, 1) := by decide +kernel
theorem dX0_isFresher_18 : decode cX0_isFresher 18 = .ok (.getfield 18, 3) := by decide +kernel
theorem dX0_isFresher_21 : decode cX0_isFresher 21 = .ok (.iload_n 2, 1) := by decide +kernel
theorem dX0_isFresher_22 : decode cX0_isFresher 22 = .ok (.iaload, 1) := by decide +kernel
theorem dX0_isFresher_23 : decode cX0_isFresher 23 = .ok (.if_icmp .ge 7, 3) := by decide +kernel
theorem dX0_isFresher_26 : decode cX0_isFresher 26 = .ok (.iconst 1, 1) := by decide +kernel
theorem dX0_isFresher_27 : decode cX0_isFresher 27 = .ok (.goto 4, 3) := by decide +kernel
theorem dX0_isFresher_30 : decode cX0_isFresher 30 = .ok (.iconst 0, 1) := by decide +kernel
theorem dX0_isFresher_31 : decode cX0_isFresher 31 = .ok (.ireturn, 1) := by decide +kernel
theorem dX0_wayFrom_0 : decode cX0_wayFrom 0 = .ok (.iload_n 1, 1) := by decide +kernel
theorem dX0_wayFrom_1 : decode cX0_wayFrom 1 = .ok (.iconst (-1), 1) := by decide +kernel
theorem dX0_wayFrom_2 : decode cX0_wayFrom 2 = .ok (.if_icmp .eq 18, 3) := by decide +kernel
theorem dX0_wayFrom_5 : decode cX0_wayFrom 5 = .ok (.iload_n 1, 1) := by decide +kernel
theorem dX0_wayFrom_6 : decode cX0_wayFrom 6 = .ok (.iload_n 2, 1) := by decide +kernel
theorem dX0_wayFrom_7 : decode cX0_wayFrom 7 = .ok (.if_icmp .eq 13, 3) := by decide +kernel
theorem dX0_wayFrom_10 : decode cX0_wayFrom 10 = .ok (.aload_n 0, 1) := by decide +kernel
theorem dX0_wayFrom_11 : decode cX0_wayFrom 11 = .ok (.getfield 21, 3) := by decide +kernel
theorem dX0_wayFrom_14 : decode cX0_wayFrom 14 = .ok (.iload_n 2, 1) := by decide +kernel
theorem dX0_wayFrom_15 : decode cX0_wayFrom 15 = .ok (.iaload, 1) := by decide +kernel
theorem dX0_wayFrom_16 : decode cX0_wayFrom 16 = .ok (.iconst (-1), 1) := by decide +kernel
theorem dX0_wayFrom_17 : decode cX0_wayFrom 17 = .ok (.if_icmp .ne 5, 3) := by decide +kernel
theorem dX0_wayFrom_20 : decode cX0_wayFrom 20 = .ok (.iconst (-1), 1) := by decide +kernel
theorem dX0_wayFrom_21 : decode cX0_wayFrom 21 = .ok (.ireturn, 1) := by decide +kernel
theorem dX0_wayFrom_22 : decode cX0_wayFrom 22 = .ok (.aload_n 0, 1) := by decide +kernel
theorem dX0_wayFrom_23 : decode cX0_wayFrom 23 = .ok (.getfield 27, 3) := by decide +kernel
theorem dX0_wayFrom_26 : decode cX0_wayFrom 26 = .ok (.aload_n 0, 1) := by decide +kernel
theorem dX0_wayFrom_27 : decode cX0_wayFrom 27 = .ok (.getfield 21, 3) := by decide +kernel
theorem dX0_wayFrom_30 : decode cX0_wayFrom 30 = .ok (.iload_n 2, 1) := by decide +kernel
theorem dX0_wayFrom_31 : decode cX0_wayFrom 31 = .ok (.iaload, 1) := by decide +kernel
theorem dX0_wayFrom_32 : decode cX0_wayFrom 32 = .ok (.invokevirtual 88, 3) := by decide +kernel
theorem dX0_wayFrom_35 : decode cX0_wayFrom 35 = .ok (.istore_n 3, 1) := by decide +kernel
theorem dX0_wayFrom_36 : decode cX0_wayFrom 36 = .ok (.iload_n 3, 1) := by decide +kernel
theorem dX0_wayFrom_37 : decode cX0_wayFrom 37 = .ok (.iload_n 1, 1) := by decide +kernel
theorem dX0_wayFrom_38 : decode cX0_wayFrom 38 = .ok (.invokestatic 91, 3) := by decide +kernel
theorem dX0_wayFrom_41 : decode cX0_wayFrom 41 = .ok (.ifCond .eq 5, 3) := by decide +kernel
theorem dX0_wayFrom_44 : decode cX0_wayFrom 44 = .ok (.iload_n 2, 1) := by decide +kernel
theorem dX0_wayFrom_45 : decode cX0_wayFrom 45 = .ok (.ireturn, 1) := by decide +kernel
theorem dX0_wayFrom_46 : decode cX0_wayFrom 46 = .ok (.iconst 0, 1) := by decide +kernel
theorem dX0_wayFrom_47 : decode cX0_wayFrom 47 = .ok (.istore 4, 2) := by decide +kernel
theorem dX0_wayFrom_49 : decode cX0_wayFrom 49 = .ok (.iload 4, 2) := by decide +kernel
theorem dX0_wayFrom_51 : decode cX0_wayFrom 51 = .ok (.iconst 5, 1) := by decide +kernel
theorem dX0_wayFrom_52 : decode cX0_wayFrom 52 = .ok (.if_icmp .ge 54, 3) := by decide +kernel
theorem dX0_wayFrom_55 : decode cX0_wayFrom 55 = .ok (.iload 4, 2) := by decide +kernel
theorem dX0_wayFrom_57 : decode cX0_wayFrom 57 = .ok (.iload_n 1, 1) := by decide +kernel
theorem dX0_wayFrom_58 : decode cX0_wayFrom 58 = .ok (.if_icmp .eq 42, 3) := by decide +kernel
theorem dX0_wayFrom_61 : decode cX0_wayFrom 61 = .ok (.iload 4, 2) := by decide +kernel
theorem dX0_wayFrom_63 : decode cX0_wayFrom 63 = .ok (.iload_n 2, 1) := by decide +kernel
theorem dX0_wayFrom_64 : decode cX0_wayFrom 64 = .ok (.if_icmp .eq 36, 3) := by decide +kernel
theorem dX0_wayFrom_67 : decode cX0_wayFrom 67 = .ok (.iload_n 3, 1) := by decide +kernel
theorem dX0_wayFrom_68 : decode cX0_wayFrom 68 = .ok (.iload 4, 2) := by decide +kernel
theorem dX0_wayFrom_70 : decode cX0_wayFrom 70 = .ok (.invokestatic 91, 3) := by decide +kernel
theorem dX0_wayFrom_73 : decode cX0_wayFrom 73 = .ok (.ifCond .eq 27, 3) := by decide +kernel
theorem dX0_wayFrom_76 : decode cX0_wayFrom 76 = .ok (.aload_n 0, 1) := by decide +kernel
theorem dX0_wayFrom_77 : decode cX0_wayFrom 77 = .ok (.getfield 27, 3) := by decide +kernel
theorem dX0_wayFrom_80 : decode cX0_wayFrom 80 = .ok (.aload_n 0, 1) := by decide +kernel
theorem dX0_wayFrom_81 : decode cX0_wayFrom 81 = .ok (.getfield 21, 3) := by decide +kernel
theorem dX0_wayFrom_84 : decode cX0_wayFrom 84 = .ok (.iload 4, 2) := by decide +kernel
theorem dX0_wayFrom_86 : decode cX0_wayFrom 86 = .ok (.iaload, 1) := by decide +kernel
theorem dX0_wayFrom_87 : decode cX0_wayFrom 87 = .ok (.invokevirtual 88, 3) := by decide +kernel
theorem dX0_wayFrom_90 : decode cX0_wayFrom 90 = .ok (.iload_n 1, 1) := by decide +kernel
theorem dX0_wayFrom_91 : decode cX0_wayFrom 91 = .ok (.invokestatic 91, 3) := by decide +kernel
theorem dX0_wayFrom_94 : decode cX0_wayFrom 94 = .ok (.ifCond .eq 6, 3) := by decide +kernel
theorem dX0_wayFrom_97 : decode cX0_wayFrom 97 = .ok (.iload 4, 2) := by decide +kernel
theorem dX0_wayFrom_99 : decode cX0_wayFrom 99 = .ok (.ireturn, 1) := by decide +kernel
theorem dX0_wayFrom_100 : decode cX0_wayFrom 100 = .ok (.iinc 4 1, 3) := by decide +kernel
theorem dX0_wayFrom_103 : decode cX0_wayFrom 103 = .ok (.goto (-54), 3) := by decide +kernel
theorem dX0_wayFrom_106 : decode cX0_wayFrom 106 = .ok (.iconst (-1), 1) := by decide +kernel
theorem dX0_wayFrom_107 : decode cX0_wayFrom 107 = .ok (.ireturn, 1) := by decide +kernel
theorem dX0_tire_0 : decode cX0_tire 0 = .ok (.iconst 0, 1) := by decide +kernel
theorem dX0_tire_1 : decode cX0_tire 1 = .ok (.istore_n 2, 1) := by decide +kernel
theorem dX0_tire_2 : decode cX0_tire 2 = .ok (.iload_n 2, 1) := by decide +kernel
theorem dX0_tire_3 : decode cX0_tire 3 = .ok (.aload_n 0, 1) := by decide +kernel
theorem dX0_tire_4 : decode cX0_tire 4 = .ok (.getfield 27, 3) := by decide +kernel
theorem dX0_tire_7 : decode cX0_tire 7 = .ok (.getfield 69, 3) := by decide +kernel
theorem dX0_tire_10 : decode cX0_tire 10 = .ok (.if_icmp .ge 48, 3) := by decide +kernel
theorem dX0_tire_13 : decode cX0_tire 13 = .ok (.aload_n 0, 1) := by decide +kernel
theorem dX0_tire_14 : decode cX0_tire 14 = .ok (.iload_n 2, 1) := by decide +kernel
theorem dX0_tire_15 : decode cX0_tire 15 = .ok (.invokevirtual 94, 3) := by decide +kernel
theorem dX0_tire_18 : decode cX0_tire 18 = .ok (.ifCond .eq 16, 3) := by decide +kernel
theorem dX0_tire_21 : decode cX0_tire 21 = .ok (.aload_n 0, 1) := by decide +kernel
theorem dX0_tire_22 : decode cX0_tire 22 = .ok (.getfield 18, 3) := by decide +kernel
theorem dX0_tire_25 : decode cX0_tire 25 = .ok (.iload_n 2, 1) := by decide +kernel
theorem dX0_tire_26 : decode cX0_tire 26 = .ok (.dup2, 1) := by decide +kernel
theorem dX0_tire_27 : decode cX0_tire 27 = .ok (.iaload, 1) := by decide +kernel
theorem dX0_tire_28 : decode cX0_tire 28 = .ok (.iload_n 1, 1) := by decide +kernel
theorem dX0_tire_29 : decode cX0_tire 29 = .ok (.iadd, 1) := by decide +kernel
theorem dX0_tire_30 : decode cX0_tire 30 = .ok (.iastore, 1) := by decide +kernel
theorem dX0_tire_31 : decode cX0_tire 31 = .ok (.goto 21, 3) := by decide +kernel
theorem dX0_tire_34 : decode cX0_tire 34 = .ok (.aload_n 0, 1) := by decide +kernel
theorem dX0_tire_35 : decode cX0_tire 35 = .ok (.getfield 18, 3) := by decide +kernel
theorem dX0_tire_38 : decode cX0_tire 38 = .ok (.iload_n 2, 1) := by decide +kernel
theorem dX0_tire_39 : decode cX0_tire 39 = .ok (.iconst 0, 1) := by decide +kernel
theorem dX0_tire_40 : decode cX0_tire 40 = .ok (.aload_n 0, 1) := by decide +kernel
theorem dX0_tire_41 : decode cX0_tire 41 = .ok (.getfield 18, 3) := by decide +kernel
theorem dX0_tire_44 : decode cX0_tire 44 = .ok (.iload_n 2, 1) := by decide +kernel
theorem dX0_tire_45 : decode cX0_tire 45 = .ok (.iaload, 1) := by decide +kernel
theorem dX0_tire_46 : decode cX0_tire 46 = .ok (.iconst 2, 1) := by decide +kernel
theorem dX0_tire_47 : decode cX0_tire 47 = .ok (.isub, 1) := by decide +kernel
theorem dX0_tire_48 : decode cX0_tire 48 = .ok (.invokestatic 97, 3) := by decide +kernel
theorem dX0_tire_51 : decode cX0_tire 51 = .ok (.iastore, 1) := by decide +kernel
theorem dX0_tire_52 : decode cX0_tire 52 = .ok (.iinc 2 1, 3) := by decide +kernel
theorem dX0_tire_55 : decode cX0_tire 55 = .ok (.goto (-53), 3) := by decide +kernel
theorem dX0_tire_58 : decode cX0_tire 58 = .ok (.return_, 1) := by decide +kernel
theorem dX0_isTurning_0 : decode cX0_isTurning 0 = .ok (.aload_n 0, 1) := by decide +kernel
theorem dX0_isTurning_1 : decode cX0_isTurning 1 = .ok (.getfield 27, 3) := by decide +kernel
theorem dX0_isTurning_4 : decode cX0_isTurning 4 = .ok (.iload_n 1, 1) := by decide +kernel
theorem dX0_isTurning_5 : decode cX0_isTurning 5 = .ok (.invokevirtual 75, 3) := by decide +kernel
theorem dX0_isTurning_8 : decode cX0_isTurning 8 = .ok (.istore_n 2, 1) := by decide +kernel
theorem dX0_isTurning_9 : decode cX0_isTurning 9 = .ok (.iload_n 2, 1) := by decide +kernel
theorem dX0_isTurning_10 : decode cX0_isTurning 10 = .ok (.invokestatic 78, 3) := by decide +kernel
theorem dX0_isTurning_13 : decode cX0_isTurning 13 = .ok (.ifCond .eq 27, 3) := by decide +kernel
theorem dX0_isTurning_16 : decode cX0_isTurning 16 = .ok (.aload_n 0, 1) := by decide +kernel
theorem dX0_isTurning_17 : decode cX0_isTurning 17 = .ok (.getfield 21, 3) := by decide +kernel
theorem dX0_isTurning_20 : decode cX0_isTurning 20 = .ok (.iload_n 2, 1) := by decide +kernel
theorem dX0_isTurning_21 : decode cX0_isTurning 21 = .ok (.iaload, 1) := by decide +kernel
theorem dX0_isTurning_22 : decode cX0_isTurning 22 = .ok (.iload_n 1, 1) := by decide +kernel
theorem dX0_isTurning_23 : decode cX0_isTurning 23 = .ok (.if_icmp .ne 17, 3) := by decide +kernel
theorem dX0_isTurning_26 : decode cX0_isTurning 26 = .ok (.aload_n 0, 1) := by decide +kernel
theorem dX0_isTurning_27 : decode cX0_isTurning 27 = .ok (.getfield 24, 3) := by decide +kernel
theorem dX0_isTurning_30 : decode cX0_isTurning 30 = .ok (.iload_n 2, 1) := by decide +kernel
theorem dX0_isTurning_31 : decode cX0_isTurning 31 = .ok (.iaload, 1) := by decide +kernel
theorem dX0_isTurning_32 : decode cX0_isTurning 32 = .ok (.iconst (-1), 1) := by decide +kernel
theorem dX0_isTurning_33 : decode cX0_isTurning 33 = .ok (.if_icmp .eq 7, 3) := by decide +kernel
theorem dX0_isTurning_36 : decode cX0_isTurning 36 = .ok (.iconst 1, 1) := by decide +kernel
theorem dX0_isTurning_37 : decode cX0_isTurning 37 = .ok (.goto 4, 3) := by decide +kernel
theorem dX0_isTurning_40 : decode cX0_isTurning 40 = .ok (.iconst 0, 1) := by decide +kernel
theorem dX0_isTurning_41 : decode cX0_isTurning 41 = .ok (.ireturn, 1) := by decide +kernel
theorem dX0_lateIn_0 : decode cX0_lateIn 0 = .ok (.iload_n 1, 1) := by decide +kernel
theorem dX0_lateIn_1 : decode cX0_lateIn 1 = .ok (.invokestatic 37, 3) := by decide +kernel
theorem dX0_lateIn_4 : decode cX0_lateIn 4 = .ok (.ifCond .eq 20, 3) := by decide +kernel
theorem dX0_lateIn_7 : decode cX0_lateIn 7 = .ok (.iload_n 2, 1) := by decide +kernel
theorem dX0_lateIn_8 : decode cX0_lateIn 8 = .ok (.invokestatic 78, 3) := by decide +kernel
theorem dX0_lateIn_11 : decode cX0_lateIn 11 = .ok (.ifCond .eq 13, 3) := by decide +kernel
theorem dX0_lateIn_14 : decode cX0_lateIn 14 = .ok (.aload_n 0, 1) := by decide +kernel
theorem dX0_lateIn_15 : decode cX0_lateIn 15 = .ok (.getfield 24, 3) := by decide +kernel
theorem dX0_lateIn_18 : decode cX0_lateIn 18 = .ok (.iload_n 2, 1) := by decide +kernel
theorem dX0_lateIn_19 : decode cX0_lateIn 19 = .ok (.iaload, 1) := by decide +kernel
theorem dX0_lateIn_20 : decode cX0_lateIn 20 = .ok (.iconst (-1), 1) := by decide +kernel
theorem dX0_lateIn_21 : decode cX0_lateIn 21 = .ok (.if_icmp .ne 5, 3) := by decide +kernel
theorem dX0_lateIn_24 : decode cX0_lateIn 24 = .ok (.iconst 0, 1) := by decide +kernel
theorem dX0_lateIn_25 : decode cX0_lateIn 25 = .ok (.ireturn, 1) := by decide +kernel
theorem dX0_lateIn_26 : decode cX0_lateIn 26 = .ok (.aload_n 0, 1) := by decide +kernel
theorem dX0_lateIn_27 : decode cX0_lateIn 27 = .ok (.getfield 15, 3) := by decide +kernel
theorem dX0_lateIn_30 : decode cX0_lateIn 30 = .ok (.iload_n 1, 1) := by decide +kernel
theorem dX0_lateIn_31 : decode cX0_lateIn 31 = .ok (.iaload, 1) := by decide +kernel
theorem dX0_lateIn_32 : decode cX0_lateIn 32 = .ok (.iconst 5, 1) := by decide +kernel
theorem dX0_lateIn_33 : decode cX0_lateIn 33 = .ok (.if_icmp .le 7, 3) := by decide +kernel
theorem dX0_lateIn_36 : decode cX0_lateIn 36 = .ok (.iconst 2, 1) := by decide +kernel
theorem dX0_lateIn_37 : decode cX0_lateIn 37 = .ok (.goto 4, 3) := by decide +kernel
theorem dX0_lateIn_40 : decode cX0_lateIn 40 = .ok (.iconst 1, 1) := by decide +kernel
theorem dX0_lateIn_41 : decode cX0_lateIn 41 = .ok (.istore_n 3, 1) := by decide +kernel
theorem dX0_lateIn_42 : decode cX0_lateIn 42 = .ok (.aload_n 0, 1) := by decide +kernel
theorem dX0_lateIn_43 : decode cX0_lateIn 43 = .ok (.getfield 24, 3) := by decide +kernel
theorem dX0_lateIn_46 : decode cX0_lateIn 46 = .ok (.iload_n 2, 1) := by decide +kernel
theorem dX0_lateIn_47 : decode cX0_lateIn 47 = .ok (.iaload, 1) := by decide +kernel
theorem dX0_lateIn_48 : decode cX0_lateIn 48 = .ok (.iload_n 2, 1) := by decide +kernel
theorem dX0_lateIn_49 : decode cX0_lateIn 49 = .ok (.if_icmp .ne 7, 3) := by decide +kernel
theorem dX0_lateIn_52 : decode cX0_lateIn 52 = .ok (.iload_n 3, 1) := by decide +kernel
theorem dX0_lateIn_53 : decode cX0_lateIn 53 = .ok (.goto 8, 3) := by decide +kernel
theorem dX0_lateIn_56 : decode cX0_lateIn 56 = .ok (.iconst 2, 1) := by decide +kernel
theorem dX0_lateIn_57 : decode cX0_lateIn 57 = .ok (.iload_n 3, 1) := by decide +kernel
theorem dX0_lateIn_58 : decode cX0_lateIn 58 = .ok (.imul, 1) := by decide +kernel
theorem dX0_lateIn_59 : decode cX0_lateIn 59 = .ok (.iconst 1, 1) := by decide +kernel
theorem dX0_lateIn_60 : decode cX0_lateIn 60 = .ok (.iadd, 1) := by decide +kernel
theorem dX0_lateIn_61 : decode cX0_lateIn 61 = .ok (.ireturn, 1) := by decide +kernel
theorem dX0_tiredAbove_0 : decode cX0_tiredAbove 0 = .ok (.iconst 0, 1) := by decide +kernel
theorem dX0_tiredAbove_1 : decode cX0_tiredAbove 1 = .ok (.istore_n 2, 1) := by decide +kernel
theorem dX0_tiredAbove_2 : decode cX0_tiredAbove 2 = .ok (.iconst 0, 1) := by decide +kernel
theorem dX0_tiredAbove_3 : decode cX0_tiredAbove 3 = .ok (.istore_n 3, 1) := by decide +kernel
theorem dX0_tiredAbove_4 : decode cX0_tiredAbove 4 = .ok (.iload_n 3, 1) := by decide +kernel
theorem dX0_tiredAbove_5 : decode cX0_tiredAbove 5 = .ok (.aload_n 0, 1) := by decide +kernel
theorem dX0_tiredAbove_6 : decode cX0_tiredAbove 6 = .ok (.getfield 27, 3) := by decide +kernel
theorem dX0_tiredAbove_9 : decode cX0_tiredAbove 9 = .ok (.getfield 69, 3) := by decide +kernel
theorem dX0_tiredAbove_12 : decode cX0_tiredAbove 12 = .ok (.if_icmp .ge 25, 3) := by decide +kernel
theorem dX0_tiredAbove_15 : decode cX0_tiredAbove 15 = .ok (.aload_n 0, 1) := by decide +kernel
theorem dX0_tiredAbove_16 : decode cX0_tiredAbove 16 = .ok (.getfield 18, 3) := by decide +kernel
theorem dX0_tiredAbove_19 : decode cX0_tiredAbove 19 = .ok (.iload_n 3, 1) := by decide +kernel
theorem dX0_tiredAbove_20 : decode cX0_tiredAbove 20 = .ok (.iaload, 1) := by decide +kernel
theorem dX0_tiredAbove_21 : decode cX0_tiredAbove 21 = .ok (.iload_n 1, 1) := by decide +kernel
theorem dX0_tiredAbove_22 : decode cX0_tiredAbove 22 = .ok (.if_icmp .le 9, 3) := by decide +kernel
theorem dX0_tiredAbove_25 : decode cX0_tiredAbove 25 = .ok (.iload_n 2, 1) := by decide +kernel
theorem dX0_tiredAbove_26 : decode cX0_tiredAbove 26 = .ok (.iconst 1, 1) := by decide +kernel
theorem dX0_tiredAbove_27 : decode cX0_tiredAbove 27 = .ok (.iload_n 3, 1) := by decide +kernel
theorem dX0_tiredAbove_28 : decode cX0_tiredAbove 28 = .ok (.ishl, 1) := by decide +kernel
theorem dX0_tiredAbove_29 : decode cX0_tiredAbove 29 = .ok (.ior, 1) := by decide +kernel
theorem dX0_tiredAbove_30 : decode cX0_tiredAbove 30 = .ok (.istore_n 2, 1) := by decide +kernel
theorem dX0_tiredAbove_31 : decode cX0_tiredAbove 31 = .ok (.iinc 3 1, 3) := by decide +kernel
theorem dX0_tiredAbove_34 : decode cX0_tiredAbove 34 = .ok (.goto (-30), 3) := by decide +kernel
theorem dX0_tiredAbove_37 : decode cX0_tiredAbove 37 = .ok (.iload_n 2, 1) := by decide +kernel
theorem dX0_tiredAbove_38 : decode cX0_tiredAbove 38 = .ok (.ireturn, 1) := by decide +kernel
theorem dX1_init_0 : decode cX1_init 0 = .ok (.aload_n 0, 1) := by decide +kernel
theorem dX1_init_1 : decode cX1_init 1 = .ok (.invokespecial 3, 3) := by decide +kernel
theorem dX1_init_4 : decode cX1_init 4 = .ok (.aload_n 0, 1) := by decide +kernel
theorem dX1_init_5 : decode cX1_init 5 = .ok (.bipush 6, 2) := by decide +kernel
theorem dX1_init_7 : decode cX1_init 7 = .ok (.newarray .int, 2) := by decide +kernel
theorem dX1_init_9 : decode cX1_init 9 = .ok (.putfield 9, 3) := by decide +kernel
theorem dX1_init_12 : decode cX1_init 12 = .ok (.aload_n 0, 1) := by decide +kernel
theorem dX1_init_13 : decode cX1_init 13 = .ok (.bipush 6, 2) := by decide +kernel
theorem dX1_init_15 : decode cX1_init 15 = .ok (.newarray .int, 2) := by decide +kernel
theorem dX1_init_17 : decode cX1_init 17 = .ok (.putfield 15, 3) := by decide +kernel
theorem dX1_init_20 : decode cX1_init 20 = .ok (.aload_n 0, 1) := by decide +kernel
theorem dX1_init_21 : decode cX1_init 21 = .ok (.bipush 6, 2) := by decide +kernel
theorem dX1_init_23 : decode cX1_init 23 = .ok (.newarray .int, 2) := by decide +kernel
theorem dX1_init_25 : decode cX1_init 25 = .ok (.putfield 18, 3) := by decide +kernel
theorem dX1_init_28 : decode cX1_init 28 = .ok (.aload_n 0, 1) := by decide +kernel
theorem dX1_init_29 : decode cX1_init 29 = .ok (.bipush 6, 2) := by decide +kernel
theorem dX1_init_31 : decode cX1_init 31 = .ok (.newarray .int, 2) := by decide +kernel
theorem dX1_init_33 : decode cX1_init 33 = .ok (.putfield 21, 3) := by decide +kernel
theorem dX1_init_36 : decode cX1_init 36 = .ok (.return_, 1) := by decide +kernel
theorem dX1_has_0 : decode cX1_has 0 = .ok (.iload_n 1, 1) := by decide +kernel
theorem dX1_has_1 : decode cX1_has 1 = .ok (.ifCond .lt 15, 3) := by decide +kernel
theorem dX1_has_4 : decode cX1_has 4 = .ok (.iload_n 1, 1) := by decide +kernel
theorem dX1_has_5 : decode cX1_has 5 = .ok (.aload_n 0, 1) := by decide +kernel
theorem dX1_has_6 : decode cX1_has 6 = .ok (.getfield 24, 3) := by decide +kernel
theorem dX1_has_9 : decode cX1_has 9 = .ok (.if_icmp .ge 7, 3) := by decide +kernel
theorem dX1_has_12 : decode cX1_has 12 = .ok (.iconst 1, 1) := by decide +kernel
theorem dX1_has_13 : decode cX1_has 13 = .ok (.goto 4, 3) := by decide +kernel
theorem dX1_has_16 : decode cX1_has 16 = .ok (.iconst 0, 1) := by decide +kernel
theorem dX1_has_17 : decode cX1_has 17 = .ok (.ireturn, 1) := by decide +kernel
theorem dX1_add_0 : decode cX1_add 0 = .ok (.aload_n 0, 1) := by decide +kernel
theorem dX1_add_1 : decode cX1_add 1 = .ok (.getfield 24, 3) := by decide +kernel
theorem dX1_add_4 : decode cX1_add 4 = .ok (.bipush 6, 2) := by decide +kernel
theorem dX1_add_6 : decode cX1_add 6 = .ok (.if_icmp .lt 6, 3) := by decide +kernel
theorem dX1_add_9 : decode cX1_add 9 = .ok (.bipush (-5), 2) := by decide +kernel
theorem dX1_add_11 : decode cX1_add 11 = .ok (.ireturn, 1) := by decide +kernel
theorem dX1_add_12 : decode cX1_add 12 = .ok (.aload_n 0, 1) := by decide +kernel
theorem dX1_add_13 : decode cX1_add 13 = .ok (.getfield 9, 3) := by decide +kernel
theorem dX1_add_16 : decode cX1_add 16 = .ok (.aload_n 0, 1) := by decide +kernel
theorem dX1_add_17 : decode cX1_add 17 = .ok (.getfield 24, 3) := by decide +kernel
theorem dX1_add_20 : decode cX1_add 20 = .ok (.iload_n 1, 1) := by decide +kernel
theorem dX1_add_21 : decode cX1_add 21 = .ok (.iastore, 1) := by decide +kernel
theorem dX1_add_22 : decode cX1_add 22 = .ok (.aload_n 0, 1) := by decide +kernel
theorem dX1_add_23 : decode cX1_add 23 = .ok (.getfield 15, 3) := by decide +kernel
theorem dX1_add_26 : decode cX1_add 26 = .ok (.aload_n 0, 1) := by decide +kernel
theorem dX1_add_27 : decode cX1_add 27 = .ok (.getfield 24, 3) := by decide +kernel
theorem dX1_add_30 : decode cX1_add 30 = .ok (.iload_n 2, 1) := by decide +kernel
theorem dX1_add_31 : decode cX1_add 31 = .ok (.iastore, 1) := by decide +kernel
theorem dX1_add_32 : decode cX1_add 32 = .ok (.aload_n 0, 1) := by decide +kernel
theorem dX1_add_33 : decode cX1_add 33 = .ok (.getfield 18, 3) := by decide +kernel
theorem dX1_add_36 : decode cX1_add 36 = .ok (.aload_n 0, 1) := by decide +kernel
theorem dX1_add_37 : decode cX1_add 37 = .ok (.getfield 24, 3) := by decide +kernel
theorem dX1_add_40 : decode cX1_add 40 = .ok (.iload_n 3, 1) := by decide +kernel
theorem dX1_add_41 : decode cX1_add 41 = .ok (.iastore, 1) := by decide +kernel
theorem dX1_add_42 : decode cX1_add 42 = .ok (.aload_n 0, 1) := by decide +kernel
theorem dX1_add_43 : decode cX1_add 43 = .ok (.getfield 21, 3) := by decide +kernel
theorem dX1_add_46 : decode cX1_add 46 = .ok (.aload_n 0, 1) := by decide +kernel
theorem dX1_add_47 : decode cX1_add 47 = .ok (.getfield 24, 3) := by decide +kernel
theorem dX1_add_50 : decode cX1_add 50 = .ok (.iconst 5, 1) := by decide +kernel
theorem dX1_add_51 : decode cX1_add 51 = .ok (.iastore, 1) := by decide +kernel
theorem dX1_add_52 : decode cX1_add 52 = .ok (.aload_n 0, 1) := by decide +kernel
theorem dX1_add_53 : decode cX1_add 53 = .ok (.dup, 1) := by decide +kernel
theorem dX1_add_54 : decode cX1_add 54 = .ok (.getfield 24, 3) := by decide +kernel
theorem dX1_add_57 : decode cX1_add 57 = .ok (.iconst 1, 1) := by decide +kernel
theorem dX1_add_58 : decode cX1_add 58 = .ok (.iadd, 1) := by decide +kernel
theorem dX1_add_59 : decode cX1_add 59 = .ok (.putfield 24, 3) := by decide +kernel
theorem dX1_add_62 : decode cX1_add 62 = .ok (.aload_n 0, 1) := by decide +kernel
theorem dX1_add_63 : decode cX1_add 63 = .ok (.getfield 24, 3) := by decide +kernel
theorem dX1_add_66 : decode cX1_add 66 = .ok (.iconst 1, 1) := by decide +kernel
theorem dX1_add_67 : decode cX1_add 67 = .ok (.isub, 1) := by decide +kernel
theorem dX1_add_68 : decode cX1_add 68 = .ok (.ireturn, 1) := by decide +kernel
theorem dX1_isIll_0 : decode cX1_isIll 0 = .ok (.aload_n 0, 1) := by decide +kernel
theorem dX1_isIll_1 : decode cX1_isIll 1 = .ok (.getfield 28, 3) := by decide +kernel
theorem dX1_isIll_4 : decode cX1_isIll 4 = .ok (.iload_n 1, 1) := by decide +kernel
theorem dX1_isIll_5 : decode cX1_isIll 5 = .ok (.invokestatic 31, 3) := by decide +kernel
theorem dX1_isIll_8 : decode cX1_isIll 8 = .ok (.ireturn, 1) := by decide +kernel
theorem dX1_setIll_0 : decode cX1_setIll 0 = .ok (.iconst 1, 1) := by decide +kernel
theorem dX1_setIll_1 : decode cX1_setIll 1 = .ok (.iload_n 1, 1) := by decide +kernel
theorem dX1_setIll_2 : decode cX1_setIll 2 = .ok (.ishl, 1) := by decide +kernel
theorem dX1_setIll_3 : decode cX1_setIll 3 = .ok (.istore_n 3, 1) := by decide +kernel
theorem dX1_setIll_4 : decode cX1_setIll 4 = .ok (.aload_n 0, 1) := by decide +kernel
theorem dX1_setIll_5 : decode cX1_setIll 5 = .ok (.iload_n 2, 1) := by decide +kernel
theorem dX1_setIll_6 : decode cX1_setIll 6 = .ok (.ifCond .eq 12, 3) := by decide +kernel
theorem dX1_setIll_9 : decode cX1_setIll 9 = .ok (.aload_n 0, 1) := by decide +kernel
theorem dX1_setIll_10 : decode cX1_setIll 10 = .ok (.getfield 28, 3) := by decide +kernel
theorem dX1_setIll_13 : decode cX1_setIll 13 = .ok (.iload_n 3, 1) := by decide +kernel
theorem dX1_setIll_14 : decode cX1_setIll 14 = .ok (.ior, 1) := by decide +kernel
theorem dX1_setIll_15 : decode cX1_setIll 15 = .ok (.goto 11, 3) := by decide +kernel
theorem dX1_setIll_18 : decode cX1_setIll 18 = .ok (.aload_n 0, 1) := by decide +kernel
theorem dX1_setIll_19 : decode cX1_setIll 19 = .ok (.getfield 28, 3) := by decide +kernel
theorem dX1_setIll_22 : decode cX1_setIll 22 = .ok (.iload_n 3, 1) := by decide +kernel
theorem dX1_setIll_23 : decode cX1_setIll 23 = .ok (.iconst (-1), 1) := by decide +kernel
theorem dX1_setIll_24 : decode cX1_setIll 24 = .ok (.ixor, 1) := by decide +kernel
theorem dX1_setIll_25 : decode cX1_setIll 25 = .ok (.iand, 1) := by decide +kernel
theorem dX1_setIll_26 : decode cX1_setIll 26 = .ok (.putfield 28, 3) := by decide +kernel
theorem dX1_setIll_29 : decode cX1_setIll 29 = .ok (.return_, 1) := by decide +kernel
theorem dX1_payOf_0 : decode cX1_payOf 0 = .ok (.aload_n 0, 1) := by decide +kernel
theorem dX1_payOf_1 : decode cX1_payOf 1 = .ok (.iload_n 1, 1) := by decide +kernel
theorem dX1_payOf_2 : decode cX1_payOf 2 = .ok (.invokevirtual 35, 3) := by decide +kernel
theorem dX1_payOf_5 : decode cX1_payOf 5 = .ok (.ifCond .eq 12, 3) := by decide +kernel
theorem dX1_payOf_8 : decode cX1_payOf 8 = .ok (.aload_n 0, 1) := by decide +kernel
theorem dX1_payOf_9 : decode cX1_payOf 9 = .ok (.getfield 18, 3) := by decide +kernel
theorem dX1_payOf_12 : decode cX1_payOf 12 = .ok (.iload_n 1, 1) := by decide +kernel
theorem dX1_payOf_13 : decode cX1_payOf 13 = .ok (.iaload, 1) := by decide +kernel
theorem dX1_payOf_14 : decode cX1_payOf 14 = .ok (.goto 4, 3) := by decide +kernel
theorem dX1_payOf_17 : decode cX1_payOf 17 = .ok (.iconst 0, 1) := by decide +kernel
theorem dX1_payOf_18 : decode cX1_payOf 18 = .ok (.ireturn, 1) := by decide +kernel
theorem dX1_knownBy_0 : decode cX1_knownBy 0 = .ok (.aload_n 0, 1) := by decide +kernel
theorem dX1_knownBy_1 : decode cX1_knownBy 1 = .ok (.iload_n 1, 1) := by decide +kernel
theorem dX1_knownBy_2 : decode cX1_knownBy 2 = .ok (.invokevirtual 35, 3) := by decide +kernel
theorem dX1_knownBy_5 : decode cX1_knownBy 5 = .ok (.ifCond .eq 12, 3) := by decide +kernel
theorem dX1_knownBy_8 : decode cX1_knownBy 8 = .ok (.aload_n 0, 1) := by decide +kernel
theorem dX1_knownBy_9 : decode cX1_knownBy 9 = .ok (.getfield 9, 3) := by decide +kernel
theorem dX1_knownBy_12 : decode cX1_knownBy 12 = .ok (.iload_n 1, 1) := by decide +kernel
theorem dX1_knownBy_13 : decode cX1_knownBy 13 = .ok (.iaload, 1) := by decide +kernel
theorem dX1_knownBy_14 : decode cX1_knownBy 14 = .ok (.goto 4, 3) := by decide +kernel
theorem dX1_knownBy_17 : decode cX1_knownBy 17 = .ok (.iconst 0, 1) := by decide +kernel
theorem dX1_knownBy_18 : decode cX1_knownBy 18 = .ok (.ireturn, 1) := by decide +kernel
theorem dX1_boothOf_0 : decode cX1_boothOf 0 = .ok (.aload_n 0, 1) := by decide +kernel
theorem dX1_boothOf_1 : decode cX1_boothOf 1 = .ok (.iload_n 1, 1) := by decide +kernel
theorem dX1_boothOf_2 : decode cX1_boothOf 2 = .ok (.invokevirtual 35, 3) := by decide +kernel
theorem dX1_boothOf_5 : decode cX1_boothOf 5 = .ok (.ifCond .eq 12, 3) := by decide +kernel
theorem dX1_boothOf_8 : decode cX1_boothOf 8 = .ok (.aload_n 0, 1) := by decide +kernel
theorem dX1_boothOf_9 : decode cX1_boothOf 9 = .ok (.getfield 21, 3) := by decide +kernel
theorem dX1_boothOf_12 : decode cX1_boothOf 12 = .ok (.iload_n 1, 1) := by decide +kernel
theorem dX1_boothOf_13 : decode cX1_boothOf 13 = .ok (.iaload, 1) := by decide +kernel
theorem dX1_boothOf_14 : decode cX1_boothOf 14 = .ok (.goto 4, 3) := by decide +kernel
theorem dX1_boothOf_17 : decode cX1_boothOf 17 = .ok (.iconst 5, 1) := by decide +kernel
theorem dX1_boothOf_18 : decode cX1_boothOf 18 = .ok (.ireturn, 1) := by decide +kernel
theorem dX1_canTurnInto_0 : decode cX1_canTurnInto 0 = .ok (.aload_n 0, 1) := by decide +kernel
theorem dX1_canTurnInto_1 : decode cX1_canTurnInto 1 = .ok (.iload_n 1, 1) := by decide +kernel
theorem dX1_canTurnInto_2 : decode cX1_canTurnInto 2 = .ok (.invokevirtual 35, 3) := by decide +kernel
theorem dX1_canTurnInto_5 : decode cX1_canTurnInto 5 = .ok (.ifCond .eq 28, 3) := by decide +kernel
theorem dX1_canTurnInto_8 : decode cX1_canTurnInto 8 = .ok (.aload_n 0, 1) := by decide +kernel
theorem dX1_canTurnInto_9 : decode cX1_canTurnInto 9 = .ok (.iload_n 1, 1) := by decide +kernel
theorem dX1_canTurnInto_10 : decode cX1_canTurnInto 10 = .ok (.invokevirtual 39, 3) := by decide +kernel
theorem dX1_canTurnInto_13 : decode cX1_canTurnInto 13 = .ok (.ifCond .ne 20, 3) := by decide +kernel
theorem dX1_canTurnInto_16 : decode cX1_canTurnInto 16 = .ok (.aload_n 0, 1) := by decide +kernel
theorem dX1_canTurnInto_17 : decode cX1_canTurnInto 17 = .ok (.getfield 15, 3) := by decide +kernel
theorem dX1_canTurnInto_20 : decode cX1_canTurnInto 20 = .ok (.iload_n 1, 1) := by decide +kernel
theorem dX1_canTurnInto_21 : decode cX1_canTurnInto 21 = .ok (.iaload, 1) := by decide +kernel
theorem dX1_canTurnInto_22 : decode cX1_canTurnInto 22 = .ok (.iload_n 2, 1) := by decide +kernel
theorem dX1_canTurnInto_23 : decode cX1_canTurnInto 23 = .ok (.invokestatic 31, 3) := by decide +kernel
theorem dX1_canTurnInto_26 : decode cX1_canTurnInto 26 = .ok (.ifCond .eq 7, 3) := by decide +kernel
theorem dX1_canTurnInto_29 : decode cX1_canTurnInto 29 = .ok (.iconst 1, 1) := by decide +kernel
theorem dX1_canTurnInto_30 : decode cX1_canTurnInto 30 = .ok (.goto 4, 3) := by decide +kernel
theorem dX1_canTurnInto_33 : decode cX1_canTurnInto 33 = .ok (.iconst 0, 1) := by decide +kernel
theorem dX1_canTurnInto_34 : decode cX1_canTurnInto 34 = .ok (.ireturn, 1) := by decide +kernel
theorem dX1_ableToTurnInto_0 : decode cX1_ableToTurnInto 0 = .ok (.iconst 0, 1) := by decide +kernel
theorem dX1_ableToTurnInto_1 : decode cX1_ableToTurnInto 1 = .ok (.istore_n 2, 1) := by decide +kernel
theorem dX1_ableToTurnInto_2 : decode cX1_ableToTurnInto 2 = .ok (.iconst 0, 1) := by decide +kernel
theorem dX1_ableToTurnInto_3 : decode cX1_ableToTurnInto 3 = .ok (.istore_n 3, 1) := by decide +kernel
theorem dX1_ableToTurnInto_4 : decode cX1_ableToTurnInto 4 = .ok (.iload_n 3, 1) := by decide +kernel
theorem dX1_ableToTurnInto_5 : decode cX1_ableToTurnInto 5 = .ok (.aload_n 0, 1) := by decide +kernel
theorem dX1_ableToTurnInto_6 : decode cX1_ableToTurnInto 6 = .ok (.getfield 24, 3) := by decide +kernel
theorem dX1_ableToTurnInto_9 : decode cX1_ableToTurnInto 9 = .ok (.if_icmp .ge 21, 3) := by decide +kernel
theorem dX1_ableToTurnInto_12 : decode cX1_ableToTurnInto 12 = .ok (.aload_n 0, 1) := by decide +kernel
theorem dX1_ableToTurnInto_13 : decode cX1_ableToTurnInto 13 = .ok (.iload_n 3, 1) := by decide +kernel
theorem dX1_ableToTurnInto_14 : decode cX1_ableToTurnInto 14 = .ok (.iload_n 1, 1) := by decide +kernel
theorem dX1_ableToTurnInto_15 : decode cX1_ableToTurnInto 15 = .ok (.invokevirtual 42, 3) := by decide +kernel
theorem dX1_ableToTurnInto_18 : decode cX1_ableToTurnInto 18 = .ok (.ifCond .eq 6, 3) := by decide +kernel
theorem dX1_ableToTurnInto_21 : decode cX1_ableToTurnInto 21 = .ok (.iinc 2 1, 3) := by decide +kernel
theorem dX1_ableToTurnInto_24 : decode cX1_ableToTurnInto 24 = .ok (.iinc 3 1, 3) := by decide +kernel
theorem dX1_ableToTurnInto_27 : decode cX1_ableToTurnInto 27 = .ok (.goto (-23), 3) := by decide +kernel
theorem dX1_ableToTurnInto_30 : decode cX1_ableToTurnInto 30 = .ok (.iload_n 2, 1) := by decide +kernel
theorem dX1_ableToTurnInto_31 : decode cX1_ableToTurnInto 31 = .ok (.ireturn, 1) := by decide +kernel
theorem dX1_seated_0 : decode cX1_seated 0 = .ok (.iconst 0, 1) := by decide +kernel
theorem dX1_seated_1 : decode cX1_seated 1 = .ok (.istore_n 1, 1) := by decide +kernel
theorem dX1_seated_2 : decode cX1_seated 2 = .ok (.iconst 0, 1) := by decide +kernel
theorem dX1_seated_3 : decode cX1_seated 3 = .ok (.istore_n 2, 1) := by decide +kernel
theorem dX1_seated_4 : decode cX1_seated 4 = .ok (.iload_n 2, 1) := by decide +kernel
theorem dX1_seated_5 : decode cX1_seated 5 = .ok (.aload_n 0, 1) := by decide +kernel
theorem dX1_seated_6 : decode cX1_seated 6 = .ok (.getfield 24, 3) := by decide +kernel
theorem dX1_seated_9 : decode cX1_seated 9 = .ok (.if_icmp .ge 21, 3) := by decide +kernel
theorem dX1_seated_12 : decode cX1_seated 12 = .ok (.aload_n 0, 1) := by decide +kernel
theorem dX1_seated_13 : decode cX1_seated 13 = .ok (.iload_n 2, 1) := by decide +kernel
theorem dX1_seated_14 : decode cX1_seated 14 = .ok (.invokevirtual 45, 3) := by decide +kernel
theorem dX1_seated_17 : decode cX1_seated 17 = .ok (.iconst 5, 1) := by decide +kernel
theorem dX1_seated_18 : decode cX1_seated 18 = .ok (.if_icmp .eq 6, 3) := by decide +kernel
theorem dX1_seated_21 : decode cX1_seated 21 = .ok (.iinc 1 1, 3) := by decide +kernel
theorem dX1_seated_24 : decode cX1_seated 24 = .ok (.iinc 2 1, 3) := by decide +kernel
theorem dX1_seated_27 : decode cX1_seated 27 = .ok (.goto (-23), 3) := by decide +kernel
theorem dX1_seated_30 : decode cX1_seated 30 = .ok (.iload_n 1, 1) := by decide +kernel
theorem dX1_seated_31 : decode cX1_seated 31 = .ok (.ireturn, 1) := by decide +kernel
theorem dX1_unseatAll_0 : decode cX1_unseatAll 0 = .ok (.aload_n 0, 1) := by decide +kernel
theorem dX1_unseatAll_1 : decode cX1_unseatAll 1 = .ok (.getfield 21, 3) := by decide +kernel
theorem dX1_unseatAll_4 : decode cX1_unseatAll 4 = .ok (.iconst 5, 1) := by decide +kernel
theorem dX1_unseatAll_5 : decode cX1_unseatAll 5 = .ok (.invokestatic 49, 3) := by decide +kernel
theorem dX1_unseatAll_8 : decode cX1_unseatAll 8 = .ok (.return_, 1) := by decide +kernel
theorem dX1_seatAs_0 : decode cX1_seatAs 0 = .ok (.aload_n 1, 1) := by decide +kernel
theorem dX1_seatAs_1 : decode cX1_seatAs 1 = .ok (.ifnull 22, 3) := by decide +kernel
theorem dX1_seatAs_4 : decode cX1_seatAs 4 = .ok (.aload_n 1, 1) := by decide +kernel
theorem dX1_seatAs_5 : decode cX1_seatAs 5 = .ok (.arraylength, 1) := by decide +kernel
theorem dX1_seatAs_6 : decode cX1_seatAs 6 = .ok (.bipush 6, 2) := by decide +kernel
theorem dX1_seatAs_8 : decode cX1_seatAs 8 = .ok (.if_icmp .ne 15, 3) := by decide +kernel
theorem dX1_seatAs_11 : decode cX1_seatAs 11 = .ok (.aload_n 1, 1) := by decide +kernel
theorem dX1_seatAs_12 : decode cX1_seatAs 12 = .ok (.iconst 0, 1) := by decide +kernel
theorem dX1_seatAs_13 : decode cX1_seatAs 13 = .ok (.aload_n 0, 1) := by decide +kernel
theorem dX1_seatAs_14 : decode cX1_seatAs 14 = .ok (.getfield 21, 3) := by decide +kernel
theorem dX1_seatAs_17 : decode cX1_seatAs 17 = .ok (.iconst 0, 1) := by decide +kernel
theorem dX1_seatAs_18 : decode cX1_seatAs 18 = .ok (.bipush 6, 2) := by decide +kernel
theorem dX1_seatAs_20 : decode cX1_seatAs 20 = .ok (.invokestatic 55, 3) := by decide +kernel
theorem dX1_seatAs_23 : decode cX1_seatAs 23 = .ok (.return_, 1) := by decide +kernel
theorem dX2_init_0 : decode cX2_init 0 = .ok (.aload_n 0, 1) := by decide +kernel
theorem dX2_init_1 : decode cX2_init 1 = .ok (.invokespecial 3, 3) := by decide +kernel
theorem dX2_init_4 : decode cX2_init 4 = .ok (.aload_n 0, 1) := by decide +kernel
theorem dX2_init_5 : decode cX2_init 5 = .ok (.bipush 6, 2) := by decide +kernel
theorem dX2_init_7 : decode cX2_init 7 = .ok (.newarray .int, 2) := by decide +kernel
theorem dX2_init_9 : decode cX2_init 9 = .ok (.putfield 9, 3) := by decide +kernel
theorem dX2_init_12 : decode cX2_init 12 = .ok (.aload_n 0, 1) := by decide +kernel
theorem dX2_init_13 : decode cX2_init 13 = .ok (.iconst 5, 1) := by decide +kernel
theorem dX2_init_14 : decode cX2_init 14 = .ok (.newarray .int, 2) := by decide +kernel
theorem dX2_init_16 : decode cX2_init 16 = .ok (.putfield 15, 3) := by decide +kernel
theorem dX2_init_19 : decode cX2_init 19 = .ok (.aload_n 0, 1) := by decide +kernel
theorem dX2_init_20 : decode cX2_init 20 = .ok (.iconst 5, 1) := by decide +kernel
theorem dX2_init_21 : decode cX2_init 21 = .ok (.newarray .int, 2) := by decide +kernel
theorem dX2_init_23 : decode cX2_init 23 = .ok (.putfield 18, 3) := by decide +kernel
theorem dX2_init_26 : decode cX2_init 26 = .ok (.aload_n 0, 1) := by decide +kernel
theorem dX2_init_27 : decode cX2_init 27 = .ok (.bipush 6, 2) := by decide +kernel
theorem dX2_init_29 : decode cX2_init 29 = .ok (.newarray .int, 2) := by decide +kernel
theorem dX2_init_31 : decode cX2_init 31 = .ok (.putfield 21, 3) := by decide +kernel
theorem dX2_init_34 : decode cX2_init 34 = .ok (.aload_n 0, 1) := by decide +kernel
theorem dX2_init_35 : decode cX2_init 35 = .ok (.bipush 6, 2) := by decide +kernel
theorem dX2_init_37 : decode cX2_init 37 = .ok (.newarray .int, 2) := by decide +kernel
theorem dX2_init_39 : decode cX2_init 39 = .ok (.putfield 24, 3) := by decide +kernel
theorem dX2_init_42 : decode cX2_init 42 = .ok (.aload_n 0, 1) := by decide +kernel
theorem dX2_init_43 : decode cX2_init 43 = .ok (.aload_n 1, 1) := by decide +kernel
theorem dX2_init_44 : decode cX2_init 44 = .ok (.putfield 27, 3) := by decide +kernel
theorem dX2_init_47 : decode cX2_init 47 = .ok (.aload_n 0, 1) := by decide +kernel
theorem dX2_init_48 : decode cX2_init 48 = .ok (.getfield 9, 3) := by decide +kernel
theorem dX2_init_51 : decode cX2_init 51 = .ok (.iconst 5, 1) := by decide +kernel
theorem dX2_init_52 : decode cX2_init 52 = .ok (.invokestatic 31, 3) := by decide +kernel
theorem dX2_init_55 : decode cX2_init 55 = .ok (.return_, 1) := by decide +kernel
theorem dX2_prepare_0 : decode cX2_prepare 0 = .ok (.aload_n 0, 1) := by decide +kernel
theorem dX2_prepare_1 : decode cX2_prepare 1 = .ok (.iload_n 1, 1) := by decide +kernel
theorem dX2_prepare_2 : decode cX2_prepare 2 = .ok (.putfield 37, 3) := by decide +kernel
theorem dX2_prepare_5 : decode cX2_prepare 5 = .ok (.aload_n 0, 1) := by decide +kernel
theorem dX2_prepare_6 : decode cX2_prepare 6 = .ok (.iload_n 2, 1) := by decide +kernel
theorem dX2_prepare_7 : decode cX2_prepare 7 = .ok (.putfield 41, 3) := by decide +kernel
theorem dX2_prepare_10 : decode cX2_prepare 10 = .ok (.aload_n 0, 1) := by decide +kernel
theorem dX2_prepare_11 : decode cX2_prepare 11 = .ok (.iconst 0, 1) := by decide +kernel
theorem dX2_prepare_12 : decode cX2_prepare 12 = .ok (.putfield 44, 3) := by decide +kernel
theorem dX2_prepare_15 : decode cX2_prepare 15 = .ok (.aload_n 0, 1) := by decide +kernel
theorem dX2_prepare_16 : decode cX2_prepare 16 = .ok (.iconst 0, 1) := by decide +kernel
theorem dX2_prepare_17 : decode cX2_prepare 17 = .ok (.putfield 47, 3) := by decide +kernel
theorem dX2_prepare_20 : decode cX2_prepare 20 = .ok (.aload_n 0, 1) := by decide +kernel
theorem dX2_prepare_21 : decode cX2_prepare 21 = .ok (.iconst (-1), 1) := by decide +kernel
theorem dX2_prepare_22 : decode cX2_prepare 22 = .ok (.putfield 50, 3) := by decide +kernel
theorem dX2_prepare_25 : decode cX2_prepare 25 = .ok (.aload_n 0, 1) := by decide +kernel
theorem dX2_prepare_26 : decode cX2_prepare 26 = .ok (.iconst (-1), 1) := by decide +kernel
theorem dX2_prepare_27 : decode cX2_prepare 27 = .ok (.putfield 53, 3) := by decide +kernel
theorem dX2_prepare_30 : decode cX2_prepare 30 = .ok (.aload_n 0, 1) := by decide +kernel
theorem dX2_prepare_31 : decode cX2_prepare 31 = .ok (.iconst (-1), 1) := by decide +kernel
theorem dX2_prepare_32 : decode cX2_prepare 32 = .ok (.putfield 56, 3) := by decide +kernel
theorem dX2_prepare_35 : decode cX2_prepare 35 = .ok (.aload_n 0, 1) := by decide +kernel
theorem dX2_prepare_36 : decode cX2_prepare 36 = .ok (.iconst 0, 1) := by decide +kernel
theorem dX2_prepare_37 : decode cX2_prepare 37 = .ok (.putfield 59, 3) := by decide +kernel
theorem dX2_prepare_40 : decode cX2_prepare 40 = .ok (.iconst 0, 1) := by decide +kernel
theorem dX2_prepare_41 : decode cX2_prepare 41 = .ok (.istore 4, 2) := by decide +kernel
theorem dX2_prepare_43 : decode cX2_prepare 43 = .ok (.iload 4, 2) := by decide +kernel
theorem dX2_prepare_45 : decode cX2_prepare 45 = .ok (.iconst 5, 1) := by decide +kernel
theorem dX2_prepare_46 : decode cX2_prepare 46 = .ok (.if_icmp .ge 46, 3) := by decide +kernel
theorem dX2_prepare_49 : decode cX2_prepare 49 = .ok (.aload_n 0, 1) := by decide +kernel
theorem dX2_prepare_50 : decode cX2_prepare 50 = .ok (.getfield 15, 3) := by decide +kernel
theorem dX2_prepare_53 : decode cX2_prepare 53 = .ok (.iload 4, 2) := by decide +kernel
theorem dX2_prepare_55 : decode cX2_prepare 55 = .ok (.iload_n 2, 1) := by decide +kernel
theorem dX2_prepare_56 : decode cX2_prepare 56 = .ok (.iload 4, 2) := by decide +kernel
theorem dX2_prepare_58 : decode cX2_prepare 58 = .ok (.invokestatic 62, 3) := by decide +kernel
theorem dX2_prepare_61 : decode cX2_prepare 61 = .ok (.ifCond .eq 7, 3) := by decide +kernel
theorem dX2_prepare_64 : decode cX2_prepare 64 = .ok (.iload_n 3, 1) := by decide +kernel
theorem dX2_prepare_65 : decode cX2_prepare 65 = .ok (.goto 4, 3) := by decide +kernel
theorem dX2_prepare_68 : decode cX2_prepare 68 = .ok (.iconst 0, 1) := by decide +kernel
theorem dX2_prepare_69 : decode cX2_prepare 69 = .ok (.iastore, 1) := by decide +kernel
theorem dX2_prepare_70 : decode cX2_prepare 70 = .ok (.aload_n 0, 1) := by decide +kernel
theorem dX2_prepare_71 : decode cX2_prepare 71 = .ok (.dup, 1) := by decide +kernel
theorem dX2_prepare_72 : decode cX2_prepare 72 = .ok (.getfield 59, 3) := by decide +kernel
theorem dX2_prepare_75 : decode cX2_prepare 75 = .ok (.aload_n 0, 1) := by decide +kernel
theorem dX2_prepare_76 : decode cX2_prepare 76 = .ok (.getfield 15, 3) := by decide +kernel
theorem dX2_prepare_79 : decode cX2_prepare 79 = .ok (.iload 4, 2) := by decide +kernel
theorem dX2_prepare_81 : decode cX2_prepare 81 = .ok (.iaload, 1) := by decide +kernel
theorem dX2_prepare_82 : decode cX2_prepare 82 = .ok (.iadd, 1) := by decide +kernel
theorem dX2_prepare_83 : decode cX2_prepare 83 = .ok (.putfield 59, 3) := by decide +kernel
theorem dX2_prepare_86 : decode cX2_prepare 86 = .ok (.iinc 4 1, 3) := by decide +kernel
theorem dX2_prepare_89 : decode cX2_prepare 89 = .ok (.goto (-46), 3) := by decide +kernel
theorem dX2_prepare_92 : decode cX2_prepare 92 = .ok (.return_, 1) := by decide +kernel
theorem dX2_placeFrom_0 : decode cX2_placeFrom 0 = .ok (.aload_n 0, 1) := by decide +kernel
theorem dX2_placeFrom_1 : decode cX2_placeFrom 1 = .ok (.getfield 59, 3) := by decide +kernel
theorem dX2_placeFrom_4 : decode cX2_placeFrom 4 = .ok (.aload_n 0, 1) := by decide +kernel
theorem dX2_placeFrom_5 : decode cX2_placeFrom 5 = .ok (.getfield 27, 3) := by decide +kernel
theorem dX2_placeFrom_8 : decode cX2_placeFrom 8 = .ok (.getfield 66, 3) := by decide +kernel
theorem dX2_placeFrom_11 : decode cX2_placeFrom 11 = .ok (.iload_n 1, 1) := by decide +kernel
theorem dX2_placeFrom_12 : decode cX2_placeFrom 12 = .ok (.isub, 1) := by decide +kernel
theorem dX2_placeFrom_13 : decode cX2_placeFrom 13 = .ok (.if_icmp .le 4, 3) := by decide +kernel
theorem dX2_placeFrom_16 : decode cX2_placeFrom 16 = .ok (.return_, 1) := by decide +kernel
theorem dX2_placeFrom_17 : decode cX2_placeFrom 17 = .ok (.aload_n 0, 1) := by decide +kernel
theorem dX2_placeFrom_18 : decode cX2_placeFrom 18 = .ok (.getfield 27, 3) := by decide +kernel
theorem dX2_placeFrom_21 : decode cX2_placeFrom 21 = .ok (.iload_n 1, 1) := by decide +kernel
theorem dX2_placeFrom_22 : decode cX2_placeFrom 22 = .ok (.invokevirtual 71, 3) := by decide +kernel
theorem dX2_placeFrom_25 : decode cX2_placeFrom 25 = .ok (.ifCond .ne 8, 3) := by decide +kernel
theorem dX2_placeFrom_28 : decode cX2_placeFrom 28 = .ok (.aload_n 0, 1) := by decide +kernel
theorem dX2_placeFrom_29 : decode cX2_placeFrom 29 = .ok (.invokevirtual 75, 3) := by decide +kernel
theorem dX2_placeFrom_32 : decode cX2_placeFrom 32 = .ok (.return_, 1) := by decide +kernel
theorem dX2_placeFrom_33 : decode cX2_placeFrom 33 = .ok (.iconst 0, 1) := by decide +kernel
theorem dX2_placeFrom_34 : decode cX2_placeFrom 34 = .ok (.istore_n 2, 1) := by decide +kernel
theorem dX2_placeFrom_35 : decode cX2_placeFrom 35 = .ok (.iload_n 2, 1) := by decide +kernel
theorem dX2_placeFrom_36 : decode cX2_placeFrom 36 = .ok (.iconst 5, 1) := by decide +kernel
theorem dX2_placeFrom_37 : decode cX2_placeFrom 37 = .ok (.if_icmp .ge 15, 3) := by decide +kernel
theorem dX2_placeFrom_40 : decode cX2_placeFrom 40 = .ok (.aload_n 0, 1) := by decide +kernel
theorem dX2_placeFrom_41 : decode cX2_placeFrom 41 = .ok (.iload_n 2, 1) := by decide +kernel
theorem dX2_placeFrom_42 : decode cX2_placeFrom 42 = .ok (.iload_n 1, 1) := by decide +kernel
theorem dX2_placeFrom_43 : decode cX2_placeFrom 43 = .ok (.invokevirtual 78, 3) := by decide +kernel
theorem dX2_placeFrom_46 : decode cX2_placeFrom 46 = .ok (.iinc 2 1, 3) := by decide +kernel
theorem dX2_placeFrom_49 : decode cX2_placeFrom 49 = .ok (.goto (-14), 3) := by decide +kernel
theorem dX2_placeFrom_52 : decode cX2_placeFrom 52 = .ok (.aload_n 0, 1) := by decide +kernel
theorem dX2_placeFrom_53 : decode cX2_placeFrom 53 = .ok (.getfield 9, 3) := by decide +kernel
theorem dX2_placeFrom_56 : decode cX2_placeFrom 56 = .ok (.iload_n 1, 1) := by decide +kernel
theorem dX2_placeFrom_57 : decode cX2_placeFrom 57 = .ok (.iconst 5, 1) := by decide +kernel
theorem dX2_placeFrom_58 : decode cX2_placeFrom 58 = .ok (.iastore, 1) := by decide +kernel
theorem dX2_placeFrom_59 : decode cX2_placeFrom 59 = .ok (.aload_n 0, 1) := by decide +kernel
theorem dX2_placeFrom_60 : decode cX2_placeFrom 60 = .ok (.iload_n 1, 1) := by decide +kernel
theorem dX2_placeFrom_61 : decode cX2_placeFrom 61 = .ok (.iconst 1, 1) := by decide +kernel
theorem dX2_placeFrom_62 : decode cX2_placeFrom 62 = .ok (.iadd, 1) := by decide +kernel
theorem dX2_placeFrom_63 : decode cX2_placeFrom 63 = .ok (.invokevirtual 82, 3) := by decide +kernel
theorem dX2_placeFrom_66 : decode cX2_placeFrom 66 = .ok (.return_, 1) := by decide +kernel
theorem dX2_placeIn_0 : decode cX2_placeIn 0 = .ok (.aload_n 0, 1) := by decide +kernel
theorem dX2_placeIn_1 : decode cX2_placeIn 1 = .ok (.getfield 15, 3) := by decide +kernel
theorem dX2_placeIn_4 : decode cX2_placeIn 4 = .ok (.iload_n 1, 1) := by decide +kernel
theorem dX2_placeIn_5 : decode cX2_placeIn 5 = .ok (.iaload, 1) := by decide +kernel
theorem dX2_placeIn_6 : decode cX2_placeIn 6 = .ok (.ifCond .eq 15, 3) := by decide +kernel
theorem dX2_placeIn_9 : decode cX2_placeIn 9 = .ok (.aload_n 0, 1) := by decide +kernel
theorem dX2_placeIn_10 : decode cX2_placeIn 10 = .ok (.getfield 27, 3) := by decide +kernel
theorem dX2_placeIn_13 : decode cX2_placeIn 13 = .ok (.iload_n 2, 1) := by decide +kernel
theorem dX2_placeIn_14 : decode cX2_placeIn 14 = .ok (.iload_n 1, 1) := by decide +kernel
theorem dX2_placeIn_15 : decode cX2_placeIn 15 = .ok (.invokevirtual 86, 3) := by decide +kernel
theorem dX2_placeIn_18 : decode cX2_placeIn 18 = .ok (.ifCond .ne 4, 3) := by decide +kernel
theorem dX2_placeIn_21 : decode cX2_placeIn 21 = .ok (.return_, 1) := by decide +kernel
theorem dX2_placeIn_22 : decode cX2_placeIn 22 = .ok (.aload_n 0, 1) := by decide +kernel
theorem dX2_placeIn_23 : decode cX2_placeIn 23 = .ok (.getfield 9, 3) := by decide +kernel
theorem dX2_placeIn_26 : decode cX2_placeIn 26 = .ok (.iload_n 2, 1) := by decide +kernel
theorem dX2_placeIn_27 : decode cX2_placeIn 27 = .ok (.iload_n 1, 1) := by decide +kernel
theorem dX2_placeIn_28 : decode cX2_placeIn 28 = .ok (.iastore, 1) := by decide +kernel
theorem dX2_placeIn_29 : decode cX2_placeIn 29 = .ok (.aload_n 0, 1) := by decide +kernel
theorem dX2_placeIn_30 : decode cX2_placeIn 30 = .ok (.getfield 15, 3) := by decide +kernel
theorem dX2_placeIn_33 : decode cX2_placeIn 33 = .ok (.iload_n 1, 1) := by decide +kernel
theorem dX2_placeIn_34 : decode cX2_placeIn 34 = .ok (.dup2, 1) := by decide +kernel
theorem dX2_placeIn_35 : decode cX2_placeIn 35 = .ok (.iaload, 1) := by decide +kernel
theorem dX2_placeIn_36 : decode cX2_placeIn 36 = .ok (.iconst 1, 1) := by decide +kernel
theorem dX2_placeIn_37 : decode cX2_placeIn 37 = .ok (.isub, 1) := by decide +kernel
theorem dX2_placeIn_38 : decode cX2_placeIn 38 = .ok (.iastore, 1) := by decide +kernel
theorem dX2_placeIn_39 : decode cX2_placeIn 39 = .ok (.aload_n 0, 1) := by decide +kernel
theorem dX2_placeIn_40 : decode cX2_placeIn 40 = .ok (.dup, 1) := by decide +kernel
theorem dX2_placeIn_41 : decode cX2_placeIn 41 = .ok (.getfield 59, 3) := by decide +kernel
theorem dX2_placeIn_44 : decode cX2_placeIn 44 = .ok (.iconst 1, 1) := by decide +kernel
theorem dX2_placeIn_45 : decode cX2_placeIn 45 = .ok (.isub, 1) := by decide +kernel
theorem dX2_placeIn_46 : decode cX2_placeIn 46 = .ok (.putfield 59, 3) := by decide +kernel
theorem dX2_placeIn_49 : decode cX2_placeIn 49 = .ok (.aload_n 0, 1) := by decide +kernel
theorem dX2_placeIn_50 : decode cX2_placeIn 50 = .ok (.iload_n 2, 1) := by decide +kernel
theorem dX2_placeIn_51 : decode cX2_placeIn 51 = .ok (.iconst 1, 1) := by decide +kernel
theorem dX2_placeIn_52 : decode cX2_placeIn 52 = .ok (.iadd, 1) := by decide +kernel
theorem dX2_placeIn_53 : decode cX2_placeIn 53 = .ok (.invokevirtual 82, 3) := by decide +kernel
theorem dX2_placeIn_56 : decode cX2_placeIn 56 = .ok (.aload_n 0, 1) := by decide +kernel
theorem dX2_placeIn_57 : decode cX2_placeIn 57 = .ok (.getfield 15, 3) := by decide +kernel
theorem dX2_placeIn_60 : decode cX2_placeIn 60 = .ok (.iload_n 1, 1) := by decide +kernel
theorem dX2_placeIn_61 : decode cX2_placeIn 61 = .ok (.dup2, 1) := by decide +kernel
theorem dX2_placeIn_62 : decode cX2_placeIn 62 = .ok (.iaload, 1) := by decide +kernel
theorem dX2_placeIn_63 : decode cX2_placeIn 63 = .ok (.iconst 1, 1) := by decide +kernel
theorem dX2_placeIn_64 : decode cX2_placeIn 64 = .ok (.iadd, 1) := by decide +kernel
theorem dX2_placeIn_65 : decode cX2_placeIn 65 = .ok (.iastore, 1) := by decide +kernel
theorem dX2_placeIn_66 : decode cX2_placeIn 66 = .ok (.aload_n 0, 1) := by decide +kernel
theorem dX2_placeIn_67 : decode cX2_placeIn 67 = .ok (.dup, 1) := by decide +kernel
theorem dX2_placeIn_68 : decode cX2_placeIn 68 = .ok (.getfield 59, 3) := by decide +kernel
theorem dX2_placeIn_71 : decode cX2_placeIn 71 = .ok (.iconst 1, 1) := by decide +kernel
theorem dX2_placeIn_72 : decode cX2_placeIn 72 = .ok (.iadd, 1) := by decide +kernel
theorem dX2_placeIn_73 : decode cX2_placeIn 73 = .ok (.putfield 59, 3) := by decide +kernel
theorem dX2_placeIn_76 : decode cX2_placeIn 76 = .ok (.return_, 1) := by decide +kernel
theorem dX2_weighIfWhole_0 : decode cX2_weighIfWhole 0 = .ok (.aload_n 0, 1) := by decide +kernel
theorem dX2_weighIfWhole_1 : decode cX2_weighIfWhole 1 = .ok (.invokevirtual 89, 3) := by decide +kernel
theorem dX2_weighIfWhole_4 : decode cX2_weighIfWhole 4 = .ok (.iconst 0, 1) := by decide +kernel
theorem dX2_weighIfWhole_5 : decode cX2_weighIfWhole 5 = .ok (.istore_n 1, 1) := by decide +kernel
theorem dX2_weighIfWhole_6 : decode cX2_weighIfWhole 6 = .ok (.iload_n 1, 1) := by decide +kernel
theorem dX2_weighIfWhole_7 : decode cX2_weighIfWhole 7 = .ok (.iconst 5, 1) := by decide +kernel
theorem dX2_weighIfWhole_8 : decode cX2_weighIfWhole 8 = .ok (.if_icmp .ge 29, 3) := by decide +kernel
theorem dX2_weighIfWhole_11 : decode cX2_weighIfWhole 11 = .ok (.aload_n 0, 1) := by decide +kernel
theorem dX2_weighIfWhole_12 : decode cX2_weighIfWhole 12 = .ok (.getfield 41, 3) := by decide +kernel
theorem dX2_weighIfWhole_15 : decode cX2_weighIfWhole 15 = .ok (.iload_n 1, 1) := by decide +kernel
theorem dX2_weighIfWhole_16 : decode cX2_weighIfWhole 16 = .ok (.invokestatic 62, 3) := by decide +kernel
theorem dX2_weighIfWhole_19 : decode cX2_weighIfWhole 19 = .ok (.ifCond .eq 12, 3) := by decide +kernel
theorem dX2_weighIfWhole_22 : decode cX2_weighIfWhole 22 = .ok (.aload_n 0, 1) := by decide +kernel
theorem dX2_weighIfWhole_23 : decode cX2_weighIfWhole 23 = .ok (.iload_n 1, 1) := by decide +kernel
theorem dX2_weighIfWhole_24 : decode cX2_weighIfWhole 24 = .ok (.invokevirtual 92, 3) := by decide +kernel
theorem dX2_weighIfWhole_27 : decode cX2_weighIfWhole 27 = .ok (.ifCond .ne 4, 3) := by decide +kernel
theorem dX2_weighIfWhole_30 : decode cX2_weighIfWhole 30 = .ok (.return_, 1) := by decide +kernel
theorem dX2_weighIfWhole_31 : decode cX2_weighIfWhole 31 = .ok (.iinc 1 1, 3) := by decide +kernel
theorem dX2_weighIfWhole_34 : decode cX2_weighIfWhole 34 = .ok (.goto (-28), 3) := by decide +kernel
theorem dX2_weighIfWhole_37 : decode cX2_weighIfWhole 37 = .ok (.aload_n 0, 1) := by decide +kernel
theorem dX2_weighIfWhole_38 : decode cX2_weighIfWhole 38 = .ok (.invokevirtual 95, 3) := by decide +kernel
theorem dX2_weighIfWhole_41 : decode cX2_weighIfWhole 41 = .ok (.return_, 1) := by decide +kernel
theorem dX2_shareKnown_0 : decode cX2_shareKnown 0 = .ok (.aload_n 0, 1) := by decide +kernel
theorem dX2_shareKnown_1 : decode cX2_shareKnown 1 = .ok (.getfield 18, 3) := by decide +kernel
theorem dX2_shareKnown_4 : decode cX2_shareKnown 4 = .ok (.bipush 31, 2) := by decide +kernel
theorem dX2_shareKnown_6 : decode cX2_shareKnown 6 = .ok (.invokestatic 31, 3) := by decide +kernel
theorem dX2_shareKnown_9 : decode cX2_shareKnown 9 = .ok (.iconst 0, 1) := by decide +kernel
theorem dX2_shareKnown_10 : decode cX2_shareKnown 10 = .ok (.istore_n 1, 1) := by decide +kernel
theorem dX2_shareKnown_11 : decode cX2_shareKnown 11 = .ok (.iload_n 1, 1) := by decide +kernel
theorem dX2_shareKnown_12 : decode cX2_shareKnown 12 = .ok (.aload_n 0, 1) := by decide +kernel
theorem dX2_shareKnown_13 : decode cX2_shareKnown 13 = .ok (.getfield 27, 3) := by decide +kernel
theorem dX2_shareKnown_16 : decode cX2_shareKnown 16 = .ok (.getfield 66, 3) := by decide +kernel
theorem dX2_shareKnown_19 : decode cX2_shareKnown 19 = .ok (.if_icmp .ge 40, 3) := by decide +kernel
theorem dX2_shareKnown_22 : decode cX2_shareKnown 22 = .ok (.aload_n 0, 1) := by decide +kernel
theorem dX2_shareKnown_23 : decode cX2_shareKnown 23 = .ok (.getfield 9, 3) := by decide +kernel
theorem dX2_shareKnown_26 : decode cX2_shareKnown 26 = .ok (.iload_n 1, 1) := by decide +kernel
theorem dX2_shareKnown_27 : decode cX2_shareKnown 27 = .ok (.iaload, 1) := by decide +kernel
theorem dX2_shareKnown_28 : decode cX2_shareKnown 28 = .ok (.istore_n 2, 1) := by decide +kernel
theorem dX2_shareKnown_29 : decode cX2_shareKnown 29 = .ok (.iload_n 2, 1) := by decide +kernel
theorem dX2_shareKnown_30 : decode cX2_shareKnown 30 = .ok (.invokestatic 98, 3) := by decide +kernel
theorem dX2_shareKnown_33 : decode cX2_shareKnown 33 = .ok (.ifCond .eq 20, 3) := by decide +kernel
theorem dX2_shareKnown_36 : decode cX2_shareKnown 36 = .ok (.aload_n 0, 1) := by decide +kernel
theorem dX2_shareKnown_37 : decode cX2_shareKnown 37 = .ok (.getfield 18, 3) := by decide +kernel
theorem dX2_shareKnown_40 : decode cX2_shareKnown 40 = .ok (.iload_n 2, 1) := by decide +kernel
theorem dX2_shareKnown_41 : decode cX2_shareKnown 41 = .ok (.dup2, 1) := by decide +kernel
theorem dX2_shareKnown_42 : decode cX2_shareKnown 42 = .ok (.iaload, 1) := by decide +kernel
theorem dX2_shareKnown_43 : decode cX2_shareKnown 43 = .ok (.aload_n 0, 1) := by decide +kernel
theorem dX2_shareKnown_44 : decode cX2_shareKnown 44 = .ok (.getfield 27, 3) := by decide +kernel
theorem dX2_shareKnown_47 : decode cX2_shareKnown 47 = .ok (.iload_n 1, 1) := by decide +kernel
theorem dX2_shareKnown_48 : decode cX2_shareKnown 48 = .ok (.invokevirtual 101, 3) := by decide +kernel
theorem dX2_shareKnown_51 : decode cX2_shareKnown 51 = .ok (.iand, 1) := by decide +kernel
theorem dX2_shareKnown_52 : decode cX2_shareKnown 52 = .ok (.iastore, 1) := by decide +kernel
theorem dX2_shareKnown_53 : decode cX2_shareKnown 53 = .ok (.iinc 1 1, 3) := by decide +kernel
theorem dX2_shareKnown_56 : decode cX2_shareKnown 56 = .ok (.goto (-45), 3) := by decide +kernel
theorem dX2_shareKnown_59 : decode cX2_shareKnown 59 = .ok (.return_, 1) := by decide +kernel
theorem dX2_reachesFloors_0 : decode cX2_reachesFloors 0 = .ok (.aload_n 0, 1) := by decide +kernel
theorem dX2_reachesFloors_1 : decode cX2_reachesFloors 1 = .ok (.getfield 18, 3) := by decide +kernel
theorem dX2_reachesFloors_4 : decode cX2_reachesFloors 4 = .ok (.iload_n 1, 1) := by decide +kernel
theorem dX2_reachesFloors_5 : decode cX2_reachesFloors 5 = .ok (.iaload, 1) := by decide +kernel
theorem dX2_reachesFloors_6 : decode cX2_reachesFloors 6 = .ok (.iconst 1, 1) := by decide +kernel
theorem dX2_reachesFloors_7 : decode cX2_reachesFloors 7 = .ok (.iload_n 1, 1) := by decide +kernel
theorem dX2_reachesFloors_8 : decode cX2_reachesFloors 8 = .ok (.ishl, 1) := by decide +kernel
theorem dX2_reachesFloors_9 : decode cX2_reachesFloors 9 = .ok (.ior, 1) := by decide +kernel
theorem dX2_reachesFloors_10 : decode cX2_reachesFloors 10 = .ok (.istore_n 2, 1) := by decide +kernel
theorem dX2_reachesFloors_11 : decode cX2_reachesFloors 11 = .ok (.iconst 0, 1) := by decide +kernel
theorem dX2_reachesFloors_12 : decode cX2_reachesFloors 12 = .ok (.istore_n 3, 1) := by decide +kernel
theorem dX2_reachesFloors_13 : decode cX2_reachesFloors 13 = .ok (.iload_n 3, 1) := by decide +kernel
theorem dX2_reachesFloors_14 : decode cX2_reachesFloors 14 = .ok (.iconst 5, 1) := by decide +kernel
theorem dX2_reachesFloors_15 : decode cX2_reachesFloors 15 = .ok (.if_icmp .ge 47, 3) := by decide +kernel
theorem dX2_reachesFloors_18 : decode cX2_reachesFloors 18 = .ok (.iload_n 3, 1) := by decide +kernel
theorem dX2_reachesFloors_19 : decode cX2_reachesFloors 19 = .ok (.iload_n 1, 1) := by decide +kernel
theorem dX2_reachesFloors_20 : decode cX2_reachesFloors 20 = .ok (.if_icmp .eq 36, 3) := by decide +kernel
theorem dX2_reachesFloors_23 : decode cX2_reachesFloors 23 = .ok (.aload_n 0, 1) := by decide +kernel
theorem dX2_reachesFloors_24 : decode cX2_reachesFloors 24 = .ok (.getfield 41, 3) := by decide +kernel
theorem dX2_reachesFloors_27 : decode cX2_reachesFloors 27 = .ok (.iload_n 3, 1) := by decide +kernel
theorem dX2_reachesFloors_28 : decode cX2_reachesFloors 28 = .ok (.invokestatic 62, 3) := by decide +kernel
theorem dX2_reachesFloors_31 : decode cX2_reachesFloors 31 = .ok (.ifCond .eq 25, 3) := by decide +kernel
theorem dX2_reachesFloors_34 : decode cX2_reachesFloors 34 = .ok (.aload_n 0, 1) := by decide +kernel
theorem dX2_reachesFloors_35 : decode cX2_reachesFloors 35 = .ok (.getfield 18, 3) := by decide +kernel
theorem dX2_reachesFloors_38 : decode cX2_reachesFloors 38 = .ok (.iload_n 1, 1) := by decide +kernel
theorem dX2_reachesFloors_39 : decode cX2_reachesFloors 39 = .ok (.iaload, 1) := by decide +kernel
theorem dX2_reachesFloors_40 : decode cX2_reachesFloors 40 = .ok (.iload_n 3, 1) := by decide +kernel
theorem dX2_reachesFloors_41 : decode cX2_reachesFloors 41 = .ok (.invokestatic 62, 3) := by decide +kernel
theorem dX2_reachesFloors_44 : decode cX2_reachesFloors 44 = .ok (.ifCond .eq 12, 3) := by decide +kernel
theorem dX2_reachesFloors_47 : decode cX2_reachesFloors 47 = .ok (.iload_n 2, 1) := by decide +kernel
theorem dX2_reachesFloors_48 : decode cX2_reachesFloors 48 = .ok (.aload_n 0, 1) := by decide +kernel
theorem dX2_reachesFloors_49 : decode cX2_reachesFloors 49 = .ok (.getfield 18, 3) := by decide +kernel
theorem dX2_reachesFloors_52 : decode cX2_reachesFloors 52 = .ok (.iload_n 3, 1) := by decide +kernel
theorem dX2_reachesFloors_53 : decode cX2_reachesFloors 53 = .ok (.iaload, 1) := by decide +kernel
theorem dX2_reachesFloors_54 : decode cX2_reachesFloors 54 = .ok (.ior, 1) := by decide +kernel
theorem dX2_reachesFloors_55 : decode cX2_reachesFloors 55 = .ok (.istore_n 2, 1) := by decide +kernel
theorem dX2_reachesFloors_56 : decode cX2_reachesFloors 56 = .ok (.iinc 3 1, 3) := by decide +kernel
theorem dX2_reachesFloors_59 : decode cX2_reachesFloors 59 = .ok (.goto (-46), 3) := by decide +kernel
theorem dX2_reachesFloors_62 : decode cX2_reachesFloors 62 = .ok (.aload_n 0, 1) := by decide +kernel
theorem dX2_reachesFloors_63 : decode cX2_reachesFloors 63 = .ok (.getfield 37, 3) := by decide +kernel
theorem dX2_reachesFloors_66 : decode cX2_reachesFloors 66 = .ok (.iload_n 2, 1) := by decide +kernel
theorem dX2_reachesFloors_67 : decode cX2_reachesFloors 67 = .ok (.iconst (-1), 1) := by decide +kernel
theorem dX2_reachesFloors_68 : decode cX2_reachesFloors 68 = .ok (.ixor, 1) := by decide +kernel
theorem dX2_reachesFloors_69 : decode cX2_reachesFloors 69 = .ok (.iand, 1) := by decide +kernel
theorem dX2_reachesFloors_70 : decode cX2_reachesFloors 70 = .ok (.ifCond .ne 7, 3) := by decide +kernel
theorem dX2_reachesFloors_73 : decode cX2_reachesFloors 73 = .ok (.iconst 1, 1) := by decide +kernel
theorem dX2_reachesFloors_74 : decode cX2_reachesFloors 74 = .ok (.goto 4, 3) := by decide +kernel
theorem dX2_reachesFloors_77 : decode cX2_reachesFloors 77 = .ok (.iconst 0, 1) := by decide +kernel
theorem dX2_reachesFloors_78 : decode cX2_reachesFloors 78 = .ok (.ireturn, 1) := by decide +kernel
theorem dX2_weigh_0 : decode cX2_weigh 0 = .ok (.iconst 0, 1) := by decide +kernel
theorem dX2_weigh_1 : decode cX2_weigh 1 = .ok (.istore_n 1, 1) := by decide +kernel
theorem dX2_weigh_2 : decode cX2_weigh 2 = .ok (.iconst 0, 1) := by decide +kernel
theorem dX2_weigh_3 : decode cX2_weigh 3 = .ok (.istore_n 2, 1) := by decide +kernel
theorem dX2_weigh_4 : decode cX2_weigh 4 = .ok (.iconst 0, 1) := by decide +kernel
theorem dX2_weigh_5 : decode cX2_weigh 5 = .ok (.istore_n 3, 1) := by decide +kernel
theorem dX2_weigh_6 : decode cX2_weigh 6 = .ok (.iload_n 3, 1) := by decide +kernel
theorem dX2_weigh_7 : decode cX2_weigh 7 = .ok (.aload_n 0, 1) := by decide +kernel
theorem dX2_weigh_8 : decode cX2_weigh 8 = .ok (.getfield 27, 3) := by decide +kernel
theorem dX2_weigh_11 : decode cX2_weigh 11 = .ok (.getfield 66, 3) := by decide +kernel
theorem dX2_weigh_14 : decode cX2_weigh 14 = .ok (.if_icmp .ge 65, 3) := by decide +kernel
end
section
theorem dX2_weigh_17 : decode cX2_weigh 17 = .ok (.aload_n 0, 1) := by decide +kernel
theorem dX2_weigh_18 : decode cX2_weigh 18 = .ok (.getfield 9, 3) := by decide +kernel
theorem dX2_weigh_21 : decode cX2_weigh 21 = .ok (.iload_n 3, 1) := by decide +kernel
theorem dX2_weigh_22 : decode cX2_weigh 22 = .ok (.iaload, 1) := by decide +kernel
theorem dX2_weigh_23 : decode cX2_weigh 23 = .ok (.iconst 5, 1) := by decide +kernel
theorem dX2_weigh_24 : decode cX2_weigh 24 = .ok (.if_icmp .ne 18, 3) := by decide +kernel
theorem dX2_weigh_27 : decode cX2_weigh 27 = .ok (.aload_n 0, 1) := by decide +kernel
theorem dX2_weigh_28 : decode cX2_weigh 28 = .ok (.dup, 1) := by decide +kernel
theorem dX2_weigh_29 : decode cX2_weigh 29 = .ok (.getfield 47, 3) := by decide +kernel
theorem dX2_weigh_32 : decode cX2_weigh 32 = .ok (.iconst 1, 1) := by decide +kernel
theorem dX2_weigh_33 : decode cX2_weigh 33 = .ok (.iload_n 3, 1) := by decide +kernel
theorem dX2_weigh_34 : decode cX2_weigh 34 = .ok (.ishl, 1) := by decide +kernel
theorem dX2_weigh_35 : decode cX2_weigh 35 = .ok (.ior, 1) := by decide +kernel
theorem dX2_weigh_36 : decode cX2_weigh 36 = .ok (.putfield 47, 3) := by decide +kernel
theorem dX2_weigh_39 : decode cX2_weigh 39 = .ok (.goto 14, 3) := by decide +kernel
theorem dX2_weigh_42 : decode cX2_weigh 42 = .ok (.iload_n 1, 1) := by decide +kernel
theorem dX2_weigh_43 : decode cX2_weigh 43 = .ok (.aload_n 0, 1) := by decide +kernel
theorem dX2_weigh_44 : decode cX2_weigh 44 = .ok (.getfield 27, 3) := by decide +kernel
theorem dX2_weigh_47 : decode cX2_weigh 47 = .ok (.iload_n 3, 1) := by decide +kernel
theorem dX2_weigh_48 : decode cX2_weigh 48 = .ok (.invokevirtual 105, 3) := by decide +kernel
theorem dX2_weigh_51 : decode cX2_weigh 51 = .ok (.iadd, 1) := by decide +kernel
theorem dX2_weigh_52 : decode cX2_weigh 52 = .ok (.istore_n 1, 1) := by decide +kernel
theorem dX2_weigh_53 : decode cX2_weigh 53 = .ok (.aload_n 0, 1) := by decide +kernel
theorem dX2_weigh_54 : decode cX2_weigh 54 = .ok (.getfield 9, 3) := by decide +kernel
theorem dX2_weigh_57 : decode cX2_weigh 57 = .ok (.iload_n 3, 1) := by decide +kernel
theorem dX2_weigh_58 : decode cX2_weigh 58 = .ok (.iaload, 1) := by decide +kernel
theorem dX2_weigh_59 : decode cX2_weigh 59 = .ok (.aload_n 0, 1) := by decide +kernel
theorem dX2_weigh_60 : decode cX2_weigh 60 = .ok (.getfield 27, 3) := by decide +kernel
theorem dX2_weigh_63 : decode cX2_weigh 63 = .ok (.iload_n 3, 1) := by decide +kernel
theorem dX2_weigh_64 : decode cX2_weigh 64 = .ok (.invokevirtual 108, 3) := by decide +kernel
theorem dX2_weigh_67 : decode cX2_weigh 67 = .ok (.if_icmp .eq 6, 3) := by decide +kernel
theorem dX2_weigh_70 : decode cX2_weigh 70 = .ok (.iinc 2 1, 3) := by decide +kernel
theorem dX2_weigh_73 : decode cX2_weigh 73 = .ok (.iinc 3 1, 3) := by decide +kernel
theorem dX2_weigh_76 : decode cX2_weigh 76 = .ok (.goto (-70), 3) := by decide +kernel
theorem dX2_weigh_79 : decode cX2_weigh 79 = .ok (.aload_n 0, 1) := by decide +kernel
theorem dX2_weigh_80 : decode cX2_weigh 80 = .ok (.iload_n 1, 1) := by decide +kernel
theorem dX2_weigh_81 : decode cX2_weigh 81 = .ok (.invokevirtual 111, 3) := by decide +kernel
theorem dX2_weigh_84 : decode cX2_weigh 84 = .ok (.aload_n 0, 1) := by decide +kernel
theorem dX2_weigh_85 : decode cX2_weigh 85 = .ok (.iload_n 2, 1) := by decide +kernel
theorem dX2_weigh_86 : decode cX2_weigh 86 = .ok (.iload_n 1, 1) := by decide +kernel
theorem dX2_weigh_87 : decode cX2_weigh 87 = .ok (.invokevirtual 114, 3) := by decide +kernel
theorem dX2_weigh_90 : decode cX2_weigh 90 = .ok (.aload_n 0, 1) := by decide +kernel
theorem dX2_weigh_91 : decode cX2_weigh 91 = .ok (.dup, 1) := by decide +kernel
theorem dX2_weigh_92 : decode cX2_weigh 92 = .ok (.getfield 44, 3) := by decide +kernel
theorem dX2_weigh_95 : decode cX2_weigh 95 = .ok (.iconst 1, 1) := by decide +kernel
theorem dX2_weigh_96 : decode cX2_weigh 96 = .ok (.iadd, 1) := by decide +kernel
theorem dX2_weigh_97 : decode cX2_weigh 97 = .ok (.putfield 44, 3) := by decide +kernel
theorem dX2_weigh_100 : decode cX2_weigh 100 = .ok (.return_, 1) := by decide +kernel
theorem dX2_keepIfCheaper_0 : decode cX2_keepIfCheaper 0 = .ok (.aload_n 0, 1) := by decide +kernel
theorem dX2_keepIfCheaper_1 : decode cX2_keepIfCheaper 1 = .ok (.getfield 44, 3) := by decide +kernel
theorem dX2_keepIfCheaper_4 : decode cX2_keepIfCheaper 4 = .ok (.ifCond .eq 11, 3) := by decide +kernel
theorem dX2_keepIfCheaper_7 : decode cX2_keepIfCheaper 7 = .ok (.iload_n 1, 1) := by decide +kernel
theorem dX2_keepIfCheaper_8 : decode cX2_keepIfCheaper 8 = .ok (.aload_n 0, 1) := by decide +kernel
theorem dX2_keepIfCheaper_9 : decode cX2_keepIfCheaper 9 = .ok (.getfield 50, 3) := by decide +kernel
theorem dX2_keepIfCheaper_12 : decode cX2_keepIfCheaper 12 = .ok (.if_icmp .ge 23, 3) := by decide +kernel
theorem dX2_keepIfCheaper_15 : decode cX2_keepIfCheaper 15 = .ok (.aload_n 0, 1) := by decide +kernel
theorem dX2_keepIfCheaper_16 : decode cX2_keepIfCheaper 16 = .ok (.iload_n 1, 1) := by decide +kernel
theorem dX2_keepIfCheaper_17 : decode cX2_keepIfCheaper 17 = .ok (.putfield 50, 3) := by decide +kernel
theorem dX2_keepIfCheaper_20 : decode cX2_keepIfCheaper 20 = .ok (.aload_n 0, 1) := by decide +kernel
theorem dX2_keepIfCheaper_21 : decode cX2_keepIfCheaper 21 = .ok (.getfield 9, 3) := by decide +kernel
theorem dX2_keepIfCheaper_24 : decode cX2_keepIfCheaper 24 = .ok (.iconst 0, 1) := by decide +kernel
theorem dX2_keepIfCheaper_25 : decode cX2_keepIfCheaper 25 = .ok (.aload_n 0, 1) := by decide +kernel
theorem dX2_keepIfCheaper_26 : decode cX2_keepIfCheaper 26 = .ok (.getfield 21, 3) := by decide +kernel
theorem dX2_keepIfCheaper_29 : decode cX2_keepIfCheaper 29 = .ok (.iconst 0, 1) := by decide +kernel
theorem dX2_keepIfCheaper_30 : decode cX2_keepIfCheaper 30 = .ok (.bipush 6, 2) := by decide +kernel
theorem dX2_keepIfCheaper_32 : decode cX2_keepIfCheaper 32 = .ok (.invokestatic 117, 3) := by decide +kernel
theorem dX2_keepIfCheaper_35 : decode cX2_keepIfCheaper 35 = .ok (.return_, 1) := by decide +kernel
theorem dX2_keepIfNearer_0 : decode cX2_keepIfNearer 0 = .ok (.aload_n 0, 1) := by decide +kernel
theorem dX2_keepIfNearer_1 : decode cX2_keepIfNearer 1 = .ok (.getfield 44, 3) := by decide +kernel
theorem dX2_keepIfNearer_4 : decode cX2_keepIfNearer 4 = .ok (.ifCond .eq 27, 3) := by decide +kernel
theorem dX2_keepIfNearer_7 : decode cX2_keepIfNearer 7 = .ok (.iload_n 1, 1) := by decide +kernel
theorem dX2_keepIfNearer_8 : decode cX2_keepIfNearer 8 = .ok (.aload_n 0, 1) := by decide +kernel
theorem dX2_keepIfNearer_9 : decode cX2_keepIfNearer 9 = .ok (.getfield 53, 3) := by decide +kernel
theorem dX2_keepIfNearer_12 : decode cX2_keepIfNearer 12 = .ok (.if_icmp .lt 19, 3) := by decide +kernel
theorem dX2_keepIfNearer_15 : decode cX2_keepIfNearer 15 = .ok (.iload_n 1, 1) := by decide +kernel
theorem dX2_keepIfNearer_16 : decode cX2_keepIfNearer 16 = .ok (.aload_n 0, 1) := by decide +kernel
theorem dX2_keepIfNearer_17 : decode cX2_keepIfNearer 17 = .ok (.getfield 53, 3) := by decide +kernel
theorem dX2_keepIfNearer_20 : decode cX2_keepIfNearer 20 = .ok (.if_icmp .ne 36, 3) := by decide +kernel
theorem dX2_keepIfNearer_23 : decode cX2_keepIfNearer 23 = .ok (.iload_n 2, 1) := by decide +kernel
theorem dX2_keepIfNearer_24 : decode cX2_keepIfNearer 24 = .ok (.aload_n 0, 1) := by decide +kernel
theorem dX2_keepIfNearer_25 : decode cX2_keepIfNearer 25 = .ok (.getfield 56, 3) := by decide +kernel
theorem dX2_keepIfNearer_28 : decode cX2_keepIfNearer 28 = .ok (.if_icmp .ge 28, 3) := by decide +kernel
theorem dX2_keepIfNearer_31 : decode cX2_keepIfNearer 31 = .ok (.aload_n 0, 1) := by decide +kernel
theorem dX2_keepIfNearer_32 : decode cX2_keepIfNearer 32 = .ok (.iload_n 1, 1) := by decide +kernel
theorem dX2_keepIfNearer_33 : decode cX2_keepIfNearer 33 = .ok (.putfield 53, 3) := by decide +kernel
theorem dX2_keepIfNearer_36 : decode cX2_keepIfNearer 36 = .ok (.aload_n 0, 1) := by decide +kernel
theorem dX2_keepIfNearer_37 : decode cX2_keepIfNearer 37 = .ok (.iload_n 2, 1) := by decide +kernel
theorem dX2_keepIfNearer_38 : decode cX2_keepIfNearer 38 = .ok (.putfield 56, 3) := by decide +kernel
theorem dX2_keepIfNearer_41 : decode cX2_keepIfNearer 41 = .ok (.aload_n 0, 1) := by decide +kernel
theorem dX2_keepIfNearer_42 : decode cX2_keepIfNearer 42 = .ok (.getfield 9, 3) := by decide +kernel
theorem dX2_keepIfNearer_45 : decode cX2_keepIfNearer 45 = .ok (.iconst 0, 1) := by decide +kernel
theorem dX2_keepIfNearer_46 : decode cX2_keepIfNearer 46 = .ok (.aload_n 0, 1) := by decide +kernel
theorem dX2_keepIfNearer_47 : decode cX2_keepIfNearer 47 = .ok (.getfield 24, 3) := by decide +kernel
theorem dX2_keepIfNearer_50 : decode cX2_keepIfNearer 50 = .ok (.iconst 0, 1) := by decide +kernel
theorem dX2_keepIfNearer_51 : decode cX2_keepIfNearer 51 = .ok (.bipush 6, 2) := by decide +kernel
theorem dX2_keepIfNearer_53 : decode cX2_keepIfNearer 53 = .ok (.invokestatic 117, 3) := by decide +kernel
theorem dX2_keepIfNearer_56 : decode cX2_keepIfNearer 56 = .ok (.return_, 1) := by decide +kernel
theorem dX3_init_0 : decode cX3_init 0 = .ok (.aload_n 0, 1) := by decide +kernel
theorem dX3_init_1 : decode cX3_init 1 = .ok (.invokespecial 1, 3) := by decide +kernel
theorem dX3_init_4 : decode cX3_init 4 = .ok (.aload_n 0, 1) := by decide +kernel
theorem dX3_init_5 : decode cX3_init 5 = .ok (.new 7, 3) := by decide +kernel
theorem dX3_init_8 : decode cX3_init 8 = .ok (.dup, 1) := by decide +kernel
theorem dX3_init_9 : decode cX3_init 9 = .ok (.invokespecial 9, 3) := by decide +kernel
theorem dX3_init_12 : decode cX3_init 12 = .ok (.putfield 10, 3) := by decide +kernel
theorem dX3_init_15 : decode cX3_init 15 = .ok (.aload_n 0, 1) := by decide +kernel
theorem dX3_init_16 : decode cX3_init 16 = .ok (.new 16, 3) := by decide +kernel
theorem dX3_init_19 : decode cX3_init 19 = .ok (.dup, 1) := by decide +kernel
theorem dX3_init_20 : decode cX3_init 20 = .ok (.aload_n 0, 1) := by decide +kernel
theorem dX3_init_21 : decode cX3_init 21 = .ok (.getfield 10, 3) := by decide +kernel
theorem dX3_init_24 : decode cX3_init 24 = .ok (.invokespecial 18, 3) := by decide +kernel
theorem dX3_init_27 : decode cX3_init 27 = .ok (.putfield 21, 3) := by decide +kernel
theorem dX3_init_30 : decode cX3_init 30 = .ok (.aload_n 0, 1) := by decide +kernel
theorem dX3_init_31 : decode cX3_init 31 = .ok (.new 25, 3) := by decide +kernel
theorem dX3_init_34 : decode cX3_init 34 = .ok (.dup, 1) := by decide +kernel
theorem dX3_init_35 : decode cX3_init 35 = .ok (.aload_n 0, 1) := by decide +kernel
theorem dX3_init_36 : decode cX3_init 36 = .ok (.getfield 10, 3) := by decide +kernel
theorem dX3_init_39 : decode cX3_init 39 = .ok (.invokespecial 27, 3) := by decide +kernel
theorem dX3_init_42 : decode cX3_init 42 = .ok (.putfield 28, 3) := by decide +kernel
theorem dX3_init_45 : decode cX3_init 45 = .ok (.aload_n 0, 1) := by decide +kernel
theorem dX3_init_46 : decode cX3_init 46 = .ok (.iconst 2, 1) := by decide +kernel
theorem dX3_init_47 : decode cX3_init 47 = .ok (.newarray .int, 2) := by decide +kernel
theorem dX3_init_49 : decode cX3_init 49 = .ok (.putfield 32, 3) := by decide +kernel
theorem dX3_init_52 : decode cX3_init 52 = .ok (.aload_n 0, 1) := by decide +kernel
theorem dX3_init_53 : decode cX3_init 53 = .ok (.iconst 2, 1) := by decide +kernel
theorem dX3_init_54 : decode cX3_init 54 = .ok (.newarray .int, 2) := by decide +kernel
theorem dX3_init_56 : decode cX3_init 56 = .ok (.putfield 36, 3) := by decide +kernel
theorem dX3_init_59 : decode cX3_init 59 = .ok (.aload_n 0, 1) := by decide +kernel
theorem dX3_init_60 : decode cX3_init 60 = .ok (.iconst 1, 1) := by decide +kernel
theorem dX3_init_61 : decode cX3_init 61 = .ok (.putfield 39, 3) := by decide +kernel
theorem dX3_init_64 : decode cX3_init 64 = .ok (.aload_n 0, 1) := by decide +kernel
theorem dX3_init_65 : decode cX3_init 65 = .ok (.bipush 20, 2) := by decide +kernel
theorem dX3_init_67 : decode cX3_init 67 = .ok (.putfield 43, 3) := by decide +kernel
theorem dX3_init_70 : decode cX3_init 70 = .ok (.return_, 1) := by decide +kernel
theorem dX3_person_0 : decode cX3_person 0 = .ok (.iload_n 1, 1) := by decide +kernel
theorem dX3_person_1 : decode cX3_person 1 = .ok (.invokestatic 46, 3) := by decide +kernel
theorem dX3_person_4 : decode cX3_person 4 = .ok (.ifCond .eq 18, 3) := by decide +kernel
theorem dX3_person_7 : decode cX3_person 7 = .ok (.iload_n 2, 1) := by decide +kernel
theorem dX3_person_8 : decode cX3_person 8 = .ok (.invokestatic 46, 3) := by decide +kernel
theorem dX3_person_11 : decode cX3_person 11 = .ok (.ifCond .eq 11, 3) := by decide +kernel
theorem dX3_person_14 : decode cX3_person 14 = .ok (.iload_n 2, 1) := by decide +kernel
theorem dX3_person_15 : decode cX3_person 15 = .ok (.iload_n 1, 1) := by decide +kernel
theorem dX3_person_16 : decode cX3_person 16 = .ok (.iconst (-1), 1) := by decide +kernel
theorem dX3_person_17 : decode cX3_person 17 = .ok (.ixor, 1) := by decide +kernel
theorem dX3_person_18 : decode cX3_person 18 = .ok (.iand, 1) := by decide +kernel
theorem dX3_person_19 : decode cX3_person 19 = .ok (.ifCond .eq 6, 3) := by decide +kernel
theorem dX3_person_22 : decode cX3_person 22 = .ok (.bipush (-3), 2) := by decide +kernel
theorem dX3_person_24 : decode cX3_person 24 = .ok (.ireturn, 1) := by decide +kernel
theorem dX3_person_25 : decode cX3_person 25 = .ok (.iload_n 3, 1) := by decide +kernel
theorem dX3_person_26 : decode cX3_person 26 = .ok (.iconst 1, 1) := by decide +kernel
theorem dX3_person_27 : decode cX3_person 27 = .ok (.if_icmp .lt 9, 3) := by decide +kernel
theorem dX3_person_30 : decode cX3_person 30 = .ok (.iload_n 3, 1) := by decide +kernel
theorem dX3_person_31 : decode cX3_person 31 = .ok (.bipush 99, 2) := by decide +kernel
theorem dX3_person_33 : decode cX3_person 33 = .ok (.if_icmp .le 6, 3) := by decide +kernel
theorem dX3_person_36 : decode cX3_person 36 = .ok (.bipush (-3), 2) := by decide +kernel
theorem dX3_person_38 : decode cX3_person 38 = .ok (.ireturn, 1) := by decide +kernel
theorem dX3_person_39 : decode cX3_person 39 = .ok (.aload_n 0, 1) := by decide +kernel
theorem dX3_person_40 : decode cX3_person 40 = .ok (.getfield 10, 3) := by decide +kernel
theorem dX3_person_43 : decode cX3_person 43 = .ok (.iload_n 1, 1) := by decide +kernel
theorem dX3_person_44 : decode cX3_person 44 = .ok (.iload_n 2, 1) := by decide +kernel
theorem dX3_person_45 : decode cX3_person 45 = .ok (.iload_n 3, 1) := by decide +kernel
theorem dX3_person_46 : decode cX3_person 46 = .ok (.invokevirtual 50, 3) := by decide +kernel
theorem dX3_person_49 : decode cX3_person 49 = .ok (.ireturn, 1) := by decide +kernel
theorem dX3_ill_0 : decode cX3_ill 0 = .ok (.aload_n 0, 1) := by decide +kernel
theorem dX3_ill_1 : decode cX3_ill 1 = .ok (.getfield 10, 3) := by decide +kernel
theorem dX3_ill_4 : decode cX3_ill 4 = .ok (.iload_n 1, 1) := by decide +kernel
theorem dX3_ill_5 : decode cX3_ill 5 = .ok (.invokevirtual 54, 3) := by decide +kernel
theorem dX3_ill_8 : decode cX3_ill 8 = .ok (.ifCond .ne 6, 3) := by decide +kernel
theorem dX3_ill_11 : decode cX3_ill 11 = .ok (.bipush (-2), 2) := by decide +kernel
theorem dX3_ill_13 : decode cX3_ill 13 = .ok (.ireturn, 1) := by decide +kernel
theorem dX3_ill_14 : decode cX3_ill 14 = .ok (.aload_n 0, 1) := by decide +kernel
theorem dX3_ill_15 : decode cX3_ill 15 = .ok (.getfield 10, 3) := by decide +kernel
theorem dX3_ill_18 : decode cX3_ill 18 = .ok (.iload_n 1, 1) := by decide +kernel
theorem dX3_ill_19 : decode cX3_ill 19 = .ok (.invokevirtual 57, 3) := by decide +kernel
theorem dX3_ill_22 : decode cX3_ill 22 = .ok (.ifCond .eq 7, 3) := by decide +kernel
theorem dX3_ill_25 : decode cX3_ill 25 = .ok (.iconst 1, 1) := by decide +kernel
theorem dX3_ill_26 : decode cX3_ill 26 = .ok (.goto 4, 3) := by decide +kernel
theorem dX3_ill_29 : decode cX3_ill 29 = .ok (.iconst 0, 1) := by decide +kernel
theorem dX3_ill_30 : decode cX3_ill 30 = .ok (.istore_n 3, 1) := by decide +kernel
theorem dX3_ill_31 : decode cX3_ill 31 = .ok (.aload_n 0, 1) := by decide +kernel
theorem dX3_ill_32 : decode cX3_ill 32 = .ok (.getfield 10, 3) := by decide +kernel
theorem dX3_ill_35 : decode cX3_ill 35 = .ok (.iload_n 1, 1) := by decide +kernel
theorem dX3_ill_36 : decode cX3_ill 36 = .ok (.iload_n 2, 1) := by decide +kernel
theorem dX3_ill_37 : decode cX3_ill 37 = .ok (.invokevirtual 60, 3) := by decide +kernel
theorem dX3_ill_40 : decode cX3_ill 40 = .ok (.iload_n 3, 1) := by decide +kernel
theorem dX3_ill_41 : decode cX3_ill 41 = .ok (.ireturn, 1) := by decide +kernel
theorem dX3_session_0 : decode cX3_session 0 = .ok (.iload_n 1, 1) := by decide +kernel
theorem dX3_session_1 : decode cX3_session 1 = .ok (.invokestatic 64, 3) := by decide +kernel
theorem dX3_session_4 : decode cX3_session 4 = .ok (.ifCond .ne 6, 3) := by decide +kernel
theorem dX3_session_7 : decode cX3_session 7 = .ok (.bipush (-2), 2) := by decide +kernel
theorem dX3_session_9 : decode cX3_session 9 = .ok (.ireturn, 1) := by decide +kernel
theorem dX3_session_10 : decode cX3_session 10 = .ok (.iload_n 2, 1) := by decide +kernel
theorem dX3_session_11 : decode cX3_session 11 = .ok (.invokestatic 46, 3) := by decide +kernel
theorem dX3_session_14 : decode cX3_session 14 = .ok (.ifCond .eq 10, 3) := by decide +kernel
theorem dX3_session_17 : decode cX3_session 17 = .ok (.iload_n 3, 1) := by decide +kernel
theorem dX3_session_18 : decode cX3_session 18 = .ok (.invokestatic 46, 3) := by decide +kernel
theorem dX3_session_21 : decode cX3_session 21 = .ok (.ifCond .ne 6, 3) := by decide +kernel
theorem dX3_session_24 : decode cX3_session 24 = .ok (.bipush (-3), 2) := by decide +kernel
theorem dX3_session_26 : decode cX3_session 26 = .ok (.ireturn, 1) := by decide +kernel
theorem dX3_session_27 : decode cX3_session 27 = .ok (.aload_n 0, 1) := by decide +kernel
theorem dX3_session_28 : decode cX3_session 28 = .ok (.getfield 32, 3) := by decide +kernel
theorem dX3_session_31 : decode cX3_session 31 = .ok (.iload_n 1, 1) := by decide +kernel
theorem dX3_session_32 : decode cX3_session 32 = .ok (.iload_n 2, 1) := by decide +kernel
theorem dX3_session_33 : decode cX3_session 33 = .ok (.iastore, 1) := by decide +kernel
theorem dX3_session_34 : decode cX3_session 34 = .ok (.aload_n 0, 1) := by decide +kernel
theorem dX3_session_35 : decode cX3_session 35 = .ok (.getfield 36, 3) := by decide +kernel
theorem dX3_session_38 : decode cX3_session 38 = .ok (.iload_n 1, 1) := by decide +kernel
theorem dX3_session_39 : decode cX3_session 39 = .ok (.iload_n 3, 1) := by decide +kernel
theorem dX3_session_40 : decode cX3_session 40 = .ok (.iastore, 1) := by decide +kernel
theorem dX3_session_41 : decode cX3_session 41 = .ok (.iconst 1, 1) := by decide +kernel
theorem dX3_session_42 : decode cX3_session 42 = .ok (.ireturn, 1) := by decide +kernel
theorem dX3_seats_0 : decode cX3_seats 0 = .ok (.iload_n 1, 1) := by decide +kernel
theorem dX3_seats_1 : decode cX3_seats 1 = .ok (.iconst 1, 1) := by decide +kernel
theorem dX3_seats_2 : decode cX3_seats 2 = .ok (.if_icmp .lt 8, 3) := by decide +kernel
theorem dX3_seats_5 : decode cX3_seats 5 = .ok (.iload_n 1, 1) := by decide +kernel
theorem dX3_seats_6 : decode cX3_seats 6 = .ok (.iconst 2, 1) := by decide +kernel
theorem dX3_seats_7 : decode cX3_seats 7 = .ok (.if_icmp .le 6, 3) := by decide +kernel
theorem dX3_seats_10 : decode cX3_seats 10 = .ok (.bipush (-3), 2) := by decide +kernel
theorem dX3_seats_12 : decode cX3_seats 12 = .ok (.ireturn, 1) := by decide +kernel
theorem dX3_seats_13 : decode cX3_seats 13 = .ok (.aload_n 0, 1) := by decide +kernel
theorem dX3_seats_14 : decode cX3_seats 14 = .ok (.getfield 39, 3) := by decide +kernel
theorem dX3_seats_17 : decode cX3_seats 17 = .ok (.istore_n 2, 1) := by decide +kernel
theorem dX3_seats_18 : decode cX3_seats 18 = .ok (.aload_n 0, 1) := by decide +kernel
theorem dX3_seats_19 : decode cX3_seats 19 = .ok (.iload_n 1, 1) := by decide +kernel
theorem dX3_seats_20 : decode cX3_seats 20 = .ok (.putfield 39, 3) := by decide +kernel
theorem dX3_seats_23 : decode cX3_seats 23 = .ok (.iload_n 2, 1) := by decide +kernel
theorem dX3_seats_24 : decode cX3_seats 24 = .ok (.ireturn, 1) := by decide +kernel
theorem dX3_whole_0 : decode cX3_whole 0 = .ok (.iload_n 1, 1) := by decide +kernel
theorem dX3_whole_1 : decode cX3_whole 1 = .ok (.invokestatic 64, 3) := by decide +kernel
theorem dX3_whole_4 : decode cX3_whole 4 = .ok (.ifCond .ne 6, 3) := by decide +kernel
theorem dX3_whole_7 : decode cX3_whole 7 = .ok (.bipush (-2), 2) := by decide +kernel
theorem dX3_whole_9 : decode cX3_whole 9 = .ok (.ireturn, 1) := by decide +kernel
theorem dX3_whole_10 : decode cX3_whole 10 = .ok (.aload_n 0, 1) := by decide +kernel
theorem dX3_whole_11 : decode cX3_whole 11 = .ok (.iload_n 1, 1) := by decide +kernel
theorem dX3_whole_12 : decode cX3_whole 12 = .ok (.invokevirtual 67, 3) := by decide +kernel
theorem dX3_whole_15 : decode cX3_whole 15 = .ok (.aload_n 0, 1) := by decide +kernel
theorem dX3_whole_16 : decode cX3_whole 16 = .ok (.getfield 21, 3) := by decide +kernel
theorem dX3_whole_19 : decode cX3_whole 19 = .ok (.getfield 71, 3) := by decide +kernel
theorem dX3_whole_22 : decode cX3_whole 22 = .ok (.ireturn, 1) := by decide +kernel
theorem dX3_cheapest_0 : decode cX3_cheapest 0 = .ok (.iload_n 1, 1) := by decide +kernel
theorem dX3_cheapest_1 : decode cX3_cheapest 1 = .ok (.invokestatic 64, 3) := by decide +kernel
theorem dX3_cheapest_4 : decode cX3_cheapest 4 = .ok (.ifCond .ne 6, 3) := by decide +kernel
theorem dX3_cheapest_7 : decode cX3_cheapest 7 = .ok (.bipush (-2), 2) := by decide +kernel
theorem dX3_cheapest_9 : decode cX3_cheapest 9 = .ok (.ireturn, 1) := by decide +kernel
theorem dX3_cheapest_10 : decode cX3_cheapest 10 = .ok (.aload_n 0, 1) := by decide +kernel
theorem dX3_cheapest_11 : decode cX3_cheapest 11 = .ok (.iload_n 1, 1) := by decide +kernel
theorem dX3_cheapest_12 : decode cX3_cheapest 12 = .ok (.invokevirtual 67, 3) := by decide +kernel
theorem dX3_cheapest_15 : decode cX3_cheapest 15 = .ok (.aload_n 0, 1) := by decide +kernel
theorem dX3_cheapest_16 : decode cX3_cheapest 16 = .ok (.getfield 21, 3) := by decide +kernel
theorem dX3_cheapest_19 : decode cX3_cheapest 19 = .ok (.getfield 74, 3) := by decide +kernel
theorem dX3_cheapest_22 : decode cX3_cheapest 22 = .ok (.ireturn, 1) := by decide +kernel
theorem dX3_nearest_0 : decode cX3_nearest 0 = .ok (.iload_n 1, 1) := by decide +kernel
theorem dX3_nearest_1 : decode cX3_nearest 1 = .ok (.invokestatic 64, 3) := by decide +kernel
theorem dX3_nearest_4 : decode cX3_nearest 4 = .ok (.ifCond .ne 6, 3) := by decide +kernel
theorem dX3_nearest_7 : decode cX3_nearest 7 = .ok (.bipush (-2), 2) := by decide +kernel
theorem dX3_nearest_9 : decode cX3_nearest 9 = .ok (.ireturn, 1) := by decide +kernel
theorem dX3_nearest_10 : decode cX3_nearest 10 = .ok (.aload_n 0, 1) := by decide +kernel
theorem dX3_nearest_11 : decode cX3_nearest 11 = .ok (.iload_n 1, 1) := by decide +kernel
theorem dX3_nearest_12 : decode cX3_nearest 12 = .ok (.invokevirtual 67, 3) := by decide +kernel
theorem dX3_nearest_15 : decode cX3_nearest 15 = .ok (.aload_n 0, 1) := by decide +kernel
theorem dX3_nearest_16 : decode cX3_nearest 16 = .ok (.getfield 21, 3) := by decide +kernel
theorem dX3_nearest_19 : decode cX3_nearest 19 = .ok (.getfield 77, 3) := by decide +kernel
theorem dX3_nearest_22 : decode cX3_nearest 22 = .ok (.ireturn, 1) := by decide +kernel
theorem dX3_take_0 : decode cX3_take 0 = .ok (.iload_n 1, 1) := by decide +kernel
theorem dX3_take_1 : decode cX3_take 1 = .ok (.invokestatic 64, 3) := by decide +kernel
theorem dX3_take_4 : decode cX3_take 4 = .ok (.ifCond .ne 6, 3) := by decide +kernel
theorem dX3_take_7 : decode cX3_take 7 = .ok (.bipush (-2), 2) := by decide +kernel
theorem dX3_take_9 : decode cX3_take 9 = .ok (.ireturn, 1) := by decide +kernel
theorem dX3_take_10 : decode cX3_take 10 = .ok (.iload_n 2, 1) := by decide +kernel
theorem dX3_take_11 : decode cX3_take 11 = .ok (.ifCond .eq 11, 3) := by decide +kernel
theorem dX3_take_14 : decode cX3_take 14 = .ok (.iload_n 2, 1) := by decide +kernel
theorem dX3_take_15 : decode cX3_take 15 = .ok (.iconst 1, 1) := by decide +kernel
theorem dX3_take_16 : decode cX3_take 16 = .ok (.if_icmp .eq 6, 3) := by decide +kernel
theorem dX3_take_19 : decode cX3_take 19 = .ok (.bipush (-3), 2) := by decide +kernel
theorem dX3_take_21 : decode cX3_take 21 = .ok (.ireturn, 1) := by decide +kernel
theorem dX3_take_22 : decode cX3_take 22 = .ok (.aload_n 0, 1) := by decide +kernel
theorem dX3_take_23 : decode cX3_take 23 = .ok (.iload_n 1, 1) := by decide +kernel
theorem dX3_take_24 : decode cX3_take 24 = .ok (.invokevirtual 67, 3) := by decide +kernel
theorem dX3_take_27 : decode cX3_take 27 = .ok (.aload_n 0, 1) := by decide +kernel
theorem dX3_take_28 : decode cX3_take 28 = .ok (.getfield 21, 3) := by decide +kernel
theorem dX3_take_31 : decode cX3_take 31 = .ok (.getfield 71, 3) := by decide +kernel
theorem dX3_take_34 : decode cX3_take 34 = .ok (.ifCond .ne 6, 3) := by decide +kernel
theorem dX3_take_37 : decode cX3_take 37 = .ok (.bipush (-4), 2) := by decide +kernel
theorem dX3_take_39 : decode cX3_take 39 = .ok (.ireturn, 1) := by decide +kernel
theorem dX3_take_40 : decode cX3_take 40 = .ok (.iload_n 2, 1) := by decide +kernel
theorem dX3_take_41 : decode cX3_take 41 = .ok (.ifCond .ne 25, 3) := by decide +kernel
theorem dX3_take_44 : decode cX3_take 44 = .ok (.aload_n 0, 1) := by decide +kernel
theorem dX3_take_45 : decode cX3_take 45 = .ok (.getfield 10, 3) := by decide +kernel
theorem dX3_take_48 : decode cX3_take 48 = .ok (.aload_n 0, 1) := by decide +kernel
theorem dX3_take_49 : decode cX3_take 49 = .ok (.getfield 21, 3) := by decide +kernel
theorem dX3_take_52 : decode cX3_take 52 = .ok (.getfield 80, 3) := by decide +kernel
theorem dX3_take_55 : decode cX3_take 55 = .ok (.invokevirtual 83, 3) := by decide +kernel
theorem dX3_take_58 : decode cX3_take 58 = .ok (.aload_n 0, 1) := by decide +kernel
theorem dX3_take_59 : decode cX3_take 59 = .ok (.getfield 21, 3) := by decide +kernel
theorem dX3_take_62 : decode cX3_take 62 = .ok (.getfield 74, 3) := by decide +kernel
theorem dX3_take_65 : decode cX3_take 65 = .ok (.ireturn, 1) := by decide +kernel
theorem dX3_take_66 : decode cX3_take 66 = .ok (.aload_n 0, 1) := by decide +kernel
theorem dX3_take_67 : decode cX3_take 67 = .ok (.getfield 10, 3) := by decide +kernel
theorem dX3_take_70 : decode cX3_take 70 = .ok (.aload_n 0, 1) := by decide +kernel
theorem dX3_take_71 : decode cX3_take 71 = .ok (.getfield 21, 3) := by decide +kernel
theorem dX3_take_74 : decode cX3_take 74 = .ok (.getfield 87, 3) := by decide +kernel
theorem dX3_take_77 : decode cX3_take 77 = .ok (.invokevirtual 83, 3) := by decide +kernel
theorem dX3_take_80 : decode cX3_take 80 = .ok (.aload_n 0, 1) := by decide +kernel
theorem dX3_take_81 : decode cX3_take 81 = .ok (.getfield 21, 3) := by decide +kernel
theorem dX3_take_84 : decode cX3_take 84 = .ok (.getfield 90, 3) := by decide +kernel
theorem dX3_take_87 : decode cX3_take 87 = .ok (.ireturn, 1) := by decide +kernel
theorem dX3_leave_0 : decode cX3_leave 0 = .ok (.aload_n 0, 1) := by decide +kernel
theorem dX3_leave_1 : decode cX3_leave 1 = .ok (.getfield 10, 3) := by decide +kernel
theorem dX3_leave_4 : decode cX3_leave 4 = .ok (.invokevirtual 93, 3) := by decide +kernel
theorem dX3_leave_7 : decode cX3_leave 7 = .ok (.istore_n 1, 1) := by decide +kernel
theorem dX3_leave_8 : decode cX3_leave 8 = .ok (.aload_n 0, 1) := by decide +kernel
theorem dX3_leave_9 : decode cX3_leave 9 = .ok (.getfield 10, 3) := by decide +kernel
theorem dX3_leave_12 : decode cX3_leave 12 = .ok (.invokevirtual 97, 3) := by decide +kernel
theorem dX3_leave_15 : decode cX3_leave 15 = .ok (.iload_n 1, 1) := by decide +kernel
theorem dX3_leave_16 : decode cX3_leave 16 = .ok (.ireturn, 1) := by decide +kernel
theorem dX3_booth_0 : decode cX3_booth 0 = .ok (.aload_n 0, 1) := by decide +kernel
theorem dX3_booth_1 : decode cX3_booth 1 = .ok (.getfield 10, 3) := by decide +kernel
theorem dX3_booth_4 : decode cX3_booth 4 = .ok (.iload_n 1, 1) := by decide +kernel
theorem dX3_booth_5 : decode cX3_booth 5 = .ok (.invokevirtual 54, 3) := by decide +kernel
theorem dX3_booth_8 : decode cX3_booth 8 = .ok (.ifCond .ne 6, 3) := by decide +kernel
theorem dX3_booth_11 : decode cX3_booth 11 = .ok (.bipush (-2), 2) := by decide +kernel
theorem dX3_booth_13 : decode cX3_booth 13 = .ok (.ireturn, 1) := by decide +kernel
theorem dX3_booth_14 : decode cX3_booth 14 = .ok (.aload_n 0, 1) := by decide +kernel
theorem dX3_booth_15 : decode cX3_booth 15 = .ok (.getfield 10, 3) := by decide +kernel
theorem dX3_booth_18 : decode cX3_booth 18 = .ok (.iload_n 1, 1) := by decide +kernel
theorem dX3_booth_19 : decode cX3_booth 19 = .ok (.invokevirtual 100, 3) := by decide +kernel
theorem dX3_booth_22 : decode cX3_booth 22 = .ok (.ireturn, 1) := by decide +kernel
theorem dX3_lacking_0 : decode cX3_lacking 0 = .ok (.iload_n 1, 1) := by decide +kernel
theorem dX3_lacking_1 : decode cX3_lacking 1 = .ok (.invokestatic 64, 3) := by decide +kernel
theorem dX3_lacking_4 : decode cX3_lacking 4 = .ok (.ifCond .ne 6, 3) := by decide +kernel
theorem dX3_lacking_7 : decode cX3_lacking 7 = .ok (.bipush (-2), 2) := by decide +kernel
theorem dX3_lacking_9 : decode cX3_lacking 9 = .ok (.ireturn, 1) := by decide +kernel
theorem dX3_lacking_10 : decode cX3_lacking 10 = .ok (.iconst 0, 1) := by decide +kernel
theorem dX3_lacking_11 : decode cX3_lacking 11 = .ok (.istore_n 2, 1) := by decide +kernel
theorem dX3_lacking_12 : decode cX3_lacking 12 = .ok (.iconst 0, 1) := by decide +kernel
theorem dX3_lacking_13 : decode cX3_lacking 13 = .ok (.istore_n 3, 1) := by decide +kernel
theorem dX3_lacking_14 : decode cX3_lacking 14 = .ok (.iload_n 3, 1) := by decide +kernel
theorem dX3_lacking_15 : decode cX3_lacking 15 = .ok (.iconst 5, 1) := by decide +kernel
theorem dX3_lacking_16 : decode cX3_lacking 16 = .ok (.if_icmp .ge 43, 3) := by decide +kernel
theorem dX3_lacking_19 : decode cX3_lacking 19 = .ok (.aload_n 0, 1) := by decide +kernel
theorem dX3_lacking_20 : decode cX3_lacking 20 = .ok (.getfield 36, 3) := by decide +kernel
theorem dX3_lacking_23 : decode cX3_lacking 23 = .ok (.iload_n 1, 1) := by decide +kernel
theorem dX3_lacking_24 : decode cX3_lacking 24 = .ok (.iaload, 1) := by decide +kernel
theorem dX3_lacking_25 : decode cX3_lacking 25 = .ok (.iload_n 3, 1) := by decide +kernel
theorem dX3_lacking_26 : decode cX3_lacking 26 = .ok (.invokestatic 104, 3) := by decide +kernel
theorem dX3_lacking_29 : decode cX3_lacking 29 = .ok (.ifCond .eq 24, 3) := by decide +kernel
theorem dX3_lacking_32 : decode cX3_lacking 32 = .ok (.aload_n 0, 1) := by decide +kernel
theorem dX3_lacking_33 : decode cX3_lacking 33 = .ok (.getfield 10, 3) := by decide +kernel
theorem dX3_lacking_36 : decode cX3_lacking 36 = .ok (.iload_n 3, 1) := by decide +kernel
theorem dX3_lacking_37 : decode cX3_lacking 37 = .ok (.invokevirtual 108, 3) := by decide +kernel
theorem dX3_lacking_40 : decode cX3_lacking 40 = .ok (.aload_n 0, 1) := by decide +kernel
theorem dX3_lacking_41 : decode cX3_lacking 41 = .ok (.getfield 39, 3) := by decide +kernel
theorem dX3_lacking_44 : decode cX3_lacking 44 = .ok (.if_icmp .ge 9, 3) := by decide +kernel
theorem dX3_lacking_47 : decode cX3_lacking 47 = .ok (.iload_n 2, 1) := by decide +kernel
theorem dX3_lacking_48 : decode cX3_lacking 48 = .ok (.iconst 1, 1) := by decide +kernel
theorem dX3_lacking_49 : decode cX3_lacking 49 = .ok (.iload_n 3, 1) := by decide +kernel
theorem dX3_lacking_50 : decode cX3_lacking 50 = .ok (.ishl, 1) := by decide +kernel
theorem dX3_lacking_51 : decode cX3_lacking 51 = .ok (.ior, 1) := by decide +kernel
theorem dX3_lacking_52 : decode cX3_lacking 52 = .ok (.istore_n 2, 1) := by decide +kernel
theorem dX3_lacking_53 : decode cX3_lacking 53 = .ok (.iinc 3 1, 3) := by decide +kernel
theorem dX3_lacking_56 : decode cX3_lacking 56 = .ok (.goto (-42), 3) := by decide +kernel
theorem dX3_lacking_59 : decode cX3_lacking 59 = .ok (.iload_n 2, 1) := by decide +kernel
theorem dX3_lacking_60 : decode cX3_lacking 60 = .ok (.ireturn, 1) := by decide +kernel
theorem dX3_needed_0 : decode cX3_needed 0 = .ok (.aload_n 0, 1) := by decide +kernel
theorem dX3_needed_1 : decode cX3_needed 1 = .ok (.getfield 10, 3) := by decide +kernel
theorem dX3_needed_4 : decode cX3_needed 4 = .ok (.iload_n 1, 1) := by decide +kernel
theorem dX3_needed_5 : decode cX3_needed 5 = .ok (.invokevirtual 54, 3) := by decide +kernel
theorem dX3_needed_8 : decode cX3_needed 8 = .ok (.ifCond .eq 10, 3) := by decide +kernel
theorem dX3_needed_11 : decode cX3_needed 11 = .ok (.iload_n 2, 1) := by decide +kernel
theorem dX3_needed_12 : decode cX3_needed 12 = .ok (.invokestatic 64, 3) := by decide +kernel
theorem dX3_needed_15 : decode cX3_needed 15 = .ok (.ifCond .ne 6, 3) := by decide +kernel
theorem dX3_needed_18 : decode cX3_needed 18 = .ok (.bipush (-2), 2) := by decide +kernel
theorem dX3_needed_20 : decode cX3_needed 20 = .ok (.ireturn, 1) := by decide +kernel
theorem dX3_needed_21 : decode cX3_needed 21 = .ok (.aload_n 0, 1) := by decide +kernel
theorem dX3_needed_22 : decode cX3_needed 22 = .ok (.iload_n 2, 1) := by decide +kernel
theorem dX3_needed_23 : decode cX3_needed 23 = .ok (.invokevirtual 67, 3) := by decide +kernel
theorem dX3_needed_26 : decode cX3_needed 26 = .ok (.aload_n 0, 1) := by decide +kernel
theorem dX3_needed_27 : decode cX3_needed 27 = .ok (.getfield 21, 3) := by decide +kernel
theorem dX3_needed_30 : decode cX3_needed 30 = .ok (.getfield 71, 3) := by decide +kernel
theorem dX3_needed_33 : decode cX3_needed 33 = .ok (.ifCond .le 21, 3) := by decide +kernel
theorem dX3_needed_36 : decode cX3_needed 36 = .ok (.aload_n 0, 1) := by decide +kernel
theorem dX3_needed_37 : decode cX3_needed 37 = .ok (.getfield 21, 3) := by decide +kernel
theorem dX3_needed_40 : decode cX3_needed 40 = .ok (.getfield 111, 3) := by decide +kernel
theorem dX3_needed_43 : decode cX3_needed 43 = .ok (.iload_n 1, 1) := by decide +kernel
theorem dX3_needed_44 : decode cX3_needed 44 = .ok (.invokestatic 104, 3) := by decide +kernel
theorem dX3_needed_47 : decode cX3_needed 47 = .ok (.ifCond .ne 7, 3) := by decide +kernel
theorem dX3_needed_50 : decode cX3_needed 50 = .ok (.iconst 1, 1) := by decide +kernel
theorem dX3_needed_51 : decode cX3_needed 51 = .ok (.goto 4, 3) := by decide +kernel
theorem dX3_needed_54 : decode cX3_needed 54 = .ok (.iconst 0, 1) := by decide +kernel
theorem dX3_needed_55 : decode cX3_needed 55 = .ok (.ireturn, 1) := by decide +kernel
theorem dX3_speak_0 : decode cX3_speak 0 = .ok (.iload_n 1, 1) := by decide +kernel
theorem dX3_speak_1 : decode cX3_speak 1 = .ok (.invokestatic 114, 3) := by decide +kernel
theorem dX3_speak_4 : decode cX3_speak 4 = .ok (.ifCond .eq 10, 3) := by decide +kernel
theorem dX3_speak_7 : decode cX3_speak 7 = .ok (.iload_n 2, 1) := by decide +kernel
theorem dX3_speak_8 : decode cX3_speak 8 = .ok (.invokestatic 117, 3) := by decide +kernel
theorem dX3_speak_11 : decode cX3_speak 11 = .ok (.ifCond .ne 6, 3) := by decide +kernel
theorem dX3_speak_14 : decode cX3_speak 14 = .ok (.bipush (-2), 2) := by decide +kernel
theorem dX3_speak_16 : decode cX3_speak 16 = .ok (.ireturn, 1) := by decide +kernel
theorem dX3_speak_17 : decode cX3_speak 17 = .ok (.iload_n 3, 1) := by decide +kernel
theorem dX3_speak_18 : decode cX3_speak 18 = .ok (.iconst 1, 1) := by decide +kernel
theorem dX3_speak_19 : decode cX3_speak 19 = .ok (.if_icmp .lt 9, 3) := by decide +kernel
theorem dX3_speak_22 : decode cX3_speak 22 = .ok (.iload_n 3, 1) := by decide +kernel
theorem dX3_speak_23 : decode cX3_speak 23 = .ok (.bipush 9, 2) := by decide +kernel
theorem dX3_speak_25 : decode cX3_speak 25 = .ok (.if_icmp .le 6, 3) := by decide +kernel
theorem dX3_speak_28 : decode cX3_speak 28 = .ok (.bipush (-3), 2) := by decide +kernel
theorem dX3_speak_30 : decode cX3_speak 30 = .ok (.ireturn, 1) := by decide +kernel
theorem dX3_speak_31 : decode cX3_speak 31 = .ok (.aload_n 0, 1) := by decide +kernel
theorem dX3_speak_32 : decode cX3_speak 32 = .ok (.getfield 28, 3) := by decide +kernel
theorem dX3_speak_35 : decode cX3_speak 35 = .ok (.iload_n 1, 1) := by decide +kernel
theorem dX3_speak_36 : decode cX3_speak 36 = .ok (.iload_n 2, 1) := by decide +kernel
theorem dX3_speak_37 : decode cX3_speak 37 = .ok (.iload_n 3, 1) := by decide +kernel
theorem dX3_speak_38 : decode cX3_speak 38 = .ok (.invokevirtual 120, 3) := by decide +kernel
theorem dX3_speak_41 : decode cX3_speak 41 = .ok (.iconst 1, 1) := by decide +kernel
theorem dX3_speak_42 : decode cX3_speak 42 = .ok (.ireturn, 1) := by decide +kernel
theorem dX3_silence_0 : decode cX3_silence 0 = .ok (.iload_n 1, 1) := by decide +kernel
theorem dX3_silence_1 : decode cX3_silence 1 = .ok (.invokestatic 114, 3) := by decide +kernel
theorem dX3_silence_4 : decode cX3_silence 4 = .ok (.ifCond .ne 6, 3) := by decide +kernel
theorem dX3_silence_7 : decode cX3_silence 7 = .ok (.bipush (-2), 2) := by decide +kernel
theorem dX3_silence_9 : decode cX3_silence 9 = .ok (.ireturn, 1) := by decide +kernel
theorem dX3_silence_10 : decode cX3_silence 10 = .ok (.aload_n 0, 1) := by decide +kernel
theorem dX3_silence_11 : decode cX3_silence 11 = .ok (.getfield 28, 3) := by decide +kernel
theorem dX3_silence_14 : decode cX3_silence 14 = .ok (.iload_n 1, 1) := by decide +kernel
theorem dX3_silence_15 : decode cX3_silence 15 = .ok (.invokevirtual 124, 3) := by decide +kernel
theorem dX3_silence_18 : decode cX3_silence 18 = .ok (.ifCond .eq 7, 3) := by decide +kernel
theorem dX3_silence_21 : decode cX3_silence 21 = .ok (.iconst 0, 1) := by decide +kernel
theorem dX3_silence_22 : decode cX3_silence 22 = .ok (.goto 4, 3) := by decide +kernel
theorem dX3_silence_25 : decode cX3_silence 25 = .ok (.iconst 1, 1) := by decide +kernel
theorem dX3_silence_26 : decode cX3_silence 26 = .ok (.istore_n 2, 1) := by decide +kernel
theorem dX3_silence_27 : decode cX3_silence 27 = .ok (.aload_n 0, 1) := by decide +kernel
theorem dX3_silence_28 : decode cX3_silence 28 = .ok (.getfield 28, 3) := by decide +kernel
theorem dX3_silence_31 : decode cX3_silence 31 = .ok (.iload_n 1, 1) := by decide +kernel
theorem dX3_silence_32 : decode cX3_silence 32 = .ok (.invokevirtual 127, 3) := by decide +kernel
theorem dX3_silence_35 : decode cX3_silence 35 = .ok (.iload_n 2, 1) := by decide +kernel
theorem dX3_silence_36 : decode cX3_silence 36 = .ok (.ireturn, 1) := by decide +kernel
theorem dX3_limit_0 : decode cX3_limit 0 = .ok (.iload_n 1, 1) := by decide +kernel
theorem dX3_limit_1 : decode cX3_limit 1 = .ok (.iconst 5, 1) := by decide +kernel
theorem dX3_limit_2 : decode cX3_limit 2 = .ok (.if_icmp .lt 9, 3) := by decide +kernel
theorem dX3_limit_5 : decode cX3_limit 5 = .ok (.iload_n 1, 1) := by decide +kernel
theorem dX3_limit_6 : decode cX3_limit 6 = .ok (.bipush 60, 2) := by decide +kernel
theorem dX3_limit_8 : decode cX3_limit 8 = .ok (.if_icmp .le 6, 3) := by decide +kernel
theorem dX3_limit_11 : decode cX3_limit 11 = .ok (.bipush (-3), 2) := by decide +kernel
theorem dX3_limit_13 : decode cX3_limit 13 = .ok (.ireturn, 1) := by decide +kernel
theorem dX3_limit_14 : decode cX3_limit 14 = .ok (.aload_n 0, 1) := by decide +kernel
theorem dX3_limit_15 : decode cX3_limit 15 = .ok (.getfield 43, 3) := by decide +kernel
theorem dX3_limit_18 : decode cX3_limit 18 = .ok (.istore_n 2, 1) := by decide +kernel
theorem dX3_limit_19 : decode cX3_limit 19 = .ok (.aload_n 0, 1) := by decide +kernel
theorem dX3_limit_20 : decode cX3_limit 20 = .ok (.iload_n 1, 1) := by decide +kernel
theorem dX3_limit_21 : decode cX3_limit 21 = .ok (.putfield 43, 3) := by decide +kernel
theorem dX3_limit_24 : decode cX3_limit 24 = .ok (.iload_n 2, 1) := by decide +kernel
theorem dX3_limit_25 : decode cX3_limit 25 = .ok (.ireturn, 1) := by decide +kernel
theorem dX3_on_0 : decode cX3_on 0 = .ok (.iload_n 1, 1) := by decide +kernel
theorem dX3_on_1 : decode cX3_on 1 = .ok (.invokestatic 117, 3) := by decide +kernel
theorem dX3_on_4 : decode cX3_on 4 = .ok (.ifCond .eq 10, 3) := by decide +kernel
theorem dX3_on_7 : decode cX3_on 7 = .ok (.iload_n 2, 1) := by decide +kernel
theorem dX3_on_8 : decode cX3_on 8 = .ok (.invokestatic 114, 3) := by decide +kernel
theorem dX3_on_11 : decode cX3_on 11 = .ok (.ifCond .ne 6, 3) := by decide +kernel
theorem dX3_on_14 : decode cX3_on 14 = .ok (.bipush (-2), 2) := by decide +kernel
theorem dX3_on_16 : decode cX3_on 16 = .ok (.ireturn, 1) := by decide +kernel
theorem dX3_on_17 : decode cX3_on 17 = .ok (.aload_n 0, 1) := by decide +kernel
theorem dX3_on_18 : decode cX3_on 18 = .ok (.getfield 28, 3) := by decide +kernel
theorem dX3_on_21 : decode cX3_on 21 = .ok (.iload_n 2, 1) := by decide +kernel
theorem dX3_on_22 : decode cX3_on 22 = .ok (.invokevirtual 130, 3) := by decide +kernel
theorem dX3_on_25 : decode cX3_on 25 = .ok (.aload_n 0, 1) := by decide +kernel
theorem dX3_on_26 : decode cX3_on 26 = .ok (.getfield 28, 3) := by decide +kernel
theorem dX3_on_29 : decode cX3_on 29 = .ok (.getfield 133, 3) := by decide +kernel
theorem dX3_on_32 : decode cX3_on 32 = .ok (.iload_n 1, 1) := by decide +kernel
theorem dX3_on_33 : decode cX3_on 33 = .ok (.iaload, 1) := by decide +kernel
theorem dX3_on_34 : decode cX3_on 34 = .ok (.ireturn, 1) := by decide +kernel
theorem dX3_heard_0 : decode cX3_heard 0 = .ok (.iload_n 1, 1) := by decide +kernel
theorem dX3_heard_1 : decode cX3_heard 1 = .ok (.invokestatic 117, 3) := by decide +kernel
theorem dX3_heard_4 : decode cX3_heard 4 = .ok (.ifCond .eq 10, 3) := by decide +kernel
theorem dX3_heard_7 : decode cX3_heard 7 = .ok (.iload_n 2, 1) := by decide +kernel
theorem dX3_heard_8 : decode cX3_heard 8 = .ok (.invokestatic 114, 3) := by decide +kernel
theorem dX3_heard_11 : decode cX3_heard 11 = .ok (.ifCond .ne 6, 3) := by decide +kernel
theorem dX3_heard_14 : decode cX3_heard 14 = .ok (.bipush (-2), 2) := by decide +kernel
theorem dX3_heard_16 : decode cX3_heard 16 = .ok (.ireturn, 1) := by decide +kernel
theorem dX3_heard_17 : decode cX3_heard 17 = .ok (.aload_n 0, 1) := by decide +kernel
theorem dX3_heard_18 : decode cX3_heard 18 = .ok (.getfield 28, 3) := by decide +kernel
theorem dX3_heard_21 : decode cX3_heard 21 = .ok (.iload_n 2, 1) := by decide +kernel
theorem dX3_heard_22 : decode cX3_heard 22 = .ok (.invokevirtual 130, 3) := by decide +kernel
theorem dX3_heard_25 : decode cX3_heard 25 = .ok (.aload_n 0, 1) := by decide +kernel
theorem dX3_heard_26 : decode cX3_heard 26 = .ok (.getfield 28, 3) := by decide +kernel
theorem dX3_heard_29 : decode cX3_heard 29 = .ok (.getfield 136, 3) := by decide +kernel
theorem dX3_heard_32 : decode cX3_heard 32 = .ok (.iload_n 1, 1) := by decide +kernel
theorem dX3_heard_33 : decode cX3_heard 33 = .ok (.iaload, 1) := by decide +kernel
theorem dX3_heard_34 : decode cX3_heard 34 = .ok (.ireturn, 1) := by decide +kernel
theorem dX3_tired_0 : decode cX3_tired 0 = .ok (.aload_n 0, 1) := by decide +kernel
theorem dX3_tired_1 : decode cX3_tired 1 = .ok (.getfield 10, 3) := by decide +kernel
theorem dX3_tired_4 : decode cX3_tired 4 = .ok (.iload_n 1, 1) := by decide +kernel
theorem dX3_tired_5 : decode cX3_tired 5 = .ok (.invokevirtual 54, 3) := by decide +kernel
theorem dX3_tired_8 : decode cX3_tired 8 = .ok (.ifCond .eq 10, 3) := by decide +kernel
theorem dX3_tired_11 : decode cX3_tired 11 = .ok (.iload_n 2, 1) := by decide +kernel
theorem dX3_tired_12 : decode cX3_tired 12 = .ok (.invokestatic 114, 3) := by decide +kernel
theorem dX3_tired_15 : decode cX3_tired 15 = .ok (.ifCond .ne 6, 3) := by decide +kernel
theorem dX3_tired_18 : decode cX3_tired 18 = .ok (.bipush (-2), 2) := by decide +kernel
theorem dX3_tired_20 : decode cX3_tired 20 = .ok (.ireturn, 1) := by decide +kernel
theorem dX3_tired_21 : decode cX3_tired 21 = .ok (.aload_n 0, 1) := by decide +kernel
theorem dX3_tired_22 : decode cX3_tired 22 = .ok (.getfield 28, 3) := by decide +kernel
theorem dX3_tired_25 : decode cX3_tired 25 = .ok (.iload_n 2, 1) := by decide +kernel
theorem dX3_tired_26 : decode cX3_tired 26 = .ok (.invokevirtual 130, 3) := by decide +kernel
theorem dX3_tired_29 : decode cX3_tired 29 = .ok (.aload_n 0, 1) := by decide +kernel
theorem dX3_tired_30 : decode cX3_tired 30 = .ok (.getfield 28, 3) := by decide +kernel
theorem dX3_tired_33 : decode cX3_tired 33 = .ok (.getfield 139, 3) := by decide +kernel
theorem dX3_tired_36 : decode cX3_tired 36 = .ok (.iload_n 1, 1) := by decide +kernel
theorem dX3_tired_37 : decode cX3_tired 37 = .ok (.iaload, 1) := by decide +kernel
theorem dX3_tired_38 : decode cX3_tired 38 = .ok (.ireturn, 1) := by decide +kernel
theorem dX3_late_0 : decode cX3_late 0 = .ok (.iload_n 1, 1) := by decide +kernel
theorem dX3_late_1 : decode cX3_late 1 = .ok (.invokestatic 117, 3) := by decide +kernel
theorem dX3_late_4 : decode cX3_late 4 = .ok (.ifCond .ne 6, 3) := by decide +kernel
theorem dX3_late_7 : decode cX3_late 7 = .ok (.bipush (-2), 2) := by decide +kernel
theorem dX3_late_9 : decode cX3_late 9 = .ok (.ireturn, 1) := by decide +kernel
theorem dX3_late_10 : decode cX3_late 10 = .ok (.aload_n 0, 1) := by decide +kernel
theorem dX3_late_11 : decode cX3_late 11 = .ok (.getfield 28, 3) := by decide +kernel
theorem dX3_late_14 : decode cX3_late 14 = .ok (.iload_n 1, 1) := by decide +kernel
theorem dX3_late_15 : decode cX3_late 15 = .ok (.invokevirtual 142, 3) := by decide +kernel
theorem dX3_late_18 : decode cX3_late 18 = .ok (.ireturn, 1) := by decide +kernel
theorem dX3_worn_0 : decode cX3_worn 0 = .ok (.aload_n 0, 1) := by decide +kernel
theorem dX3_worn_1 : decode cX3_worn 1 = .ok (.getfield 28, 3) := by decide +kernel
theorem dX3_worn_4 : decode cX3_worn 4 = .ok (.aload_n 0, 1) := by decide +kernel
theorem dX3_worn_5 : decode cX3_worn 5 = .ok (.getfield 43, 3) := by decide +kernel
theorem dX3_worn_8 : decode cX3_worn 8 = .ok (.invokevirtual 145, 3) := by decide +kernel
theorem dX3_worn_11 : decode cX3_worn 11 = .ok (.ireturn, 1) := by decide +kernel
theorem dX3_count_0 : decode cX3_count 0 = .ok (.iload_n 1, 1) := by decide +kernel
theorem dX3_count_1 : decode cX3_count 1 = .ok (.tableswitch 75 0 4 #[35, 43, 54, 62, 70], 35) := by decide +kernel
theorem dX3_count_36 : decode cX3_count 36 = .ok (.aload_n 0, 1) := by decide +kernel
theorem dX3_count_37 : decode cX3_count 37 = .ok (.getfield 10, 3) := by decide +kernel
theorem dX3_count_40 : decode cX3_count 40 = .ok (.getfield 148, 3) := by decide +kernel
theorem dX3_count_43 : decode cX3_count 43 = .ok (.ireturn, 1) := by decide +kernel
theorem dX3_count_44 : decode cX3_count 44 = .ok (.aload_n 0, 1) := by decide +kernel
theorem dX3_count_45 : decode cX3_count 45 = .ok (.getfield 10, 3) := by decide +kernel
theorem dX3_count_48 : decode cX3_count 48 = .ok (.getfield 151, 3) := by decide +kernel
theorem dX3_count_51 : decode cX3_count 51 = .ok (.invokestatic 154, 3) := by decide +kernel
theorem dX3_count_54 : decode cX3_count 54 = .ok (.ireturn, 1) := by decide +kernel
theorem dX3_count_55 : decode cX3_count 55 = .ok (.aload_n 0, 1) := by decide +kernel
theorem dX3_count_56 : decode cX3_count 56 = .ok (.getfield 10, 3) := by decide +kernel
theorem dX3_count_59 : decode cX3_count 59 = .ok (.invokevirtual 93, 3) := by decide +kernel
theorem dX3_count_62 : decode cX3_count 62 = .ok (.ireturn, 1) := by decide +kernel
theorem dX3_count_63 : decode cX3_count 63 = .ok (.aload_n 0, 1) := by decide +kernel
theorem dX3_count_64 : decode cX3_count 64 = .ok (.getfield 28, 3) := by decide +kernel
theorem dX3_count_67 : decode cX3_count 67 = .ok (.invokevirtual 159, 3) := by decide +kernel
theorem dX3_count_70 : decode cX3_count 70 = .ok (.ireturn, 1) := by decide +kernel
theorem dX3_count_71 : decode cX3_count 71 = .ok (.aload_n 0, 1) := by decide +kernel
theorem dX3_count_72 : decode cX3_count 72 = .ok (.getfield 39, 3) := by decide +kernel
theorem dX3_count_75 : decode cX3_count 75 = .ok (.ireturn, 1) := by decide +kernel
theorem dX3_count_76 : decode cX3_count 76 = .ok (.bipush (-3), 2) := by decide +kernel
theorem dX3_count_78 : decode cX3_count 78 = .ok (.ireturn, 1) := by decide +kernel
theorem dX3_searchTeams_0 : decode cX3_searchTeams 0 = .ok (.iload_n 1, 1) := by decide +kernel
theorem dX3_searchTeams_1 : decode cX3_searchTeams 1 = .ok (.invokestatic 64, 3) := by decide +kernel
theorem dX3_searchTeams_4 : decode cX3_searchTeams 4 = .ok (.ifCond .eq 34, 3) := by decide +kernel
theorem dX3_searchTeams_7 : decode cX3_searchTeams 7 = .ok (.aload_n 0, 1) := by decide +kernel
theorem dX3_searchTeams_8 : decode cX3_searchTeams 8 = .ok (.getfield 21, 3) := by decide +kernel
theorem dX3_searchTeams_11 : decode cX3_searchTeams 11 = .ok (.aload_n 0, 1) := by decide +kernel
theorem dX3_searchTeams_12 : decode cX3_searchTeams 12 = .ok (.getfield 32, 3) := by decide +kernel
theorem dX3_searchTeams_15 : decode cX3_searchTeams 15 = .ok (.iload_n 1, 1) := by decide +kernel
theorem dX3_searchTeams_16 : decode cX3_searchTeams 16 = .ok (.iaload, 1) := by decide +kernel
theorem dX3_searchTeams_17 : decode cX3_searchTeams 17 = .ok (.aload_n 0, 1) := by decide +kernel
theorem dX3_searchTeams_18 : decode cX3_searchTeams 18 = .ok (.getfield 36, 3) := by decide +kernel
theorem dX3_searchTeams_21 : decode cX3_searchTeams 21 = .ok (.iload_n 1, 1) := by decide +kernel
theorem dX3_searchTeams_22 : decode cX3_searchTeams 22 = .ok (.iaload, 1) := by decide +kernel
theorem dX3_searchTeams_23 : decode cX3_searchTeams 23 = .ok (.aload_n 0, 1) := by decide +kernel
theorem dX3_searchTeams_24 : decode cX3_searchTeams 24 = .ok (.getfield 39, 3) := by decide +kernel
theorem dX3_searchTeams_27 : decode cX3_searchTeams 27 = .ok (.invokevirtual 162, 3) := by decide +kernel
theorem dX3_searchTeams_30 : decode cX3_searchTeams 30 = .ok (.aload_n 0, 1) := by decide +kernel
theorem dX3_searchTeams_31 : decode cX3_searchTeams 31 = .ok (.getfield 21, 3) := by decide +kernel
theorem dX3_searchTeams_34 : decode cX3_searchTeams 34 = .ok (.iconst 0, 1) := by decide +kernel
theorem dX3_searchTeams_35 : decode cX3_searchTeams 35 = .ok (.invokevirtual 165, 3) := by decide +kernel
theorem dX3_searchTeams_38 : decode cX3_searchTeams 38 = .ok (.return_, 1) := by decide +kernel
theorem dX3_isSession_0 : decode cX3_isSession 0 = .ok (.iload_n 0, 1) := by decide +kernel
theorem dX3_isSession_1 : decode cX3_isSession 1 = .ok (.ifCond .lt 12, 3) := by decide +kernel
theorem dX3_isSession_4 : decode cX3_isSession 4 = .ok (.iload_n 0, 1) := by decide +kernel
theorem dX3_isSession_5 : decode cX3_isSession 5 = .ok (.iconst 2, 1) := by decide +kernel
theorem dX3_isSession_6 : decode cX3_isSession 6 = .ok (.if_icmp .ge 7, 3) := by decide +kernel
theorem dX3_isSession_9 : decode cX3_isSession 9 = .ok (.iconst 1, 1) := by decide +kernel
theorem dX3_isSession_10 : decode cX3_isSession 10 = .ok (.goto 4, 3) := by decide +kernel
theorem dX3_isSession_13 : decode cX3_isSession 13 = .ok (.iconst 0, 1) := by decide +kernel
theorem dX3_isSession_14 : decode cX3_isSession 14 = .ok (.ireturn, 1) := by decide +kernel
theorem dX3_isTongue_0 : decode cX3_isTongue 0 = .ok (.iload_n 0, 1) := by decide +kernel
theorem dX3_isTongue_1 : decode cX3_isTongue 1 = .ok (.ifCond .lt 12, 3) := by decide +kernel
theorem dX3_isTongue_4 : decode cX3_isTongue 4 = .ok (.iload_n 0, 1) := by decide +kernel
theorem dX3_isTongue_5 : decode cX3_isTongue 5 = .ok (.iconst 5, 1) := by decide +kernel
theorem dX3_isTongue_6 : decode cX3_isTongue 6 = .ok (.if_icmp .ge 7, 3) := by decide +kernel
theorem dX3_isTongue_9 : decode cX3_isTongue 9 = .ok (.iconst 1, 1) := by decide +kernel
theorem dX3_isTongue_10 : decode cX3_isTongue 10 = .ok (.goto 4, 3) := by decide +kernel
theorem dX3_isTongue_13 : decode cX3_isTongue 13 = .ok (.iconst 0, 1) := by decide +kernel
theorem dX3_isTongue_14 : decode cX3_isTongue 14 = .ok (.ireturn, 1) := by decide +kernel
theorem dX3_isHalf_0 : decode cX3_isHalf 0 = .ok (.iload_n 0, 1) := by decide +kernel
theorem dX3_isHalf_1 : decode cX3_isHalf 1 = .ok (.ifCond .lt 13, 3) := by decide +kernel
theorem dX3_isHalf_4 : decode cX3_isHalf 4 = .ok (.iload_n 0, 1) := by decide +kernel
theorem dX3_isHalf_5 : decode cX3_isHalf 5 = .ok (.bipush 16, 2) := by decide +kernel
theorem dX3_isHalf_7 : decode cX3_isHalf 7 = .ok (.if_icmp .ge 7, 3) := by decide +kernel
theorem dX3_isHalf_10 : decode cX3_isHalf 10 = .ok (.iconst 1, 1) := by decide +kernel
theorem dX3_isHalf_11 : decode cX3_isHalf 11 = .ok (.goto 4, 3) := by decide +kernel
theorem dX3_isHalf_14 : decode cX3_isHalf 14 = .ok (.iconst 0, 1) := by decide +kernel
theorem dX3_isHalf_15 : decode cX3_isHalf 15 = .ok (.ireturn, 1) := by decide +kernel
theorem dX3_areTongues_0 : decode cX3_areTongues 0 = .ok (.iload_n 0, 1) := by decide +kernel
theorem dX3_areTongues_1 : decode cX3_areTongues 1 = .ok (.bipush (-32), 2) := by decide +kernel
theorem dX3_areTongues_3 : decode cX3_areTongues 3 = .ok (.iand, 1) := by decide +kernel
theorem dX3_areTongues_4 : decode cX3_areTongues 4 = .ok (.ifCond .ne 7, 3) := by decide +kernel
theorem dX3_areTongues_7 : decode cX3_areTongues 7 = .ok (.iconst 1, 1) := by decide +kernel
theorem dX3_areTongues_8 : decode cX3_areTongues 8 = .ok (.goto 4, 3) := by decide +kernel
theorem dX3_areTongues_11 : decode cX3_areTongues 11 = .ok (.iconst 0, 1) := by decide +kernel
theorem dX3_areTongues_12 : decode cX3_areTongues 12 = .ok (.ireturn, 1) := by decide +kernel
theorem dX3_holds_0 : decode cX3_holds 0 = .ok (.iload_n 0, 1) := by decide +kernel
theorem dX3_holds_1 : decode cX3_holds 1 = .ok (.iload_n 1, 1) := by decide +kernel
theorem dX3_holds_2 : decode cX3_holds 2 = .ok (.ishr, 1) := by decide +kernel
theorem dX3_holds_3 : decode cX3_holds 3 = .ok (.iconst 1, 1) := by decide +kernel
theorem dX3_holds_4 : decode cX3_holds 4 = .ok (.iand, 1) := by decide +kernel
theorem dX3_holds_5 : decode cX3_holds 5 = .ok (.iconst 1, 1) := by decide +kernel
theorem dX3_holds_6 : decode cX3_holds 6 = .ok (.if_icmp .ne 7, 3) := by decide +kernel
theorem dX3_holds_9 : decode cX3_holds 9 = .ok (.iconst 1, 1) := by decide +kernel
theorem dX3_holds_10 : decode cX3_holds 10 = .ok (.goto 4, 3) := by decide +kernel
theorem dX3_holds_13 : decode cX3_holds 13 = .ok (.iconst 0, 1) := by decide +kernel
theorem dX3_holds_14 : decode cX3_holds 14 = .ok (.ireturn, 1) := by decide +kernel
theorem dX4_init_0 : decode cX4_init 0 = .ok (.aload_n 0, 1) := by decide +kernel
theorem dX4_init_1 : decode cX4_init 1 = .ok (.invokespecial 1, 3) := by decide +kernel
theorem dX4_init_4 : decode cX4_init 4 = .ok (.aload_n 0, 1) := by decide +kernel
theorem dX4_init_5 : decode cX4_init 5 = .ok (.bipush 6, 2) := by decide +kernel
theorem dX4_init_7 : decode cX4_init 7 = .ok (.newarray .int, 2) := by decide +kernel
theorem dX4_init_9 : decode cX4_init 9 = .ok (.putfield 7, 3) := by decide +kernel
theorem dX4_init_12 : decode cX4_init 12 = .ok (.aload_n 0, 1) := by decide +kernel
theorem dX4_init_13 : decode cX4_init 13 = .ok (.bipush 6, 2) := by decide +kernel
theorem dX4_init_15 : decode cX4_init 15 = .ok (.newarray .int, 2) := by decide +kernel
theorem dX4_init_17 : decode cX4_init 17 = .ok (.putfield 13, 3) := by decide +kernel
theorem dX4_init_20 : decode cX4_init 20 = .ok (.aload_n 0, 1) := by decide +kernel
theorem dX4_init_21 : decode cX4_init 21 = .ok (.bipush 6, 2) := by decide +kernel
theorem dX4_init_23 : decode cX4_init 23 = .ok (.newarray .int, 2) := by decide +kernel
theorem dX4_init_25 : decode cX4_init 25 = .ok (.putfield 16, 3) := by decide +kernel
theorem dX4_init_28 : decode cX4_init 28 = .ok (.aload_n 0, 1) := by decide +kernel
theorem dX4_init_29 : decode cX4_init 29 = .ok (.bipush 6, 2) := by decide +kernel
theorem dX4_init_31 : decode cX4_init 31 = .ok (.newarray .boolean, 2) := by decide +kernel
theorem dX4_init_33 : decode cX4_init 33 = .ok (.putfield 19, 3) := by decide +kernel
theorem dX4_init_36 : decode cX4_init 36 = .ok (.aload_n 0, 1) := by decide +kernel
theorem dX4_init_37 : decode cX4_init 37 = .ok (.iconst 2, 1) := by decide +kernel
theorem dX4_init_38 : decode cX4_init 38 = .ok (.newarray .int, 2) := by decide +kernel
theorem dX4_init_40 : decode cX4_init 40 = .ok (.putfield 23, 3) := by decide +kernel
theorem dX4_init_43 : decode cX4_init 43 = .ok (.aload_n 0, 1) := by decide +kernel
theorem dX4_init_44 : decode cX4_init 44 = .ok (.iconst 2, 1) := by decide +kernel
theorem dX4_init_45 : decode cX4_init 45 = .ok (.newarray .int, 2) := by decide +kernel
theorem dX4_init_47 : decode cX4_init 47 = .ok (.putfield 26, 3) := by decide +kernel
theorem dX4_init_50 : decode cX4_init 50 = .ok (.aload_n 0, 1) := by decide +kernel
theorem dX4_init_51 : decode cX4_init 51 = .ok (.iconst 1, 1) := by decide +kernel
theorem dX4_init_52 : decode cX4_init 52 = .ok (.putfield 29, 3) := by decide +kernel
theorem dX4_init_55 : decode cX4_init 55 = .ok (.aload_n 0, 1) := by decide +kernel
theorem dX4_init_56 : decode cX4_init 56 = .ok (.bipush 6, 2) := by decide +kernel
theorem dX4_init_58 : decode cX4_init 58 = .ok (.newarray .int, 2) := by decide +kernel
theorem dX4_init_60 : decode cX4_init 60 = .ok (.putfield 33, 3) := by decide +kernel
theorem dX4_init_63 : decode cX4_init 63 = .ok (.aload_n 0, 1) := by decide +kernel
theorem dX4_init_64 : decode cX4_init 64 = .ok (.bipush 16, 2) := by decide +kernel
theorem dX4_init_66 : decode cX4_init 66 = .ok (.newarray .int, 2) := by decide +kernel
theorem dX4_init_68 : decode cX4_init 68 = .ok (.putfield 36, 3) := by decide +kernel
theorem dX4_init_71 : decode cX4_init 71 = .ok (.aload_n 0, 1) := by decide +kernel
theorem dX4_init_72 : decode cX4_init 72 = .ok (.bipush 16, 2) := by decide +kernel
theorem dX4_init_74 : decode cX4_init 74 = .ok (.newarray .int, 2) := by decide +kernel
theorem dX4_init_76 : decode cX4_init 76 = .ok (.putfield 39, 3) := by decide +kernel
theorem dX4_init_79 : decode cX4_init 79 = .ok (.aload_n 0, 1) := by decide +kernel
theorem dX4_init_80 : decode cX4_init 80 = .ok (.bipush 20, 2) := by decide +kernel
theorem dX4_init_82 : decode cX4_init 82 = .ok (.putfield 42, 3) := by decide +kernel
theorem dX4_init_85 : decode cX4_init 85 = .ok (.aload_n 0, 1) := by decide +kernel
theorem dX4_init_86 : decode cX4_init 86 = .ok (.bipush 6, 2) := by decide +kernel
theorem dX4_init_88 : decode cX4_init 88 = .ok (.newarray .int, 2) := by decide +kernel
theorem dX4_init_90 : decode cX4_init 90 = .ok (.putfield 45, 3) := by decide +kernel
theorem dX4_init_93 : decode cX4_init 93 = .ok (.aload_n 0, 1) := by decide +kernel
theorem dX4_init_94 : decode cX4_init 94 = .ok (.bipush 6, 2) := by decide +kernel
theorem dX4_init_96 : decode cX4_init 96 = .ok (.newarray .int, 2) := by decide +kernel
theorem dX4_init_98 : decode cX4_init 98 = .ok (.putfield 48, 3) := by decide +kernel
theorem dX4_init_101 : decode cX4_init 101 = .ok (.aload_n 0, 1) := by decide +kernel
theorem dX4_init_102 : decode cX4_init 102 = .ok (.bipush 6, 2) := by decide +kernel
theorem dX4_init_104 : decode cX4_init 104 = .ok (.newarray .int, 2) := by decide +kernel
theorem dX4_init_106 : decode cX4_init 106 = .ok (.putfield 51, 3) := by decide +kernel
theorem dX4_init_109 : decode cX4_init 109 = .ok (.aload_n 0, 1) := by decide +kernel
theorem dX4_init_110 : decode cX4_init 110 = .ok (.bipush 6, 2) := by decide +kernel
theorem dX4_init_112 : decode cX4_init 112 = .ok (.newarray .int, 2) := by decide +kernel
theorem dX4_init_114 : decode cX4_init 114 = .ok (.putfield 54, 3) := by decide +kernel
theorem dX4_init_117 : decode cX4_init 117 = .ok (.aload_n 0, 1) := by decide +kernel
theorem dX4_init_118 : decode cX4_init 118 = .ok (.iconst 5, 1) := by decide +kernel
theorem dX4_init_119 : decode cX4_init 119 = .ok (.newarray .int, 2) := by decide +kernel
theorem dX4_init_121 : decode cX4_init 121 = .ok (.putfield 57, 3) := by decide +kernel
theorem dX4_init_124 : decode cX4_init 124 = .ok (.aload_n 0, 1) := by decide +kernel
theorem dX4_init_125 : decode cX4_init 125 = .ok (.iconst 5, 1) := by decide +kernel
theorem dX4_init_126 : decode cX4_init 126 = .ok (.newarray .int, 2) := by decide +kernel
theorem dX4_init_128 : decode cX4_init 128 = .ok (.putfield 60, 3) := by decide +kernel
theorem dX4_init_131 : decode cX4_init 131 = .ok (.aload_n 0, 1) := by decide +kernel
theorem dX4_init_132 : decode cX4_init 132 = .ok (.iconst 5, 1) := by decide +kernel
theorem dX4_init_133 : decode cX4_init 133 = .ok (.newarray .int, 2) := by decide +kernel
theorem dX4_init_135 : decode cX4_init 135 = .ok (.putfield 63, 3) := by decide +kernel
theorem dX4_init_138 : decode cX4_init 138 = .ok (.iconst 0, 1) := by decide +kernel
theorem dX4_init_139 : decode cX4_init 139 = .ok (.istore_n 1, 1) := by decide +kernel
theorem dX4_init_140 : decode cX4_init 140 = .ok (.iload_n 1, 1) := by decide +kernel
theorem dX4_init_141 : decode cX4_init 141 = .ok (.bipush 6, 2) := by decide +kernel
theorem dX4_init_143 : decode cX4_init 143 = .ok (.if_icmp .ge 16, 3) := by decide +kernel
theorem dX4_init_146 : decode cX4_init 146 = .ok (.aload_n 0, 1) := by decide +kernel
theorem dX4_init_147 : decode cX4_init 147 = .ok (.getfield 33, 3) := by decide +kernel
theorem dX4_init_150 : decode cX4_init 150 = .ok (.iload_n 1, 1) := by decide +kernel
theorem dX4_init_151 : decode cX4_init 151 = .ok (.iconst 5, 1) := by decide +kernel
theorem dX4_init_152 : decode cX4_init 152 = .ok (.iastore, 1) := by decide +kernel
theorem dX4_init_153 : decode cX4_init 153 = .ok (.iinc 1 1, 3) := by decide +kernel
theorem dX4_init_156 : decode cX4_init 156 = .ok (.goto (-16), 3) := by decide +kernel
theorem dX4_init_159 : decode cX4_init 159 = .ok (.iconst 0, 1) := by decide +kernel
theorem dX4_init_160 : decode cX4_init 160 = .ok (.istore_n 1, 1) := by decide +kernel
theorem dX4_init_161 : decode cX4_init 161 = .ok (.iload_n 1, 1) := by decide +kernel
theorem dX4_init_162 : decode cX4_init 162 = .ok (.bipush 16, 2) := by decide +kernel
theorem dX4_init_164 : decode cX4_init 164 = .ok (.if_icmp .ge 16, 3) := by decide +kernel
theorem dX4_init_167 : decode cX4_init 167 = .ok (.aload_n 0, 1) := by decide +kernel
theorem dX4_init_168 : decode cX4_init 168 = .ok (.getfield 36, 3) := by decide +kernel
theorem dX4_init_171 : decode cX4_init 171 = .ok (.iload_n 1, 1) := by decide +kernel
theorem dX4_init_172 : decode cX4_init 172 = .ok (.iconst (-1), 1) := by decide +kernel
theorem dX4_init_173 : decode cX4_init 173 = .ok (.iastore, 1) := by decide +kernel
theorem dX4_init_174 : decode cX4_init 174 = .ok (.iinc 1 1, 3) := by decide +kernel
theorem dX4_init_177 : decode cX4_init 177 = .ok (.goto (-16), 3) := by decide +kernel
theorem dX4_init_180 : decode cX4_init 180 = .ok (.return_, 1) := by decide +kernel
theorem dX4_in_0 : decode cX4_in 0 = .ok (.iload_n 0, 1) := by decide +kernel
theorem dX4_in_1 : decode cX4_in 1 = .ok (.iload_n 1, 1) := by decide +kernel
theorem dX4_in_2 : decode cX4_in 2 = .ok (.if_icmp .lt 12, 3) := by decide +kernel
theorem dX4_in_5 : decode cX4_in 5 = .ok (.iload_n 0, 1) := by decide +kernel
theorem dX4_in_6 : decode cX4_in 6 = .ok (.iload_n 2, 1) := by decide +kernel
theorem dX4_in_7 : decode cX4_in 7 = .ok (.if_icmp .gt 7, 3) := by decide +kernel
theorem dX4_in_10 : decode cX4_in 10 = .ok (.iconst 1, 1) := by decide +kernel
theorem dX4_in_11 : decode cX4_in 11 = .ok (.goto 4, 3) := by decide +kernel
theorem dX4_in_14 : decode cX4_in 14 = .ok (.iconst 0, 1) := by decide +kernel
theorem dX4_in_15 : decode cX4_in 15 = .ok (.ireturn, 1) := by decide +kernel
theorem dX4_isPerson_0 : decode cX4_isPerson 0 = .ok (.iload_n 1, 1) := by decide +kernel
theorem dX4_isPerson_1 : decode cX4_isPerson 1 = .ok (.iconst 0, 1) := by decide +kernel
theorem dX4_isPerson_2 : decode cX4_isPerson 2 = .ok (.aload_n 0, 1) := by decide +kernel
theorem dX4_isPerson_3 : decode cX4_isPerson 3 = .ok (.getfield 66, 3) := by decide +kernel
theorem dX4_isPerson_6 : decode cX4_isPerson 6 = .ok (.iconst 1, 1) := by decide +kernel
theorem dX4_isPerson_7 : decode cX4_isPerson 7 = .ok (.isub, 1) := by decide +kernel
theorem dX4_isPerson_8 : decode cX4_isPerson 8 = .ok (.invokestatic 69, 3) := by decide +kernel
theorem dX4_isPerson_11 : decode cX4_isPerson 11 = .ok (.ireturn, 1) := by decide +kernel
theorem dX4_isSession_0 : decode cX4_isSession 0 = .ok (.iload_n 0, 1) := by decide +kernel
theorem dX4_isSession_1 : decode cX4_isSession 1 = .ok (.iconst 0, 1) := by decide +kernel
theorem dX4_isSession_2 : decode cX4_isSession 2 = .ok (.iconst 1, 1) := by decide +kernel
theorem dX4_isSession_3 : decode cX4_isSession 3 = .ok (.invokestatic 69, 3) := by decide +kernel
theorem dX4_isSession_6 : decode cX4_isSession 6 = .ok (.ireturn, 1) := by decide +kernel
theorem dX4_isTongue_0 : decode cX4_isTongue 0 = .ok (.iload_n 0, 1) := by decide +kernel
theorem dX4_isTongue_1 : decode cX4_isTongue 1 = .ok (.iconst 0, 1) := by decide +kernel
theorem dX4_isTongue_2 : decode cX4_isTongue 2 = .ok (.iconst 4, 1) := by decide +kernel
theorem dX4_isTongue_3 : decode cX4_isTongue 3 = .ok (.invokestatic 69, 3) := by decide +kernel
theorem dX4_isTongue_6 : decode cX4_isTongue 6 = .ok (.ireturn, 1) := by decide +kernel
theorem dX4_isHalf_0 : decode cX4_isHalf 0 = .ok (.iload_n 0, 1) := by decide +kernel
theorem dX4_isHalf_1 : decode cX4_isHalf 1 = .ok (.iconst 0, 1) := by decide +kernel
theorem dX4_isHalf_2 : decode cX4_isHalf 2 = .ok (.bipush 15, 2) := by decide +kernel
theorem dX4_isHalf_4 : decode cX4_isHalf 4 = .ok (.invokestatic 69, 3) := by decide +kernel
theorem dX4_isHalf_7 : decode cX4_isHalf 7 = .ok (.ireturn, 1) := by decide +kernel
theorem dX4_has_0 : decode cX4_has 0 = .ok (.iload_n 0, 1) := by decide +kernel
theorem dX4_has_1 : decode cX4_has 1 = .ok (.iload_n 1, 1) := by decide +kernel
theorem dX4_has_2 : decode cX4_has 2 = .ok (.ishr, 1) := by decide +kernel
theorem dX4_has_3 : decode cX4_has 3 = .ok (.iconst 1, 1) := by decide +kernel
theorem dX4_has_4 : decode cX4_has 4 = .ok (.iand, 1) := by decide +kernel
theorem dX4_has_5 : decode cX4_has 5 = .ok (.iconst 1, 1) := by decide +kernel
theorem dX4_has_6 : decode cX4_has 6 = .ok (.if_icmp .ne 7, 3) := by decide +kernel
theorem dX4_has_9 : decode cX4_has 9 = .ok (.iconst 1, 1) := by decide +kernel
theorem dX4_has_10 : decode cX4_has 10 = .ok (.goto 4, 3) := by decide +kernel
theorem dX4_has_13 : decode cX4_has 13 = .ok (.iconst 0, 1) := by decide +kernel
theorem dX4_has_14 : decode cX4_has 14 = .ok (.ireturn, 1) := by decide +kernel
theorem dX4_person_0 : decode cX4_person 0 = .ok (.iload_n 1, 1) := by decide +kernel
theorem dX4_person_1 : decode cX4_person 1 = .ok (.iconst 0, 1) := by decide +kernel
theorem dX4_person_2 : decode cX4_person 2 = .ok (.bipush 31, 2) := by decide +kernel
theorem dX4_person_4 : decode cX4_person 4 = .ok (.invokestatic 69, 3) := by decide +kernel
theorem dX4_person_7 : decode cX4_person 7 = .ok (.ifCond .eq 31, 3) := by decide +kernel
theorem dX4_person_10 : decode cX4_person 10 = .ok (.iload_n 2, 1) := by decide +kernel
theorem dX4_person_11 : decode cX4_person 11 = .ok (.iconst 0, 1) := by decide +kernel
theorem dX4_person_12 : decode cX4_person 12 = .ok (.bipush 31, 2) := by decide +kernel
theorem dX4_person_14 : decode cX4_person 14 = .ok (.invokestatic 69, 3) := by decide +kernel
theorem dX4_person_17 : decode cX4_person 17 = .ok (.ifCond .eq 21, 3) := by decide +kernel
theorem dX4_person_20 : decode cX4_person 20 = .ok (.iload_n 2, 1) := by decide +kernel
theorem dX4_person_21 : decode cX4_person 21 = .ok (.iload_n 1, 1) := by decide +kernel
theorem dX4_person_22 : decode cX4_person 22 = .ok (.iconst (-1), 1) := by decide +kernel
theorem dX4_person_23 : decode cX4_person 23 = .ok (.ixor, 1) := by decide +kernel
theorem dX4_person_24 : decode cX4_person 24 = .ok (.iand, 1) := by decide +kernel
theorem dX4_person_25 : decode cX4_person 25 = .ok (.ifCond .ne 13, 3) := by decide +kernel
theorem dX4_person_28 : decode cX4_person 28 = .ok (.iload_n 3, 1) := by decide +kernel
theorem dX4_person_29 : decode cX4_person 29 = .ok (.iconst 1, 1) := by decide +kernel
theorem dX4_person_30 : decode cX4_person 30 = .ok (.bipush 99, 2) := by decide +kernel
theorem dX4_person_32 : decode cX4_person 32 = .ok (.invokestatic 69, 3) := by decide +kernel
theorem dX4_person_35 : decode cX4_person 35 = .ok (.ifCond .ne 6, 3) := by decide +kernel
theorem dX4_person_38 : decode cX4_person 38 = .ok (.bipush (-3), 2) := by decide +kernel
theorem dX4_person_40 : decode cX4_person 40 = .ok (.ireturn, 1) := by decide +kernel
theorem dX4_person_41 : decode cX4_person 41 = .ok (.aload_n 0, 1) := by decide +kernel
theorem dX4_person_42 : decode cX4_person 42 = .ok (.getfield 66, 3) := by decide +kernel
theorem dX4_person_45 : decode cX4_person 45 = .ok (.bipush 6, 2) := by decide +kernel
theorem dX4_person_47 : decode cX4_person 47 = .ok (.if_icmp .ne 6, 3) := by decide +kernel
theorem dX4_person_50 : decode cX4_person 50 = .ok (.bipush (-5), 2) := by decide +kernel
theorem dX4_person_52 : decode cX4_person 52 = .ok (.ireturn, 1) := by decide +kernel
theorem dX4_person_53 : decode cX4_person 53 = .ok (.aload_n 0, 1) := by decide +kernel
theorem dX4_person_54 : decode cX4_person 54 = .ok (.getfield 7, 3) := by decide +kernel
theorem dX4_person_57 : decode cX4_person 57 = .ok (.aload_n 0, 1) := by decide +kernel
theorem dX4_person_58 : decode cX4_person 58 = .ok (.getfield 66, 3) := by decide +kernel
theorem dX4_person_61 : decode cX4_person 61 = .ok (.iload_n 1, 1) := by decide +kernel
theorem dX4_person_62 : decode cX4_person 62 = .ok (.iastore, 1) := by decide +kernel
theorem dX4_person_63 : decode cX4_person 63 = .ok (.aload_n 0, 1) := by decide +kernel
theorem dX4_person_64 : decode cX4_person 64 = .ok (.getfield 13, 3) := by decide +kernel
theorem dX4_person_67 : decode cX4_person 67 = .ok (.aload_n 0, 1) := by decide +kernel
theorem dX4_person_68 : decode cX4_person 68 = .ok (.getfield 66, 3) := by decide +kernel
theorem dX4_person_71 : decode cX4_person 71 = .ok (.iload_n 2, 1) := by decide +kernel
theorem dX4_person_72 : decode cX4_person 72 = .ok (.iastore, 1) := by decide +kernel
theorem dX4_person_73 : decode cX4_person 73 = .ok (.aload_n 0, 1) := by decide +kernel
theorem dX4_person_74 : decode cX4_person 74 = .ok (.getfield 16, 3) := by decide +kernel
theorem dX4_person_77 : decode cX4_person 77 = .ok (.aload_n 0, 1) := by decide +kernel
theorem dX4_person_78 : decode cX4_person 78 = .ok (.getfield 66, 3) := by decide +kernel
theorem dX4_person_81 : decode cX4_person 81 = .ok (.iload_n 3, 1) := by decide +kernel
theorem dX4_person_82 : decode cX4_person 82 = .ok (.iastore, 1) := by decide +kernel
theorem dX4_person_83 : decode cX4_person 83 = .ok (.aload_n 0, 1) := by decide +kernel
theorem dX4_person_84 : decode cX4_person 84 = .ok (.dup, 1) := by decide +kernel
theorem dX4_person_85 : decode cX4_person 85 = .ok (.getfield 66, 3) := by decide +kernel
theorem dX4_person_88 : decode cX4_person 88 = .ok (.iconst 1, 1) := by decide +kernel
theorem dX4_person_89 : decode cX4_person 89 = .ok (.iadd, 1) := by decide +kernel
theorem dX4_person_90 : decode cX4_person 90 = .ok (.putfield 66, 3) := by decide +kernel
theorem dX4_person_93 : decode cX4_person 93 = .ok (.aload_n 0, 1) := by decide +kernel
theorem dX4_person_94 : decode cX4_person 94 = .ok (.getfield 66, 3) := by decide +kernel
theorem dX4_person_97 : decode cX4_person 97 = .ok (.iconst 1, 1) := by decide +kernel
theorem dX4_person_98 : decode cX4_person 98 = .ok (.isub, 1) := by decide +kernel
theorem dX4_person_99 : decode cX4_person 99 = .ok (.ireturn, 1) := by decide +kernel
theorem dX4_ill_0 : decode cX4_ill 0 = .ok (.aload_n 0, 1) := by decide +kernel
theorem dX4_ill_1 : decode cX4_ill 1 = .ok (.iload_n 1, 1) := by decide +kernel
theorem dX4_ill_2 : decode cX4_ill 2 = .ok (.invokevirtual 73, 3) := by decide +kernel
theorem dX4_ill_5 : decode cX4_ill 5 = .ok (.ifCond .ne 6, 3) := by decide +kernel
theorem dX4_ill_8 : decode cX4_ill 8 = .ok (.bipush (-2), 2) := by decide +kernel
theorem dX4_ill_10 : decode cX4_ill 10 = .ok (.ireturn, 1) := by decide +kernel
theorem dX4_ill_11 : decode cX4_ill 11 = .ok (.aload_n 0, 1) := by decide +kernel
theorem dX4_ill_12 : decode cX4_ill 12 = .ok (.getfield 19, 3) := by decide +kernel
theorem dX4_ill_15 : decode cX4_ill 15 = .ok (.iload_n 1, 1) := by decide +kernel
theorem dX4_ill_16 : decode cX4_ill 16 = .ok (.baload, 1) := by decide +kernel
theorem dX4_ill_17 : decode cX4_ill 17 = .ok (.istore_n 3, 1) := by decide +kernel
theorem dX4_ill_18 : decode cX4_ill 18 = .ok (.aload_n 0, 1) := by decide +kernel
theorem dX4_ill_19 : decode cX4_ill 19 = .ok (.getfield 19, 3) := by decide +kernel
theorem dX4_ill_22 : decode cX4_ill 22 = .ok (.iload_n 1, 1) := by decide +kernel
theorem dX4_ill_23 : decode cX4_ill 23 = .ok (.iload_n 2, 1) := by decide +kernel
theorem dX4_ill_24 : decode cX4_ill 24 = .ok (.bastore, 1) := by decide +kernel
theorem dX4_ill_25 : decode cX4_ill 25 = .ok (.iload_n 3, 1) := by decide +kernel
theorem dX4_ill_26 : decode cX4_ill 26 = .ok (.ifCond .eq 7, 3) := by decide +kernel
theorem dX4_ill_29 : decode cX4_ill 29 = .ok (.iconst 1, 1) := by decide +kernel
theorem dX4_ill_30 : decode cX4_ill 30 = .ok (.goto 4, 3) := by decide +kernel
theorem dX4_ill_33 : decode cX4_ill 33 = .ok (.iconst 0, 1) := by decide +kernel
theorem dX4_ill_34 : decode cX4_ill 34 = .ok (.ireturn, 1) := by decide +kernel
theorem dX4_session_0 : decode cX4_session 0 = .ok (.iload_n 1, 1) := by decide +kernel
theorem dX4_session_1 : decode cX4_session 1 = .ok (.invokestatic 77, 3) := by decide +kernel
theorem dX4_session_4 : decode cX4_session 4 = .ok (.ifCond .ne 6, 3) := by decide +kernel
theorem dX4_session_7 : decode cX4_session 7 = .ok (.bipush (-2), 2) := by decide +kernel
theorem dX4_session_9 : decode cX4_session 9 = .ok (.ireturn, 1) := by decide +kernel
theorem dX4_session_10 : decode cX4_session 10 = .ok (.iload_n 2, 1) := by decide +kernel
theorem dX4_session_11 : decode cX4_session 11 = .ok (.iconst 0, 1) := by decide +kernel
theorem dX4_session_12 : decode cX4_session 12 = .ok (.bipush 31, 2) := by decide +kernel
theorem dX4_session_14 : decode cX4_session 14 = .ok (.invokestatic 69, 3) := by decide +kernel
theorem dX4_session_17 : decode cX4_session 17 = .ok (.ifCond .eq 13, 3) := by decide +kernel
theorem dX4_session_20 : decode cX4_session 20 = .ok (.iload_n 3, 1) := by decide +kernel
theorem dX4_session_21 : decode cX4_session 21 = .ok (.iconst 0, 1) := by decide +kernel
theorem dX4_session_22 : decode cX4_session 22 = .ok (.bipush 31, 2) := by decide +kernel
theorem dX4_session_24 : decode cX4_session 24 = .ok (.invokestatic 69, 3) := by decide +kernel
theorem dX4_session_27 : decode cX4_session 27 = .ok (.ifCond .ne 6, 3) := by decide +kernel
theorem dX4_session_30 : decode cX4_session 30 = .ok (.bipush (-3), 2) := by decide +kernel
theorem dX4_session_32 : decode cX4_session 32 = .ok (.ireturn, 1) := by decide +kernel
theorem dX4_session_33 : decode cX4_session 33 = .ok (.aload_n 0, 1) := by decide +kernel
theorem dX4_session_34 : decode cX4_session 34 = .ok (.getfield 23, 3) := by decide +kernel
theorem dX4_session_37 : decode cX4_session 37 = .ok (.iload_n 1, 1) := by decide +kernel
theorem dX4_session_38 : decode cX4_session 38 = .ok (.iload_n 2, 1) := by decide +kernel
theorem dX4_session_39 : decode cX4_session 39 = .ok (.iastore, 1) := by decide +kernel
theorem dX4_session_40 : decode cX4_session 40 = .ok (.aload_n 0, 1) := by decide +kernel
theorem dX4_session_41 : decode cX4_session 41 = .ok (.getfield 26, 3) := by decide +kernel
theorem dX4_session_44 : decode cX4_session 44 = .ok (.iload_n 1, 1) := by decide +kernel
theorem dX4_session_45 : decode cX4_session 45 = .ok (.iload_n 3, 1) := by decide +kernel
theorem dX4_session_46 : decode cX4_session 46 = .ok (.iastore, 1) := by decide +kernel
theorem dX4_session_47 : decode cX4_session 47 = .ok (.iconst 1, 1) := by decide +kernel
theorem dX4_session_48 : decode cX4_session 48 = .ok (.ireturn, 1) := by decide +kernel
theorem dX4_seats_0 : decode cX4_seats 0 = .ok (.iload_n 1, 1) := by decide +kernel
theorem dX4_seats_1 : decode cX4_seats 1 = .ok (.iconst 1, 1) := by decide +kernel
theorem dX4_seats_2 : decode cX4_seats 2 = .ok (.iconst 2, 1) := by decide +kernel
theorem dX4_seats_3 : decode cX4_seats 3 = .ok (.invokestatic 69, 3) := by decide +kernel
theorem dX4_seats_6 : decode cX4_seats 6 = .ok (.ifCond .ne 6, 3) := by decide +kernel
theorem dX4_seats_9 : decode cX4_seats 9 = .ok (.bipush (-3), 2) := by decide +kernel
theorem dX4_seats_11 : decode cX4_seats 11 = .ok (.ireturn, 1) := by decide +kernel
theorem dX4_seats_12 : decode cX4_seats 12 = .ok (.aload_n 0, 1) := by decide +kernel
theorem dX4_seats_13 : decode cX4_seats 13 = .ok (.getfield 29, 3) := by decide +kernel
theorem dX4_seats_16 : decode cX4_seats 16 = .ok (.istore_n 2, 1) := by decide +kernel
theorem dX4_seats_17 : decode cX4_seats 17 = .ok (.aload_n 0, 1) := by decide +kernel
theorem dX4_seats_18 : decode cX4_seats 18 = .ok (.iload_n 1, 1) := by decide +kernel
theorem dX4_seats_19 : decode cX4_seats 19 = .ok (.putfield 29, 3) := by decide +kernel
theorem dX4_seats_22 : decode cX4_seats 22 = .ok (.iload_n 2, 1) := by decide +kernel
theorem dX4_seats_23 : decode cX4_seats 23 = .ok (.ireturn, 1) := by decide +kernel
theorem dX4_isTeam_0 : decode cX4_isTeam 0 = .ok (.iconst 1, 1) := by decide +kernel
theorem dX4_isTeam_1 : decode cX4_isTeam 1 = .ok (.istore_n 2, 1) := by decide +kernel
theorem dX4_isTeam_2 : decode cX4_isTeam 2 = .ok (.iconst 0, 1) := by decide +kernel
theorem dX4_isTeam_3 : decode cX4_isTeam 3 = .ok (.istore_n 3, 1) := by decide +kernel
theorem dX4_isTeam_4 : decode cX4_isTeam 4 = .ok (.iload_n 3, 1) := by decide +kernel
theorem dX4_isTeam_5 : decode cX4_isTeam 5 = .ok (.aload_n 0, 1) := by decide +kernel
theorem dX4_isTeam_6 : decode cX4_isTeam 6 = .ok (.getfield 66, 3) := by decide +kernel
theorem dX4_isTeam_9 : decode cX4_isTeam 9 = .ok (.if_icmp .ge 74, 3) := by decide +kernel
theorem dX4_isTeam_12 : decode cX4_isTeam 12 = .ok (.iload_n 2, 1) := by decide +kernel
theorem dX4_isTeam_13 : decode cX4_isTeam 13 = .ok (.ifCond .eq 70, 3) := by decide +kernel
theorem dX4_isTeam_16 : decode cX4_isTeam 16 = .ok (.aload_n 0, 1) := by decide +kernel
theorem dX4_isTeam_17 : decode cX4_isTeam 17 = .ok (.getfield 45, 3) := by decide +kernel
theorem dX4_isTeam_20 : decode cX4_isTeam 20 = .ok (.iload_n 3, 1) := by decide +kernel
theorem dX4_isTeam_21 : decode cX4_isTeam 21 = .ok (.iaload, 1) := by decide +kernel
theorem dX4_isTeam_22 : decode cX4_isTeam 22 = .ok (.iconst 5, 1) := by decide +kernel
theorem dX4_isTeam_23 : decode cX4_isTeam 23 = .ok (.if_icmp .eq 48, 3) := by decide +kernel
theorem dX4_isTeam_26 : decode cX4_isTeam 26 = .ok (.aload_n 0, 1) := by decide +kernel
theorem dX4_isTeam_27 : decode cX4_isTeam 27 = .ok (.getfield 26, 3) := by decide +kernel
theorem dX4_isTeam_30 : decode cX4_isTeam 30 = .ok (.iload_n 1, 1) := by decide +kernel
theorem dX4_isTeam_31 : decode cX4_isTeam 31 = .ok (.iaload, 1) := by decide +kernel
theorem dX4_isTeam_32 : decode cX4_isTeam 32 = .ok (.aload_n 0, 1) := by decide +kernel
theorem dX4_isTeam_33 : decode cX4_isTeam 33 = .ok (.getfield 45, 3) := by decide +kernel
theorem dX4_isTeam_36 : decode cX4_isTeam 36 = .ok (.iload_n 3, 1) := by decide +kernel
end
section
theorem dX4_isTeam_37 : decode cX4_isTeam 37 = .ok (.iaload, 1) := by decide +kernel
theorem dX4_isTeam_38 : decode cX4_isTeam 38 = .ok (.invokestatic 80, 3) := by decide +kernel
theorem dX4_isTeam_41 : decode cX4_isTeam 41 = .ok (.ifCond .eq 34, 3) := by decide +kernel
theorem dX4_isTeam_44 : decode cX4_isTeam 44 = .ok (.aload_n 0, 1) := by decide +kernel
theorem dX4_isTeam_45 : decode cX4_isTeam 45 = .ok (.getfield 13, 3) := by decide +kernel
theorem dX4_isTeam_48 : decode cX4_isTeam 48 = .ok (.iload_n 3, 1) := by decide +kernel
theorem dX4_isTeam_49 : decode cX4_isTeam 49 = .ok (.iaload, 1) := by decide +kernel
theorem dX4_isTeam_50 : decode cX4_isTeam 50 = .ok (.aload_n 0, 1) := by decide +kernel
theorem dX4_isTeam_51 : decode cX4_isTeam 51 = .ok (.getfield 45, 3) := by decide +kernel
theorem dX4_isTeam_54 : decode cX4_isTeam 54 = .ok (.iload_n 3, 1) := by decide +kernel
theorem dX4_isTeam_55 : decode cX4_isTeam 55 = .ok (.iaload, 1) := by decide +kernel
theorem dX4_isTeam_56 : decode cX4_isTeam 56 = .ok (.invokestatic 80, 3) := by decide +kernel
theorem dX4_isTeam_59 : decode cX4_isTeam 59 = .ok (.ifCond .eq 16, 3) := by decide +kernel
theorem dX4_isTeam_62 : decode cX4_isTeam 62 = .ok (.aload_n 0, 1) := by decide +kernel
theorem dX4_isTeam_63 : decode cX4_isTeam 63 = .ok (.getfield 19, 3) := by decide +kernel
theorem dX4_isTeam_66 : decode cX4_isTeam 66 = .ok (.iload_n 3, 1) := by decide +kernel
theorem dX4_isTeam_67 : decode cX4_isTeam 67 = .ok (.baload, 1) := by decide +kernel
theorem dX4_isTeam_68 : decode cX4_isTeam 68 = .ok (.ifCond .ne 7, 3) := by decide +kernel
theorem dX4_isTeam_71 : decode cX4_isTeam 71 = .ok (.iconst 1, 1) := by decide +kernel
theorem dX4_isTeam_72 : decode cX4_isTeam 72 = .ok (.goto 4, 3) := by decide +kernel
theorem dX4_isTeam_75 : decode cX4_isTeam 75 = .ok (.iconst 0, 1) := by decide +kernel
theorem dX4_isTeam_76 : decode cX4_isTeam 76 = .ok (.istore_n 2, 1) := by decide +kernel
theorem dX4_isTeam_77 : decode cX4_isTeam 77 = .ok (.iinc 3 1, 3) := by decide +kernel
theorem dX4_isTeam_80 : decode cX4_isTeam 80 = .ok (.goto (-76), 3) := by decide +kernel
theorem dX4_isTeam_83 : decode cX4_isTeam 83 = .ok (.iconst 0, 1) := by decide +kernel
theorem dX4_isTeam_84 : decode cX4_isTeam 84 = .ok (.istore_n 3, 1) := by decide +kernel
theorem dX4_isTeam_85 : decode cX4_isTeam 85 = .ok (.iload_n 3, 1) := by decide +kernel
theorem dX4_isTeam_86 : decode cX4_isTeam 86 = .ok (.iconst 5, 1) := by decide +kernel
theorem dX4_isTeam_87 : decode cX4_isTeam 87 = .ok (.if_icmp .ge 83, 3) := by decide +kernel
theorem dX4_isTeam_90 : decode cX4_isTeam 90 = .ok (.iload_n 2, 1) := by decide +kernel
theorem dX4_isTeam_91 : decode cX4_isTeam 91 = .ok (.ifCond .eq 79, 3) := by decide +kernel
theorem dX4_isTeam_94 : decode cX4_isTeam 94 = .ok (.iconst 0, 1) := by decide +kernel
theorem dX4_isTeam_95 : decode cX4_isTeam 95 = .ok (.istore 4, 2) := by decide +kernel
theorem dX4_isTeam_97 : decode cX4_isTeam 97 = .ok (.iconst 0, 1) := by decide +kernel
theorem dX4_isTeam_98 : decode cX4_isTeam 98 = .ok (.istore 5, 2) := by decide +kernel
theorem dX4_isTeam_100 : decode cX4_isTeam 100 = .ok (.iload 5, 2) := by decide +kernel
theorem dX4_isTeam_102 : decode cX4_isTeam 102 = .ok (.aload_n 0, 1) := by decide +kernel
theorem dX4_isTeam_103 : decode cX4_isTeam 103 = .ok (.getfield 66, 3) := by decide +kernel
theorem dX4_isTeam_106 : decode cX4_isTeam 106 = .ok (.if_icmp .ge 30, 3) := by decide +kernel
theorem dX4_isTeam_109 : decode cX4_isTeam 109 = .ok (.iload 4, 2) := by decide +kernel
theorem dX4_isTeam_111 : decode cX4_isTeam 111 = .ok (.aload_n 0, 1) := by decide +kernel
theorem dX4_isTeam_112 : decode cX4_isTeam 112 = .ok (.getfield 45, 3) := by decide +kernel
theorem dX4_isTeam_115 : decode cX4_isTeam 115 = .ok (.iload 5, 2) := by decide +kernel
theorem dX4_isTeam_117 : decode cX4_isTeam 117 = .ok (.iaload, 1) := by decide +kernel
theorem dX4_isTeam_118 : decode cX4_isTeam 118 = .ok (.iload_n 3, 1) := by decide +kernel
theorem dX4_isTeam_119 : decode cX4_isTeam 119 = .ok (.if_icmp .ne 7, 3) := by decide +kernel
theorem dX4_isTeam_122 : decode cX4_isTeam 122 = .ok (.iconst 1, 1) := by decide +kernel
theorem dX4_isTeam_123 : decode cX4_isTeam 123 = .ok (.goto 4, 3) := by decide +kernel
theorem dX4_isTeam_126 : decode cX4_isTeam 126 = .ok (.iconst 0, 1) := by decide +kernel
theorem dX4_isTeam_127 : decode cX4_isTeam 127 = .ok (.iadd, 1) := by decide +kernel
theorem dX4_isTeam_128 : decode cX4_isTeam 128 = .ok (.istore 4, 2) := by decide +kernel
theorem dX4_isTeam_130 : decode cX4_isTeam 130 = .ok (.iinc 5 1, 3) := by decide +kernel
theorem dX4_isTeam_133 : decode cX4_isTeam 133 = .ok (.goto (-33), 3) := by decide +kernel
theorem dX4_isTeam_136 : decode cX4_isTeam 136 = .ok (.aload_n 0, 1) := by decide +kernel
theorem dX4_isTeam_137 : decode cX4_isTeam 137 = .ok (.getfield 26, 3) := by decide +kernel
theorem dX4_isTeam_140 : decode cX4_isTeam 140 = .ok (.iload_n 1, 1) := by decide +kernel
theorem dX4_isTeam_141 : decode cX4_isTeam 141 = .ok (.iaload, 1) := by decide +kernel
theorem dX4_isTeam_142 : decode cX4_isTeam 142 = .ok (.iload_n 3, 1) := by decide +kernel
theorem dX4_isTeam_143 : decode cX4_isTeam 143 = .ok (.invokestatic 80, 3) := by decide +kernel
theorem dX4_isTeam_146 : decode cX4_isTeam 146 = .ok (.ifCond .eq 12, 3) := by decide +kernel
theorem dX4_isTeam_149 : decode cX4_isTeam 149 = .ok (.iload 4, 2) := by decide +kernel
theorem dX4_isTeam_151 : decode cX4_isTeam 151 = .ok (.aload_n 0, 1) := by decide +kernel
theorem dX4_isTeam_152 : decode cX4_isTeam 152 = .ok (.getfield 29, 3) := by decide +kernel
theorem dX4_isTeam_155 : decode cX4_isTeam 155 = .ok (.if_icmp .ne 7, 3) := by decide +kernel
theorem dX4_isTeam_158 : decode cX4_isTeam 158 = .ok (.iconst 1, 1) := by decide +kernel
theorem dX4_isTeam_159 : decode cX4_isTeam 159 = .ok (.goto 4, 3) := by decide +kernel
theorem dX4_isTeam_162 : decode cX4_isTeam 162 = .ok (.iconst 0, 1) := by decide +kernel
theorem dX4_isTeam_163 : decode cX4_isTeam 163 = .ok (.istore_n 2, 1) := by decide +kernel
theorem dX4_isTeam_164 : decode cX4_isTeam 164 = .ok (.iinc 3 1, 3) := by decide +kernel
theorem dX4_isTeam_167 : decode cX4_isTeam 167 = .ok (.goto (-82), 3) := by decide +kernel
theorem dX4_isTeam_170 : decode cX4_isTeam 170 = .ok (.iload_n 2, 1) := by decide +kernel
theorem dX4_isTeam_171 : decode cX4_isTeam 171 = .ok (.ireturn, 1) := by decide +kernel
theorem dX4_allKnow_0 : decode cX4_allKnow 0 = .ok (.iconst 1, 1) := by decide +kernel
theorem dX4_allKnow_1 : decode cX4_allKnow 1 = .ok (.istore_n 3, 1) := by decide +kernel
theorem dX4_allKnow_2 : decode cX4_allKnow 2 = .ok (.iconst 0, 1) := by decide +kernel
theorem dX4_allKnow_3 : decode cX4_allKnow 3 = .ok (.istore 4, 2) := by decide +kernel
theorem dX4_allKnow_5 : decode cX4_allKnow 5 = .ok (.iload 4, 2) := by decide +kernel
theorem dX4_allKnow_7 : decode cX4_allKnow 7 = .ok (.aload_n 0, 1) := by decide +kernel
theorem dX4_allKnow_8 : decode cX4_allKnow 8 = .ok (.getfield 66, 3) := by decide +kernel
theorem dX4_allKnow_11 : decode cX4_allKnow 11 = .ok (.if_icmp .ge 44, 3) := by decide +kernel
theorem dX4_allKnow_14 : decode cX4_allKnow 14 = .ok (.iload_n 3, 1) := by decide +kernel
theorem dX4_allKnow_15 : decode cX4_allKnow 15 = .ok (.ifCond .eq 32, 3) := by decide +kernel
theorem dX4_allKnow_18 : decode cX4_allKnow 18 = .ok (.aload_n 0, 1) := by decide +kernel
theorem dX4_allKnow_19 : decode cX4_allKnow 19 = .ok (.getfield 45, 3) := by decide +kernel
theorem dX4_allKnow_22 : decode cX4_allKnow 22 = .ok (.iload 4, 2) := by decide +kernel
theorem dX4_allKnow_24 : decode cX4_allKnow 24 = .ok (.iaload, 1) := by decide +kernel
theorem dX4_allKnow_25 : decode cX4_allKnow 25 = .ok (.iload_n 1, 1) := by decide +kernel
theorem dX4_allKnow_26 : decode cX4_allKnow 26 = .ok (.if_icmp .ne 17, 3) := by decide +kernel
theorem dX4_allKnow_29 : decode cX4_allKnow 29 = .ok (.aload_n 0, 1) := by decide +kernel
theorem dX4_allKnow_30 : decode cX4_allKnow 30 = .ok (.getfield 7, 3) := by decide +kernel
theorem dX4_allKnow_33 : decode cX4_allKnow 33 = .ok (.iload 4, 2) := by decide +kernel
theorem dX4_allKnow_35 : decode cX4_allKnow 35 = .ok (.iaload, 1) := by decide +kernel
theorem dX4_allKnow_36 : decode cX4_allKnow 36 = .ok (.iload_n 2, 1) := by decide +kernel
theorem dX4_allKnow_37 : decode cX4_allKnow 37 = .ok (.invokestatic 80, 3) := by decide +kernel
theorem dX4_allKnow_40 : decode cX4_allKnow 40 = .ok (.ifCond .eq 7, 3) := by decide +kernel
theorem dX4_allKnow_43 : decode cX4_allKnow 43 = .ok (.iconst 1, 1) := by decide +kernel
theorem dX4_allKnow_44 : decode cX4_allKnow 44 = .ok (.goto 4, 3) := by decide +kernel
theorem dX4_allKnow_47 : decode cX4_allKnow 47 = .ok (.iconst 0, 1) := by decide +kernel
theorem dX4_allKnow_48 : decode cX4_allKnow 48 = .ok (.istore_n 3, 1) := by decide +kernel
theorem dX4_allKnow_49 : decode cX4_allKnow 49 = .ok (.iinc 4 1, 3) := by decide +kernel
theorem dX4_allKnow_52 : decode cX4_allKnow 52 = .ok (.goto (-47), 3) := by decide +kernel
theorem dX4_allKnow_55 : decode cX4_allKnow 55 = .ok (.iload_n 3, 1) := by decide +kernel
theorem dX4_allKnow_56 : decode cX4_allKnow 56 = .ok (.ireturn, 1) := by decide +kernel
theorem dX4_isWhole_0 : decode cX4_isWhole 0 = .ok (.iconst 1, 1) := by decide +kernel
theorem dX4_isWhole_1 : decode cX4_isWhole 1 = .ok (.istore_n 2, 1) := by decide +kernel
theorem dX4_isWhole_2 : decode cX4_isWhole 2 = .ok (.iconst 0, 1) := by decide +kernel
theorem dX4_isWhole_3 : decode cX4_isWhole 3 = .ok (.istore_n 3, 1) := by decide +kernel
theorem dX4_isWhole_4 : decode cX4_isWhole 4 = .ok (.iload_n 3, 1) := by decide +kernel
theorem dX4_isWhole_5 : decode cX4_isWhole 5 = .ok (.iconst 5, 1) := by decide +kernel
theorem dX4_isWhole_6 : decode cX4_isWhole 6 = .ok (.if_icmp .ge 156, 3) := by decide +kernel
theorem dX4_isWhole_9 : decode cX4_isWhole 9 = .ok (.iconst 0, 1) := by decide +kernel
theorem dX4_isWhole_10 : decode cX4_isWhole 10 = .ok (.istore 4, 2) := by decide +kernel
theorem dX4_isWhole_12 : decode cX4_isWhole 12 = .ok (.iload 4, 2) := by decide +kernel
theorem dX4_isWhole_14 : decode cX4_isWhole 14 = .ok (.iconst 5, 1) := by decide +kernel
theorem dX4_isWhole_15 : decode cX4_isWhole 15 = .ok (.if_icmp .ge 141, 3) := by decide +kernel
theorem dX4_isWhole_18 : decode cX4_isWhole 18 = .ok (.aload_n 0, 1) := by decide +kernel
theorem dX4_isWhole_19 : decode cX4_isWhole 19 = .ok (.getfield 23, 3) := by decide +kernel
theorem dX4_isWhole_22 : decode cX4_isWhole 22 = .ok (.iload_n 1, 1) := by decide +kernel
theorem dX4_isWhole_23 : decode cX4_isWhole 23 = .ok (.iaload, 1) := by decide +kernel
theorem dX4_isWhole_24 : decode cX4_isWhole 24 = .ok (.iload_n 3, 1) := by decide +kernel
theorem dX4_isWhole_25 : decode cX4_isWhole 25 = .ok (.invokestatic 80, 3) := by decide +kernel
theorem dX4_isWhole_28 : decode cX4_isWhole 28 = .ok (.ifCond .eq 122, 3) := by decide +kernel
theorem dX4_isWhole_31 : decode cX4_isWhole 31 = .ok (.aload_n 0, 1) := by decide +kernel
theorem dX4_isWhole_32 : decode cX4_isWhole 32 = .ok (.getfield 26, 3) := by decide +kernel
theorem dX4_isWhole_35 : decode cX4_isWhole 35 = .ok (.iload_n 1, 1) := by decide +kernel
theorem dX4_isWhole_36 : decode cX4_isWhole 36 = .ok (.iaload, 1) := by decide +kernel
theorem dX4_isWhole_37 : decode cX4_isWhole 37 = .ok (.iload 4, 2) := by decide +kernel
theorem dX4_isWhole_39 : decode cX4_isWhole 39 = .ok (.invokestatic 80, 3) := by decide +kernel
theorem dX4_isWhole_42 : decode cX4_isWhole 42 = .ok (.ifCond .eq 108, 3) := by decide +kernel
theorem dX4_isWhole_45 : decode cX4_isWhole 45 = .ok (.iload 4, 2) := by decide +kernel
theorem dX4_isWhole_47 : decode cX4_isWhole 47 = .ok (.iload_n 3, 1) := by decide +kernel
theorem dX4_isWhole_48 : decode cX4_isWhole 48 = .ok (.if_icmp .eq 102, 3) := by decide +kernel
theorem dX4_isWhole_51 : decode cX4_isWhole 51 = .ok (.aload_n 0, 1) := by decide +kernel
theorem dX4_isWhole_52 : decode cX4_isWhole 52 = .ok (.iload 4, 2) := by decide +kernel
theorem dX4_isWhole_54 : decode cX4_isWhole 54 = .ok (.iload_n 3, 1) := by decide +kernel
theorem dX4_isWhole_55 : decode cX4_isWhole 55 = .ok (.invokevirtual 84, 3) := by decide +kernel
theorem dX4_isWhole_58 : decode cX4_isWhole 58 = .ok (.istore 5, 2) := by decide +kernel
theorem dX4_isWhole_60 : decode cX4_isWhole 60 = .ok (.iconst 0, 1) := by decide +kernel
theorem dX4_isWhole_61 : decode cX4_isWhole 61 = .ok (.istore 6, 2) := by decide +kernel
theorem dX4_isWhole_63 : decode cX4_isWhole 63 = .ok (.iload 6, 2) := by decide +kernel
theorem dX4_isWhole_65 : decode cX4_isWhole 65 = .ok (.iconst 5, 1) := by decide +kernel
theorem dX4_isWhole_66 : decode cX4_isWhole 66 = .ok (.if_icmp .ge 69, 3) := by decide +kernel
theorem dX4_isWhole_69 : decode cX4_isWhole 69 = .ok (.iload 5, 2) := by decide +kernel
theorem dX4_isWhole_71 : decode cX4_isWhole 71 = .ok (.ifCond .ne 51, 3) := by decide +kernel
theorem dX4_isWhole_74 : decode cX4_isWhole 74 = .ok (.aload_n 0, 1) := by decide +kernel
theorem dX4_isWhole_75 : decode cX4_isWhole 75 = .ok (.getfield 26, 3) := by decide +kernel
theorem dX4_isWhole_78 : decode cX4_isWhole 78 = .ok (.iload_n 1, 1) := by decide +kernel
theorem dX4_isWhole_79 : decode cX4_isWhole 79 = .ok (.iaload, 1) := by decide +kernel
theorem dX4_isWhole_80 : decode cX4_isWhole 80 = .ok (.iload 6, 2) := by decide +kernel
theorem dX4_isWhole_82 : decode cX4_isWhole 82 = .ok (.invokestatic 80, 3) := by decide +kernel
theorem dX4_isWhole_85 : decode cX4_isWhole 85 = .ok (.ifCond .eq 41, 3) := by decide +kernel
theorem dX4_isWhole_88 : decode cX4_isWhole 88 = .ok (.iload 6, 2) := by decide +kernel
theorem dX4_isWhole_90 : decode cX4_isWhole 90 = .ok (.iload_n 3, 1) := by decide +kernel
theorem dX4_isWhole_91 : decode cX4_isWhole 91 = .ok (.if_icmp .eq 35, 3) := by decide +kernel
theorem dX4_isWhole_94 : decode cX4_isWhole 94 = .ok (.iload 6, 2) := by decide +kernel
theorem dX4_isWhole_96 : decode cX4_isWhole 96 = .ok (.iload 4, 2) := by decide +kernel
theorem dX4_isWhole_98 : decode cX4_isWhole 98 = .ok (.if_icmp .eq 28, 3) := by decide +kernel
theorem dX4_isWhole_101 : decode cX4_isWhole 101 = .ok (.aload_n 0, 1) := by decide +kernel
theorem dX4_isWhole_102 : decode cX4_isWhole 102 = .ok (.iload 4, 2) := by decide +kernel
theorem dX4_isWhole_104 : decode cX4_isWhole 104 = .ok (.iload 6, 2) := by decide +kernel
theorem dX4_isWhole_106 : decode cX4_isWhole 106 = .ok (.invokevirtual 84, 3) := by decide +kernel
theorem dX4_isWhole_109 : decode cX4_isWhole 109 = .ok (.ifCond .eq 17, 3) := by decide +kernel
theorem dX4_isWhole_112 : decode cX4_isWhole 112 = .ok (.aload_n 0, 1) := by decide +kernel
theorem dX4_isWhole_113 : decode cX4_isWhole 113 = .ok (.iload 6, 2) := by decide +kernel
theorem dX4_isWhole_115 : decode cX4_isWhole 115 = .ok (.iload_n 3, 1) := by decide +kernel
theorem dX4_isWhole_116 : decode cX4_isWhole 116 = .ok (.invokevirtual 84, 3) := by decide +kernel
theorem dX4_isWhole_119 : decode cX4_isWhole 119 = .ok (.ifCond .eq 7, 3) := by decide +kernel
theorem dX4_isWhole_122 : decode cX4_isWhole 122 = .ok (.iconst 1, 1) := by decide +kernel
theorem dX4_isWhole_123 : decode cX4_isWhole 123 = .ok (.goto 4, 3) := by decide +kernel
theorem dX4_isWhole_126 : decode cX4_isWhole 126 = .ok (.iconst 0, 1) := by decide +kernel
theorem dX4_isWhole_127 : decode cX4_isWhole 127 = .ok (.istore 5, 2) := by decide +kernel
theorem dX4_isWhole_129 : decode cX4_isWhole 129 = .ok (.iinc 6 1, 3) := by decide +kernel
theorem dX4_isWhole_132 : decode cX4_isWhole 132 = .ok (.goto (-69), 3) := by decide +kernel
theorem dX4_isWhole_135 : decode cX4_isWhole 135 = .ok (.iload_n 2, 1) := by decide +kernel
theorem dX4_isWhole_136 : decode cX4_isWhole 136 = .ok (.ifCond .eq 12, 3) := by decide +kernel
theorem dX4_isWhole_139 : decode cX4_isWhole 139 = .ok (.iload 5, 2) := by decide +kernel
theorem dX4_isWhole_141 : decode cX4_isWhole 141 = .ok (.ifCond .eq 7, 3) := by decide +kernel
theorem dX4_isWhole_144 : decode cX4_isWhole 144 = .ok (.iconst 1, 1) := by decide +kernel
theorem dX4_isWhole_145 : decode cX4_isWhole 145 = .ok (.goto 4, 3) := by decide +kernel
theorem dX4_isWhole_148 : decode cX4_isWhole 148 = .ok (.iconst 0, 1) := by decide +kernel
theorem dX4_isWhole_149 : decode cX4_isWhole 149 = .ok (.istore_n 2, 1) := by decide +kernel
theorem dX4_isWhole_150 : decode cX4_isWhole 150 = .ok (.iinc 4 1, 3) := by decide +kernel
theorem dX4_isWhole_153 : decode cX4_isWhole 153 = .ok (.goto (-141), 3) := by decide +kernel
theorem dX4_isWhole_156 : decode cX4_isWhole 156 = .ok (.iinc 3 1, 3) := by decide +kernel
theorem dX4_isWhole_159 : decode cX4_isWhole 159 = .ok (.goto (-155), 3) := by decide +kernel
theorem dX4_isWhole_162 : decode cX4_isWhole 162 = .ok (.iload_n 2, 1) := by decide +kernel
theorem dX4_isWhole_163 : decode cX4_isWhole 163 = .ok (.ireturn, 1) := by decide +kernel
theorem dX4_findTeams_0 : decode cX4_findTeams 0 = .ok (.aload_n 0, 1) := by decide +kernel
theorem dX4_findTeams_1 : decode cX4_findTeams 1 = .ok (.iconst 0, 1) := by decide +kernel
theorem dX4_findTeams_2 : decode cX4_findTeams 2 = .ok (.putfield 87, 3) := by decide +kernel
theorem dX4_findTeams_5 : decode cX4_findTeams 5 = .ok (.aload_n 0, 1) := by decide +kernel
theorem dX4_findTeams_6 : decode cX4_findTeams 6 = .ok (.iconst (-1), 1) := by decide +kernel
theorem dX4_findTeams_7 : decode cX4_findTeams 7 = .ok (.putfield 90, 3) := by decide +kernel
theorem dX4_findTeams_10 : decode cX4_findTeams 10 = .ok (.aload_n 0, 1) := by decide +kernel
theorem dX4_findTeams_11 : decode cX4_findTeams 11 = .ok (.iconst (-1), 1) := by decide +kernel
theorem dX4_findTeams_12 : decode cX4_findTeams 12 = .ok (.putfield 93, 3) := by decide +kernel
theorem dX4_findTeams_15 : decode cX4_findTeams 15 = .ok (.aload_n 0, 1) := by decide +kernel
theorem dX4_findTeams_16 : decode cX4_findTeams 16 = .ok (.bipush 63, 2) := by decide +kernel
theorem dX4_findTeams_18 : decode cX4_findTeams 18 = .ok (.putfield 96, 3) := by decide +kernel
theorem dX4_findTeams_21 : decode cX4_findTeams 21 = .ok (.iconst 1, 1) := by decide +kernel
theorem dX4_findTeams_22 : decode cX4_findTeams 22 = .ok (.istore_n 2, 1) := by decide +kernel
theorem dX4_findTeams_23 : decode cX4_findTeams 23 = .ok (.iconst 0, 1) := by decide +kernel
theorem dX4_findTeams_24 : decode cX4_findTeams 24 = .ok (.istore_n 3, 1) := by decide +kernel
theorem dX4_findTeams_25 : decode cX4_findTeams 25 = .ok (.iload_n 3, 1) := by decide +kernel
theorem dX4_findTeams_26 : decode cX4_findTeams 26 = .ok (.aload_n 0, 1) := by decide +kernel
theorem dX4_findTeams_27 : decode cX4_findTeams 27 = .ok (.getfield 66, 3) := by decide +kernel
theorem dX4_findTeams_30 : decode cX4_findTeams 30 = .ok (.if_icmp .ge 14, 3) := by decide +kernel
theorem dX4_findTeams_33 : decode cX4_findTeams 33 = .ok (.iload_n 2, 1) := by decide +kernel
theorem dX4_findTeams_34 : decode cX4_findTeams 34 = .ok (.bipush 6, 2) := by decide +kernel
theorem dX4_findTeams_36 : decode cX4_findTeams 36 = .ok (.imul, 1) := by decide +kernel
theorem dX4_findTeams_37 : decode cX4_findTeams 37 = .ok (.istore_n 2, 1) := by decide +kernel
theorem dX4_findTeams_38 : decode cX4_findTeams 38 = .ok (.iinc 3 1, 3) := by decide +kernel
theorem dX4_findTeams_41 : decode cX4_findTeams 41 = .ok (.goto (-16), 3) := by decide +kernel
theorem dX4_findTeams_44 : decode cX4_findTeams 44 = .ok (.iconst 0, 1) := by decide +kernel
theorem dX4_findTeams_45 : decode cX4_findTeams 45 = .ok (.istore_n 3, 1) := by decide +kernel
theorem dX4_findTeams_46 : decode cX4_findTeams 46 = .ok (.iload_n 3, 1) := by decide +kernel
theorem dX4_findTeams_47 : decode cX4_findTeams 47 = .ok (.iload_n 2, 1) := by decide +kernel
theorem dX4_findTeams_48 : decode cX4_findTeams 48 = .ok (.if_icmp .ge 383, 3) := by decide +kernel
theorem dX4_findTeams_51 : decode cX4_findTeams 51 = .ok (.iload_n 3, 1) := by decide +kernel
theorem dX4_findTeams_52 : decode cX4_findTeams 52 = .ok (.istore 4, 2) := by decide +kernel
theorem dX4_findTeams_54 : decode cX4_findTeams 54 = .ok (.aload_n 0, 1) := by decide +kernel
theorem dX4_findTeams_55 : decode cX4_findTeams 55 = .ok (.getfield 66, 3) := by decide +kernel
theorem dX4_findTeams_58 : decode cX4_findTeams 58 = .ok (.iconst 1, 1) := by decide +kernel
theorem dX4_findTeams_59 : decode cX4_findTeams 59 = .ok (.isub, 1) := by decide +kernel
theorem dX4_findTeams_60 : decode cX4_findTeams 60 = .ok (.istore 5, 2) := by decide +kernel
theorem dX4_findTeams_62 : decode cX4_findTeams 62 = .ok (.iload 5, 2) := by decide +kernel
theorem dX4_findTeams_64 : decode cX4_findTeams 64 = .ok (.ifCond .lt 28, 3) := by decide +kernel
theorem dX4_findTeams_67 : decode cX4_findTeams 67 = .ok (.aload_n 0, 1) := by decide +kernel
theorem dX4_findTeams_68 : decode cX4_findTeams 68 = .ok (.getfield 45, 3) := by decide +kernel
theorem dX4_findTeams_71 : decode cX4_findTeams 71 = .ok (.iload 5, 2) := by decide +kernel
theorem dX4_findTeams_73 : decode cX4_findTeams 73 = .ok (.iload 4, 2) := by decide +kernel
theorem dX4_findTeams_75 : decode cX4_findTeams 75 = .ok (.bipush 6, 2) := by decide +kernel
theorem dX4_findTeams_77 : decode cX4_findTeams 77 = .ok (.irem, 1) := by decide +kernel
theorem dX4_findTeams_78 : decode cX4_findTeams 78 = .ok (.iastore, 1) := by decide +kernel
theorem dX4_findTeams_79 : decode cX4_findTeams 79 = .ok (.iload 4, 2) := by decide +kernel
theorem dX4_findTeams_81 : decode cX4_findTeams 81 = .ok (.bipush 6, 2) := by decide +kernel
theorem dX4_findTeams_83 : decode cX4_findTeams 83 = .ok (.idiv, 1) := by decide +kernel
theorem dX4_findTeams_84 : decode cX4_findTeams 84 = .ok (.istore 4, 2) := by decide +kernel
theorem dX4_findTeams_86 : decode cX4_findTeams 86 = .ok (.iinc 5 (-1), 3) := by decide +kernel
theorem dX4_findTeams_89 : decode cX4_findTeams 89 = .ok (.goto (-27), 3) := by decide +kernel
theorem dX4_findTeams_92 : decode cX4_findTeams 92 = .ok (.aload_n 0, 1) := by decide +kernel
theorem dX4_findTeams_93 : decode cX4_findTeams 93 = .ok (.iload_n 1, 1) := by decide +kernel
theorem dX4_findTeams_94 : decode cX4_findTeams 94 = .ok (.invokevirtual 99, 3) := by decide +kernel
theorem dX4_findTeams_97 : decode cX4_findTeams 97 = .ok (.ifCond .eq 328, 3) := by decide +kernel
theorem dX4_findTeams_100 : decode cX4_findTeams 100 = .ok (.aload_n 0, 1) := by decide +kernel
theorem dX4_findTeams_101 : decode cX4_findTeams 101 = .ok (.iload_n 1, 1) := by decide +kernel
theorem dX4_findTeams_102 : decode cX4_findTeams 102 = .ok (.invokevirtual 102, 3) := by decide +kernel
theorem dX4_findTeams_105 : decode cX4_findTeams 105 = .ok (.ifCond .eq 320, 3) := by decide +kernel
theorem dX4_findTeams_108 : decode cX4_findTeams 108 = .ok (.iconst 0, 1) := by decide +kernel
theorem dX4_findTeams_109 : decode cX4_findTeams 109 = .ok (.istore 5, 2) := by decide +kernel
theorem dX4_findTeams_111 : decode cX4_findTeams 111 = .ok (.iconst 0, 1) := by decide +kernel
theorem dX4_findTeams_112 : decode cX4_findTeams 112 = .ok (.istore 6, 2) := by decide +kernel
theorem dX4_findTeams_114 : decode cX4_findTeams 114 = .ok (.iconst 0, 1) := by decide +kernel
theorem dX4_findTeams_115 : decode cX4_findTeams 115 = .ok (.istore 7, 2) := by decide +kernel
theorem dX4_findTeams_117 : decode cX4_findTeams 117 = .ok (.iload 7, 2) := by decide +kernel
theorem dX4_findTeams_119 : decode cX4_findTeams 119 = .ok (.aload_n 0, 1) := by decide +kernel
theorem dX4_findTeams_120 : decode cX4_findTeams 120 = .ok (.getfield 66, 3) := by decide +kernel
theorem dX4_findTeams_123 : decode cX4_findTeams 123 = .ok (.if_icmp .ge 96, 3) := by decide +kernel
theorem dX4_findTeams_126 : decode cX4_findTeams 126 = .ok (.iload 5, 2) := by decide +kernel
theorem dX4_findTeams_128 : decode cX4_findTeams 128 = .ok (.aload_n 0, 1) := by decide +kernel
theorem dX4_findTeams_129 : decode cX4_findTeams 129 = .ok (.getfield 45, 3) := by decide +kernel
theorem dX4_findTeams_132 : decode cX4_findTeams 132 = .ok (.iload 7, 2) := by decide +kernel
theorem dX4_findTeams_134 : decode cX4_findTeams 134 = .ok (.iaload, 1) := by decide +kernel
theorem dX4_findTeams_135 : decode cX4_findTeams 135 = .ok (.iconst 5, 1) := by decide +kernel
theorem dX4_findTeams_136 : decode cX4_findTeams 136 = .ok (.if_icmp .ge 13, 3) := by decide +kernel
theorem dX4_findTeams_139 : decode cX4_findTeams 139 = .ok (.aload_n 0, 1) := by decide +kernel
theorem dX4_findTeams_140 : decode cX4_findTeams 140 = .ok (.getfield 16, 3) := by decide +kernel
theorem dX4_findTeams_143 : decode cX4_findTeams 143 = .ok (.iload 7, 2) := by decide +kernel
theorem dX4_findTeams_145 : decode cX4_findTeams 145 = .ok (.iaload, 1) := by decide +kernel
theorem dX4_findTeams_146 : decode cX4_findTeams 146 = .ok (.goto 4, 3) := by decide +kernel
theorem dX4_findTeams_149 : decode cX4_findTeams 149 = .ok (.iconst 0, 1) := by decide +kernel
theorem dX4_findTeams_150 : decode cX4_findTeams 150 = .ok (.iadd, 1) := by decide +kernel
theorem dX4_findTeams_151 : decode cX4_findTeams 151 = .ok (.istore 5, 2) := by decide +kernel
theorem dX4_findTeams_153 : decode cX4_findTeams 153 = .ok (.iload 6, 2) := by decide +kernel
theorem dX4_findTeams_155 : decode cX4_findTeams 155 = .ok (.aload_n 0, 1) := by decide +kernel
theorem dX4_findTeams_156 : decode cX4_findTeams 156 = .ok (.getfield 45, 3) := by decide +kernel
theorem dX4_findTeams_159 : decode cX4_findTeams 159 = .ok (.iload 7, 2) := by decide +kernel
theorem dX4_findTeams_161 : decode cX4_findTeams 161 = .ok (.iaload, 1) := by decide +kernel
theorem dX4_findTeams_162 : decode cX4_findTeams 162 = .ok (.aload_n 0, 1) := by decide +kernel
theorem dX4_findTeams_163 : decode cX4_findTeams 163 = .ok (.getfield 33, 3) := by decide +kernel
theorem dX4_findTeams_166 : decode cX4_findTeams 166 = .ok (.iload 7, 2) := by decide +kernel
theorem dX4_findTeams_168 : decode cX4_findTeams 168 = .ok (.iaload, 1) := by decide +kernel
theorem dX4_findTeams_169 : decode cX4_findTeams 169 = .ok (.if_icmp .eq 7, 3) := by decide +kernel
theorem dX4_findTeams_172 : decode cX4_findTeams 172 = .ok (.iconst 1, 1) := by decide +kernel
theorem dX4_findTeams_173 : decode cX4_findTeams 173 = .ok (.goto 4, 3) := by decide +kernel
theorem dX4_findTeams_176 : decode cX4_findTeams 176 = .ok (.iconst 0, 1) := by decide +kernel
theorem dX4_findTeams_177 : decode cX4_findTeams 177 = .ok (.iadd, 1) := by decide +kernel
theorem dX4_findTeams_178 : decode cX4_findTeams 178 = .ok (.istore 6, 2) := by decide +kernel
theorem dX4_findTeams_180 : decode cX4_findTeams 180 = .ok (.aload_n 0, 1) := by decide +kernel
theorem dX4_findTeams_181 : decode cX4_findTeams 181 = .ok (.aload_n 0, 1) := by decide +kernel
theorem dX4_findTeams_182 : decode cX4_findTeams 182 = .ok (.getfield 45, 3) := by decide +kernel
theorem dX4_findTeams_185 : decode cX4_findTeams 185 = .ok (.iload 7, 2) := by decide +kernel
theorem dX4_findTeams_187 : decode cX4_findTeams 187 = .ok (.iaload, 1) := by decide +kernel
theorem dX4_findTeams_188 : decode cX4_findTeams 188 = .ok (.iconst 5, 1) := by decide +kernel
theorem dX4_findTeams_189 : decode cX4_findTeams 189 = .ok (.if_icmp .ge 10, 3) := by decide +kernel
theorem dX4_findTeams_192 : decode cX4_findTeams 192 = .ok (.aload_n 0, 1) := by decide +kernel
theorem dX4_findTeams_193 : decode cX4_findTeams 193 = .ok (.getfield 96, 3) := by decide +kernel
theorem dX4_findTeams_196 : decode cX4_findTeams 196 = .ok (.goto 14, 3) := by decide +kernel
theorem dX4_findTeams_199 : decode cX4_findTeams 199 = .ok (.aload_n 0, 1) := by decide +kernel
theorem dX4_findTeams_200 : decode cX4_findTeams 200 = .ok (.getfield 96, 3) := by decide +kernel
theorem dX4_findTeams_203 : decode cX4_findTeams 203 = .ok (.iconst 1, 1) := by decide +kernel
theorem dX4_findTeams_204 : decode cX4_findTeams 204 = .ok (.iload 7, 2) := by decide +kernel
theorem dX4_findTeams_206 : decode cX4_findTeams 206 = .ok (.ishl, 1) := by decide +kernel
theorem dX4_findTeams_207 : decode cX4_findTeams 207 = .ok (.iconst (-1), 1) := by decide +kernel
theorem dX4_findTeams_208 : decode cX4_findTeams 208 = .ok (.ixor, 1) := by decide +kernel
theorem dX4_findTeams_209 : decode cX4_findTeams 209 = .ok (.iand, 1) := by decide +kernel
theorem dX4_findTeams_210 : decode cX4_findTeams 210 = .ok (.putfield 96, 3) := by decide +kernel
theorem dX4_findTeams_213 : decode cX4_findTeams 213 = .ok (.iinc 7 1, 3) := by decide +kernel
theorem dX4_findTeams_216 : decode cX4_findTeams 216 = .ok (.goto (-99), 3) := by decide +kernel
theorem dX4_findTeams_219 : decode cX4_findTeams 219 = .ok (.aload_n 0, 1) := by decide +kernel
theorem dX4_findTeams_220 : decode cX4_findTeams 220 = .ok (.dup, 1) := by decide +kernel
theorem dX4_findTeams_221 : decode cX4_findTeams 221 = .ok (.getfield 87, 3) := by decide +kernel
theorem dX4_findTeams_224 : decode cX4_findTeams 224 = .ok (.iconst 1, 1) := by decide +kernel
theorem dX4_findTeams_225 : decode cX4_findTeams 225 = .ok (.iadd, 1) := by decide +kernel
theorem dX4_findTeams_226 : decode cX4_findTeams 226 = .ok (.putfield 87, 3) := by decide +kernel
theorem dX4_findTeams_229 : decode cX4_findTeams 229 = .ok (.aload_n 0, 1) := by decide +kernel
theorem dX4_findTeams_230 : decode cX4_findTeams 230 = .ok (.getfield 90, 3) := by decide +kernel
theorem dX4_findTeams_233 : decode cX4_findTeams 233 = .ok (.iconst (-1), 1) := by decide +kernel
theorem dX4_findTeams_234 : decode cX4_findTeams 234 = .ok (.if_icmp .eq 12, 3) := by decide +kernel
theorem dX4_findTeams_237 : decode cX4_findTeams 237 = .ok (.iload 5, 2) := by decide +kernel
theorem dX4_findTeams_239 : decode cX4_findTeams 239 = .ok (.aload_n 0, 1) := by decide +kernel
theorem dX4_findTeams_240 : decode cX4_findTeams 240 = .ok (.getfield 90, 3) := by decide +kernel
theorem dX4_findTeams_243 : decode cX4_findTeams 243 = .ok (.if_icmp .ge 7, 3) := by decide +kernel
theorem dX4_findTeams_246 : decode cX4_findTeams 246 = .ok (.iconst 1, 1) := by decide +kernel
theorem dX4_findTeams_247 : decode cX4_findTeams 247 = .ok (.goto 4, 3) := by decide +kernel
theorem dX4_findTeams_250 : decode cX4_findTeams 250 = .ok (.iconst 0, 1) := by decide +kernel
theorem dX4_findTeams_251 : decode cX4_findTeams 251 = .ok (.istore 7, 2) := by decide +kernel
theorem dX4_findTeams_253 : decode cX4_findTeams 253 = .ok (.aload_n 0, 1) := by decide +kernel
theorem dX4_findTeams_254 : decode cX4_findTeams 254 = .ok (.getfield 93, 3) := by decide +kernel
theorem dX4_findTeams_257 : decode cX4_findTeams 257 = .ok (.iconst (-1), 1) := by decide +kernel
theorem dX4_findTeams_258 : decode cX4_findTeams 258 = .ok (.if_icmp .eq 30, 3) := by decide +kernel
theorem dX4_findTeams_261 : decode cX4_findTeams 261 = .ok (.iload 6, 2) := by decide +kernel
theorem dX4_findTeams_263 : decode cX4_findTeams 263 = .ok (.aload_n 0, 1) := by decide +kernel
theorem dX4_findTeams_264 : decode cX4_findTeams 264 = .ok (.getfield 93, 3) := by decide +kernel
theorem dX4_findTeams_267 : decode cX4_findTeams 267 = .ok (.if_icmp .lt 21, 3) := by decide +kernel
theorem dX4_findTeams_270 : decode cX4_findTeams 270 = .ok (.iload 6, 2) := by decide +kernel
theorem dX4_findTeams_272 : decode cX4_findTeams 272 = .ok (.aload_n 0, 1) := by decide +kernel
theorem dX4_findTeams_273 : decode cX4_findTeams 273 = .ok (.getfield 93, 3) := by decide +kernel
theorem dX4_findTeams_276 : decode cX4_findTeams 276 = .ok (.if_icmp .ne 16, 3) := by decide +kernel
theorem dX4_findTeams_279 : decode cX4_findTeams 279 = .ok (.iload 5, 2) := by decide +kernel
theorem dX4_findTeams_281 : decode cX4_findTeams 281 = .ok (.aload_n 0, 1) := by decide +kernel
theorem dX4_findTeams_282 : decode cX4_findTeams 282 = .ok (.getfield 105, 3) := by decide +kernel
theorem dX4_findTeams_285 : decode cX4_findTeams 285 = .ok (.if_icmp .ge 7, 3) := by decide +kernel
theorem dX4_findTeams_288 : decode cX4_findTeams 288 = .ok (.iconst 1, 1) := by decide +kernel
theorem dX4_findTeams_289 : decode cX4_findTeams 289 = .ok (.goto 4, 3) := by decide +kernel
theorem dX4_findTeams_292 : decode cX4_findTeams 292 = .ok (.iconst 0, 1) := by decide +kernel
theorem dX4_findTeams_293 : decode cX4_findTeams 293 = .ok (.istore 8, 2) := by decide +kernel
theorem dX4_findTeams_295 : decode cX4_findTeams 295 = .ok (.iconst 0, 1) := by decide +kernel
theorem dX4_findTeams_296 : decode cX4_findTeams 296 = .ok (.istore 9, 2) := by decide +kernel
theorem dX4_findTeams_298 : decode cX4_findTeams 298 = .ok (.iload 9, 2) := by decide +kernel
theorem dX4_findTeams_300 : decode cX4_findTeams 300 = .ok (.aload_n 0, 1) := by decide +kernel
theorem dX4_findTeams_301 : decode cX4_findTeams 301 = .ok (.getfield 66, 3) := by decide +kernel
theorem dX4_findTeams_304 : decode cX4_findTeams 304 = .ok (.if_icmp .ge 67, 3) := by decide +kernel
theorem dX4_findTeams_307 : decode cX4_findTeams 307 = .ok (.aload_n 0, 1) := by decide +kernel
theorem dX4_findTeams_308 : decode cX4_findTeams 308 = .ok (.getfield 48, 3) := by decide +kernel
theorem dX4_findTeams_311 : decode cX4_findTeams 311 = .ok (.iload 9, 2) := by decide +kernel
theorem dX4_findTeams_313 : decode cX4_findTeams 313 = .ok (.iload 7, 2) := by decide +kernel
theorem dX4_findTeams_315 : decode cX4_findTeams 315 = .ok (.ifCond .eq 13, 3) := by decide +kernel
theorem dX4_findTeams_318 : decode cX4_findTeams 318 = .ok (.aload_n 0, 1) := by decide +kernel
theorem dX4_findTeams_319 : decode cX4_findTeams 319 = .ok (.getfield 45, 3) := by decide +kernel
theorem dX4_findTeams_322 : decode cX4_findTeams 322 = .ok (.iload 9, 2) := by decide +kernel
theorem dX4_findTeams_324 : decode cX4_findTeams 324 = .ok (.iaload, 1) := by decide +kernel
theorem dX4_findTeams_325 : decode cX4_findTeams 325 = .ok (.goto 10, 3) := by decide +kernel
theorem dX4_findTeams_328 : decode cX4_findTeams 328 = .ok (.aload_n 0, 1) := by decide +kernel
theorem dX4_findTeams_329 : decode cX4_findTeams 329 = .ok (.getfield 48, 3) := by decide +kernel
theorem dX4_findTeams_332 : decode cX4_findTeams 332 = .ok (.iload 9, 2) := by decide +kernel
theorem dX4_findTeams_334 : decode cX4_findTeams 334 = .ok (.iaload, 1) := by decide +kernel
theorem dX4_findTeams_335 : decode cX4_findTeams 335 = .ok (.iastore, 1) := by decide +kernel
theorem dX4_findTeams_336 : decode cX4_findTeams 336 = .ok (.aload_n 0, 1) := by decide +kernel
theorem dX4_findTeams_337 : decode cX4_findTeams 337 = .ok (.getfield 51, 3) := by decide +kernel
theorem dX4_findTeams_340 : decode cX4_findTeams 340 = .ok (.iload 9, 2) := by decide +kernel
theorem dX4_findTeams_342 : decode cX4_findTeams 342 = .ok (.iload 8, 2) := by decide +kernel
theorem dX4_findTeams_344 : decode cX4_findTeams 344 = .ok (.ifCond .eq 13, 3) := by decide +kernel
theorem dX4_findTeams_347 : decode cX4_findTeams 347 = .ok (.aload_n 0, 1) := by decide +kernel
theorem dX4_findTeams_348 : decode cX4_findTeams 348 = .ok (.getfield 45, 3) := by decide +kernel
theorem dX4_findTeams_351 : decode cX4_findTeams 351 = .ok (.iload 9, 2) := by decide +kernel
theorem dX4_findTeams_353 : decode cX4_findTeams 353 = .ok (.iaload, 1) := by decide +kernel
theorem dX4_findTeams_354 : decode cX4_findTeams 354 = .ok (.goto 10, 3) := by decide +kernel
theorem dX4_findTeams_357 : decode cX4_findTeams 357 = .ok (.aload_n 0, 1) := by decide +kernel
theorem dX4_findTeams_358 : decode cX4_findTeams 358 = .ok (.getfield 51, 3) := by decide +kernel
theorem dX4_findTeams_361 : decode cX4_findTeams 361 = .ok (.iload 9, 2) := by decide +kernel
theorem dX4_findTeams_363 : decode cX4_findTeams 363 = .ok (.iaload, 1) := by decide +kernel
theorem dX4_findTeams_364 : decode cX4_findTeams 364 = .ok (.iastore, 1) := by decide +kernel
theorem dX4_findTeams_365 : decode cX4_findTeams 365 = .ok (.iinc 9 1, 3) := by decide +kernel
theorem dX4_findTeams_368 : decode cX4_findTeams 368 = .ok (.goto (-70), 3) := by decide +kernel
theorem dX4_findTeams_371 : decode cX4_findTeams 371 = .ok (.aload_n 0, 1) := by decide +kernel
theorem dX4_findTeams_372 : decode cX4_findTeams 372 = .ok (.iload 7, 2) := by decide +kernel
theorem dX4_findTeams_374 : decode cX4_findTeams 374 = .ok (.ifCond .eq 8, 3) := by decide +kernel
theorem dX4_findTeams_377 : decode cX4_findTeams 377 = .ok (.iload 5, 2) := by decide +kernel
theorem dX4_findTeams_379 : decode cX4_findTeams 379 = .ok (.goto 7, 3) := by decide +kernel
theorem dX4_findTeams_382 : decode cX4_findTeams 382 = .ok (.aload_n 0, 1) := by decide +kernel
theorem dX4_findTeams_383 : decode cX4_findTeams 383 = .ok (.getfield 90, 3) := by decide +kernel
theorem dX4_findTeams_386 : decode cX4_findTeams 386 = .ok (.putfield 90, 3) := by decide +kernel
theorem dX4_findTeams_389 : decode cX4_findTeams 389 = .ok (.aload_n 0, 1) := by decide +kernel
theorem dX4_findTeams_390 : decode cX4_findTeams 390 = .ok (.iload 8, 2) := by decide +kernel
theorem dX4_findTeams_392 : decode cX4_findTeams 392 = .ok (.ifCond .eq 8, 3) := by decide +kernel
theorem dX4_findTeams_395 : decode cX4_findTeams 395 = .ok (.iload 6, 2) := by decide +kernel
theorem dX4_findTeams_397 : decode cX4_findTeams 397 = .ok (.goto 7, 3) := by decide +kernel
theorem dX4_findTeams_400 : decode cX4_findTeams 400 = .ok (.aload_n 0, 1) := by decide +kernel
theorem dX4_findTeams_401 : decode cX4_findTeams 401 = .ok (.getfield 93, 3) := by decide +kernel
theorem dX4_findTeams_404 : decode cX4_findTeams 404 = .ok (.putfield 93, 3) := by decide +kernel
theorem dX4_findTeams_407 : decode cX4_findTeams 407 = .ok (.aload_n 0, 1) := by decide +kernel
theorem dX4_findTeams_408 : decode cX4_findTeams 408 = .ok (.iload 8, 2) := by decide +kernel
theorem dX4_findTeams_410 : decode cX4_findTeams 410 = .ok (.ifCond .eq 8, 3) := by decide +kernel
theorem dX4_findTeams_413 : decode cX4_findTeams 413 = .ok (.iload 5, 2) := by decide +kernel
theorem dX4_findTeams_415 : decode cX4_findTeams 415 = .ok (.goto 7, 3) := by decide +kernel
theorem dX4_findTeams_418 : decode cX4_findTeams 418 = .ok (.aload_n 0, 1) := by decide +kernel
theorem dX4_findTeams_419 : decode cX4_findTeams 419 = .ok (.getfield 105, 3) := by decide +kernel
theorem dX4_findTeams_422 : decode cX4_findTeams 422 = .ok (.putfield 105, 3) := by decide +kernel
theorem dX4_findTeams_425 : decode cX4_findTeams 425 = .ok (.iinc 3 1, 3) := by decide +kernel
theorem dX4_findTeams_428 : decode cX4_findTeams 428 = .ok (.goto (-382), 3) := by decide +kernel
theorem dX4_findTeams_431 : decode cX4_findTeams 431 = .ok (.return_, 1) := by decide +kernel
theorem dX4_whole_0 : decode cX4_whole 0 = .ok (.iload_n 1, 1) := by decide +kernel
theorem dX4_whole_1 : decode cX4_whole 1 = .ok (.invokestatic 77, 3) := by decide +kernel
theorem dX4_whole_4 : decode cX4_whole 4 = .ok (.ifCond .ne 6, 3) := by decide +kernel
theorem dX4_whole_7 : decode cX4_whole 7 = .ok (.bipush (-2), 2) := by decide +kernel
theorem dX4_whole_9 : decode cX4_whole 9 = .ok (.ireturn, 1) := by decide +kernel
theorem dX4_whole_10 : decode cX4_whole 10 = .ok (.aload_n 0, 1) := by decide +kernel
theorem dX4_whole_11 : decode cX4_whole 11 = .ok (.iload_n 1, 1) := by decide +kernel
theorem dX4_whole_12 : decode cX4_whole 12 = .ok (.invokevirtual 108, 3) := by decide +kernel
theorem dX4_whole_15 : decode cX4_whole 15 = .ok (.aload_n 0, 1) := by decide +kernel
theorem dX4_whole_16 : decode cX4_whole 16 = .ok (.getfield 87, 3) := by decide +kernel
theorem dX4_whole_19 : decode cX4_whole 19 = .ok (.ireturn, 1) := by decide +kernel
theorem dX4_cheapest_0 : decode cX4_cheapest 0 = .ok (.iload_n 1, 1) := by decide +kernel
theorem dX4_cheapest_1 : decode cX4_cheapest 1 = .ok (.invokestatic 77, 3) := by decide +kernel
theorem dX4_cheapest_4 : decode cX4_cheapest 4 = .ok (.ifCond .ne 6, 3) := by decide +kernel
theorem dX4_cheapest_7 : decode cX4_cheapest 7 = .ok (.bipush (-2), 2) := by decide +kernel
theorem dX4_cheapest_9 : decode cX4_cheapest 9 = .ok (.ireturn, 1) := by decide +kernel
theorem dX4_cheapest_10 : decode cX4_cheapest 10 = .ok (.aload_n 0, 1) := by decide +kernel
theorem dX4_cheapest_11 : decode cX4_cheapest 11 = .ok (.iload_n 1, 1) := by decide +kernel
theorem dX4_cheapest_12 : decode cX4_cheapest 12 = .ok (.invokevirtual 108, 3) := by decide +kernel
theorem dX4_cheapest_15 : decode cX4_cheapest 15 = .ok (.aload_n 0, 1) := by decide +kernel
theorem dX4_cheapest_16 : decode cX4_cheapest 16 = .ok (.getfield 90, 3) := by decide +kernel
theorem dX4_cheapest_19 : decode cX4_cheapest 19 = .ok (.ireturn, 1) := by decide +kernel
theorem dX4_nearest_0 : decode cX4_nearest 0 = .ok (.iload_n 1, 1) := by decide +kernel
theorem dX4_nearest_1 : decode cX4_nearest 1 = .ok (.invokestatic 77, 3) := by decide +kernel
theorem dX4_nearest_4 : decode cX4_nearest 4 = .ok (.ifCond .ne 6, 3) := by decide +kernel
theorem dX4_nearest_7 : decode cX4_nearest 7 = .ok (.bipush (-2), 2) := by decide +kernel
theorem dX4_nearest_9 : decode cX4_nearest 9 = .ok (.ireturn, 1) := by decide +kernel
theorem dX4_nearest_10 : decode cX4_nearest 10 = .ok (.aload_n 0, 1) := by decide +kernel
theorem dX4_nearest_11 : decode cX4_nearest 11 = .ok (.iload_n 1, 1) := by decide +kernel
theorem dX4_nearest_12 : decode cX4_nearest 12 = .ok (.invokevirtual 108, 3) := by decide +kernel
theorem dX4_nearest_15 : decode cX4_nearest 15 = .ok (.aload_n 0, 1) := by decide +kernel
theorem dX4_nearest_16 : decode cX4_nearest 16 = .ok (.getfield 93, 3) := by decide +kernel
theorem dX4_nearest_19 : decode cX4_nearest 19 = .ok (.ireturn, 1) := by decide +kernel
theorem dX4_take_0 : decode cX4_take 0 = .ok (.iload_n 1, 1) := by decide +kernel
theorem dX4_take_1 : decode cX4_take 1 = .ok (.invokestatic 77, 3) := by decide +kernel
theorem dX4_take_4 : decode cX4_take 4 = .ok (.ifCond .ne 6, 3) := by decide +kernel
theorem dX4_take_7 : decode cX4_take 7 = .ok (.bipush (-2), 2) := by decide +kernel
theorem dX4_take_9 : decode cX4_take 9 = .ok (.ireturn, 1) := by decide +kernel
theorem dX4_take_10 : decode cX4_take 10 = .ok (.iload_n 2, 1) := by decide +kernel
theorem dX4_take_11 : decode cX4_take 11 = .ok (.iconst 0, 1) := by decide +kernel
theorem dX4_take_12 : decode cX4_take 12 = .ok (.iconst 1, 1) := by decide +kernel
theorem dX4_take_13 : decode cX4_take 13 = .ok (.invokestatic 69, 3) := by decide +kernel
theorem dX4_take_16 : decode cX4_take 16 = .ok (.ifCond .ne 6, 3) := by decide +kernel
theorem dX4_take_19 : decode cX4_take 19 = .ok (.bipush (-3), 2) := by decide +kernel
theorem dX4_take_21 : decode cX4_take 21 = .ok (.ireturn, 1) := by decide +kernel
theorem dX4_take_22 : decode cX4_take 22 = .ok (.aload_n 0, 1) := by decide +kernel
theorem dX4_take_23 : decode cX4_take 23 = .ok (.iload_n 1, 1) := by decide +kernel
theorem dX4_take_24 : decode cX4_take 24 = .ok (.invokevirtual 108, 3) := by decide +kernel
theorem dX4_take_27 : decode cX4_take 27 = .ok (.aload_n 0, 1) := by decide +kernel
theorem dX4_take_28 : decode cX4_take 28 = .ok (.getfield 87, 3) := by decide +kernel
theorem dX4_take_31 : decode cX4_take 31 = .ok (.ifCond .ne 6, 3) := by decide +kernel
theorem dX4_take_34 : decode cX4_take 34 = .ok (.bipush (-4), 2) := by decide +kernel
theorem dX4_take_36 : decode cX4_take 36 = .ok (.ireturn, 1) := by decide +kernel
theorem dX4_take_37 : decode cX4_take 37 = .ok (.iconst 0, 1) := by decide +kernel
theorem dX4_take_38 : decode cX4_take 38 = .ok (.istore_n 3, 1) := by decide +kernel
theorem dX4_take_39 : decode cX4_take 39 = .ok (.iload_n 3, 1) := by decide +kernel
theorem dX4_take_40 : decode cX4_take 40 = .ok (.aload_n 0, 1) := by decide +kernel
theorem dX4_take_41 : decode cX4_take 41 = .ok (.getfield 66, 3) := by decide +kernel
theorem dX4_take_44 : decode cX4_take 44 = .ok (.if_icmp .ge 34, 3) := by decide +kernel
theorem dX4_take_47 : decode cX4_take 47 = .ok (.aload_n 0, 1) := by decide +kernel
theorem dX4_take_48 : decode cX4_take 48 = .ok (.getfield 33, 3) := by decide +kernel
theorem dX4_take_51 : decode cX4_take 51 = .ok (.iload_n 3, 1) := by decide +kernel
theorem dX4_take_52 : decode cX4_take 52 = .ok (.iload_n 2, 1) := by decide +kernel
theorem dX4_take_53 : decode cX4_take 53 = .ok (.ifCond .ne 12, 3) := by decide +kernel
theorem dX4_take_56 : decode cX4_take 56 = .ok (.aload_n 0, 1) := by decide +kernel
theorem dX4_take_57 : decode cX4_take 57 = .ok (.getfield 48, 3) := by decide +kernel
theorem dX4_take_60 : decode cX4_take 60 = .ok (.iload_n 3, 1) := by decide +kernel
theorem dX4_take_61 : decode cX4_take 61 = .ok (.iaload, 1) := by decide +kernel
theorem dX4_take_62 : decode cX4_take 62 = .ok (.goto 9, 3) := by decide +kernel
theorem dX4_take_65 : decode cX4_take 65 = .ok (.aload_n 0, 1) := by decide +kernel
theorem dX4_take_66 : decode cX4_take 66 = .ok (.getfield 51, 3) := by decide +kernel
theorem dX4_take_69 : decode cX4_take 69 = .ok (.iload_n 3, 1) := by decide +kernel
theorem dX4_take_70 : decode cX4_take 70 = .ok (.iaload, 1) := by decide +kernel
theorem dX4_take_71 : decode cX4_take 71 = .ok (.iastore, 1) := by decide +kernel
theorem dX4_take_72 : decode cX4_take 72 = .ok (.iinc 3 1, 3) := by decide +kernel
theorem dX4_take_75 : decode cX4_take 75 = .ok (.goto (-36), 3) := by decide +kernel
theorem dX4_take_78 : decode cX4_take 78 = .ok (.iload_n 2, 1) := by decide +kernel
theorem dX4_take_79 : decode cX4_take 79 = .ok (.ifCond .ne 10, 3) := by decide +kernel
theorem dX4_take_82 : decode cX4_take 82 = .ok (.aload_n 0, 1) := by decide +kernel
theorem dX4_take_83 : decode cX4_take 83 = .ok (.getfield 90, 3) := by decide +kernel
theorem dX4_take_86 : decode cX4_take 86 = .ok (.goto 7, 3) := by decide +kernel
theorem dX4_take_89 : decode cX4_take 89 = .ok (.aload_n 0, 1) := by decide +kernel
theorem dX4_take_90 : decode cX4_take 90 = .ok (.getfield 105, 3) := by decide +kernel
theorem dX4_take_93 : decode cX4_take 93 = .ok (.ireturn, 1) := by decide +kernel
theorem dX4_seated_0 : decode cX4_seated 0 = .ok (.iconst 0, 1) := by decide +kernel
theorem dX4_seated_1 : decode cX4_seated 1 = .ok (.istore_n 1, 1) := by decide +kernel
theorem dX4_seated_2 : decode cX4_seated 2 = .ok (.iconst 0, 1) := by decide +kernel
theorem dX4_seated_3 : decode cX4_seated 3 = .ok (.istore_n 2, 1) := by decide +kernel
theorem dX4_seated_4 : decode cX4_seated 4 = .ok (.iload_n 2, 1) := by decide +kernel
theorem dX4_seated_5 : decode cX4_seated 5 = .ok (.aload_n 0, 1) := by decide +kernel
theorem dX4_seated_6 : decode cX4_seated 6 = .ok (.getfield 66, 3) := by decide +kernel
theorem dX4_seated_9 : decode cX4_seated 9 = .ok (.if_icmp .ge 27, 3) := by decide +kernel
theorem dX4_seated_12 : decode cX4_seated 12 = .ok (.iload_n 1, 1) := by decide +kernel
theorem dX4_seated_13 : decode cX4_seated 13 = .ok (.aload_n 0, 1) := by decide +kernel
theorem dX4_seated_14 : decode cX4_seated 14 = .ok (.getfield 33, 3) := by decide +kernel
theorem dX4_seated_17 : decode cX4_seated 17 = .ok (.iload_n 2, 1) := by decide +kernel
theorem dX4_seated_18 : decode cX4_seated 18 = .ok (.iaload, 1) := by decide +kernel
theorem dX4_seated_19 : decode cX4_seated 19 = .ok (.iconst 5, 1) := by decide +kernel
theorem dX4_seated_20 : decode cX4_seated 20 = .ok (.if_icmp .ge 7, 3) := by decide +kernel
theorem dX4_seated_23 : decode cX4_seated 23 = .ok (.iconst 1, 1) := by decide +kernel
theorem dX4_seated_24 : decode cX4_seated 24 = .ok (.goto 4, 3) := by decide +kernel
theorem dX4_seated_27 : decode cX4_seated 27 = .ok (.iconst 0, 1) := by decide +kernel
theorem dX4_seated_28 : decode cX4_seated 28 = .ok (.iadd, 1) := by decide +kernel
theorem dX4_seated_29 : decode cX4_seated 29 = .ok (.istore_n 1, 1) := by decide +kernel
theorem dX4_seated_30 : decode cX4_seated 30 = .ok (.iinc 2 1, 3) := by decide +kernel
theorem dX4_seated_33 : decode cX4_seated 33 = .ok (.goto (-29), 3) := by decide +kernel
theorem dX4_seated_36 : decode cX4_seated 36 = .ok (.iload_n 1, 1) := by decide +kernel
theorem dX4_seated_37 : decode cX4_seated 37 = .ok (.ireturn, 1) := by decide +kernel
theorem dX4_leave_0 : decode cX4_leave 0 = .ok (.aload_n 0, 1) := by decide +kernel
theorem dX4_leave_1 : decode cX4_leave 1 = .ok (.invokevirtual 112, 3) := by decide +kernel
theorem dX4_leave_4 : decode cX4_leave 4 = .ok (.istore_n 1, 1) := by decide +kernel
theorem dX4_leave_5 : decode cX4_leave 5 = .ok (.iconst 0, 1) := by decide +kernel
theorem dX4_leave_6 : decode cX4_leave 6 = .ok (.istore_n 2, 1) := by decide +kernel
theorem dX4_leave_7 : decode cX4_leave 7 = .ok (.iload_n 2, 1) := by decide +kernel
theorem dX4_leave_8 : decode cX4_leave 8 = .ok (.bipush 6, 2) := by decide +kernel
theorem dX4_leave_10 : decode cX4_leave 10 = .ok (.if_icmp .ge 16, 3) := by decide +kernel
theorem dX4_leave_13 : decode cX4_leave 13 = .ok (.aload_n 0, 1) := by decide +kernel
theorem dX4_leave_14 : decode cX4_leave 14 = .ok (.getfield 33, 3) := by decide +kernel
theorem dX4_leave_17 : decode cX4_leave 17 = .ok (.iload_n 2, 1) := by decide +kernel
theorem dX4_leave_18 : decode cX4_leave 18 = .ok (.iconst 5, 1) := by decide +kernel
theorem dX4_leave_19 : decode cX4_leave 19 = .ok (.iastore, 1) := by decide +kernel
theorem dX4_leave_20 : decode cX4_leave 20 = .ok (.iinc 2 1, 3) := by decide +kernel
theorem dX4_leave_23 : decode cX4_leave 23 = .ok (.goto (-16), 3) := by decide +kernel
theorem dX4_leave_26 : decode cX4_leave 26 = .ok (.iload_n 1, 1) := by decide +kernel
theorem dX4_leave_27 : decode cX4_leave 27 = .ok (.ireturn, 1) := by decide +kernel
theorem dX4_booth_0 : decode cX4_booth 0 = .ok (.aload_n 0, 1) := by decide +kernel
theorem dX4_booth_1 : decode cX4_booth 1 = .ok (.iload_n 1, 1) := by decide +kernel
theorem dX4_booth_2 : decode cX4_booth 2 = .ok (.invokevirtual 73, 3) := by decide +kernel
theorem dX4_booth_5 : decode cX4_booth 5 = .ok (.ifCond .eq 12, 3) := by decide +kernel
theorem dX4_booth_8 : decode cX4_booth 8 = .ok (.aload_n 0, 1) := by decide +kernel
theorem dX4_booth_9 : decode cX4_booth 9 = .ok (.getfield 33, 3) := by decide +kernel
theorem dX4_booth_12 : decode cX4_booth 12 = .ok (.iload_n 1, 1) := by decide +kernel
theorem dX4_booth_13 : decode cX4_booth 13 = .ok (.iaload, 1) := by decide +kernel
theorem dX4_booth_14 : decode cX4_booth 14 = .ok (.goto 5, 3) := by decide +kernel
theorem dX4_booth_17 : decode cX4_booth 17 = .ok (.bipush (-2), 2) := by decide +kernel
theorem dX4_booth_19 : decode cX4_booth 19 = .ok (.ireturn, 1) := by decide +kernel
theorem dX4_lacking_0 : decode cX4_lacking 0 = .ok (.iload_n 1, 1) := by decide +kernel
theorem dX4_lacking_1 : decode cX4_lacking 1 = .ok (.invokestatic 77, 3) := by decide +kernel
theorem dX4_lacking_4 : decode cX4_lacking 4 = .ok (.ifCond .ne 6, 3) := by decide +kernel
theorem dX4_lacking_7 : decode cX4_lacking 7 = .ok (.bipush (-2), 2) := by decide +kernel
theorem dX4_lacking_9 : decode cX4_lacking 9 = .ok (.ireturn, 1) := by decide +kernel
theorem dX4_lacking_10 : decode cX4_lacking 10 = .ok (.iconst 0, 1) := by decide +kernel
theorem dX4_lacking_11 : decode cX4_lacking 11 = .ok (.istore_n 2, 1) := by decide +kernel
theorem dX4_lacking_12 : decode cX4_lacking 12 = .ok (.iconst 0, 1) := by decide +kernel
theorem dX4_lacking_13 : decode cX4_lacking 13 = .ok (.istore_n 3, 1) := by decide +kernel
theorem dX4_lacking_14 : decode cX4_lacking 14 = .ok (.iload_n 3, 1) := by decide +kernel
theorem dX4_lacking_15 : decode cX4_lacking 15 = .ok (.iconst 5, 1) := by decide +kernel
theorem dX4_lacking_16 : decode cX4_lacking 16 = .ok (.if_icmp .ge 96, 3) := by decide +kernel
theorem dX4_lacking_19 : decode cX4_lacking 19 = .ok (.iconst 0, 1) := by decide +kernel
theorem dX4_lacking_20 : decode cX4_lacking 20 = .ok (.istore 4, 2) := by decide +kernel
theorem dX4_lacking_22 : decode cX4_lacking 22 = .ok (.iconst 0, 1) := by decide +kernel
theorem dX4_lacking_23 : decode cX4_lacking 23 = .ok (.istore 5, 2) := by decide +kernel
theorem dX4_lacking_25 : decode cX4_lacking 25 = .ok (.iload 5, 2) := by decide +kernel
theorem dX4_lacking_27 : decode cX4_lacking 27 = .ok (.aload_n 0, 1) := by decide +kernel
theorem dX4_lacking_28 : decode cX4_lacking 28 = .ok (.getfield 66, 3) := by decide +kernel
theorem dX4_lacking_31 : decode cX4_lacking 31 = .ok (.if_icmp .ge 43, 3) := by decide +kernel
theorem dX4_lacking_34 : decode cX4_lacking 34 = .ok (.iload 4, 2) := by decide +kernel
theorem dX4_lacking_36 : decode cX4_lacking 36 = .ok (.aload_n 0, 1) := by decide +kernel
theorem dX4_lacking_37 : decode cX4_lacking 37 = .ok (.getfield 19, 3) := by decide +kernel
theorem dX4_lacking_40 : decode cX4_lacking 40 = .ok (.iload 5, 2) := by decide +kernel
theorem dX4_lacking_42 : decode cX4_lacking 42 = .ok (.baload, 1) := by decide +kernel
theorem dX4_lacking_43 : decode cX4_lacking 43 = .ok (.ifCond .ne 21, 3) := by decide +kernel
theorem dX4_lacking_46 : decode cX4_lacking 46 = .ok (.aload_n 0, 1) := by decide +kernel
theorem dX4_lacking_47 : decode cX4_lacking 47 = .ok (.getfield 13, 3) := by decide +kernel
theorem dX4_lacking_50 : decode cX4_lacking 50 = .ok (.iload 5, 2) := by decide +kernel
theorem dX4_lacking_52 : decode cX4_lacking 52 = .ok (.iaload, 1) := by decide +kernel
theorem dX4_lacking_53 : decode cX4_lacking 53 = .ok (.iload_n 3, 1) := by decide +kernel
theorem dX4_lacking_54 : decode cX4_lacking 54 = .ok (.invokestatic 80, 3) := by decide +kernel
theorem dX4_lacking_57 : decode cX4_lacking 57 = .ok (.ifCond .eq 7, 3) := by decide +kernel
theorem dX4_lacking_60 : decode cX4_lacking 60 = .ok (.iconst 1, 1) := by decide +kernel
theorem dX4_lacking_61 : decode cX4_lacking 61 = .ok (.goto 4, 3) := by decide +kernel
theorem dX4_lacking_64 : decode cX4_lacking 64 = .ok (.iconst 0, 1) := by decide +kernel
theorem dX4_lacking_65 : decode cX4_lacking 65 = .ok (.iadd, 1) := by decide +kernel
theorem dX4_lacking_66 : decode cX4_lacking 66 = .ok (.istore 4, 2) := by decide +kernel
theorem dX4_lacking_68 : decode cX4_lacking 68 = .ok (.iinc 5 1, 3) := by decide +kernel
theorem dX4_lacking_71 : decode cX4_lacking 71 = .ok (.goto (-46), 3) := by decide +kernel
theorem dX4_lacking_74 : decode cX4_lacking 74 = .ok (.iload_n 2, 1) := by decide +kernel
theorem dX4_lacking_75 : decode cX4_lacking 75 = .ok (.aload_n 0, 1) := by decide +kernel
theorem dX4_lacking_76 : decode cX4_lacking 76 = .ok (.getfield 26, 3) := by decide +kernel
theorem dX4_lacking_79 : decode cX4_lacking 79 = .ok (.iload_n 1, 1) := by decide +kernel
theorem dX4_lacking_80 : decode cX4_lacking 80 = .ok (.iaload, 1) := by decide +kernel
theorem dX4_lacking_81 : decode cX4_lacking 81 = .ok (.iload_n 3, 1) := by decide +kernel
theorem dX4_lacking_82 : decode cX4_lacking 82 = .ok (.invokestatic 80, 3) := by decide +kernel
theorem dX4_lacking_85 : decode cX4_lacking 85 = .ok (.ifCond .eq 18, 3) := by decide +kernel
theorem dX4_lacking_88 : decode cX4_lacking 88 = .ok (.iload 4, 2) := by decide +kernel
theorem dX4_lacking_90 : decode cX4_lacking 90 = .ok (.aload_n 0, 1) := by decide +kernel
theorem dX4_lacking_91 : decode cX4_lacking 91 = .ok (.getfield 29, 3) := by decide +kernel
theorem dX4_lacking_94 : decode cX4_lacking 94 = .ok (.if_icmp .ge 9, 3) := by decide +kernel
theorem dX4_lacking_97 : decode cX4_lacking 97 = .ok (.iconst 1, 1) := by decide +kernel
theorem dX4_lacking_98 : decode cX4_lacking 98 = .ok (.iload_n 3, 1) := by decide +kernel
theorem dX4_lacking_99 : decode cX4_lacking 99 = .ok (.ishl, 1) := by decide +kernel
theorem dX4_lacking_100 : decode cX4_lacking 100 = .ok (.goto 4, 3) := by decide +kernel
theorem dX4_lacking_103 : decode cX4_lacking 103 = .ok (.iconst 0, 1) := by decide +kernel
theorem dX4_lacking_104 : decode cX4_lacking 104 = .ok (.ior, 1) := by decide +kernel
theorem dX4_lacking_105 : decode cX4_lacking 105 = .ok (.istore_n 2, 1) := by decide +kernel
theorem dX4_lacking_106 : decode cX4_lacking 106 = .ok (.iinc 3 1, 3) := by decide +kernel
theorem dX4_lacking_109 : decode cX4_lacking 109 = .ok (.goto (-95), 3) := by decide +kernel
theorem dX4_lacking_112 : decode cX4_lacking 112 = .ok (.iload_n 2, 1) := by decide +kernel
theorem dX4_lacking_113 : decode cX4_lacking 113 = .ok (.ireturn, 1) := by decide +kernel
theorem dX4_needed_0 : decode cX4_needed 0 = .ok (.aload_n 0, 1) := by decide +kernel
theorem dX4_needed_1 : decode cX4_needed 1 = .ok (.iload_n 1, 1) := by decide +kernel
theorem dX4_needed_2 : decode cX4_needed 2 = .ok (.invokevirtual 73, 3) := by decide +kernel
theorem dX4_needed_5 : decode cX4_needed 5 = .ok (.ifCond .eq 10, 3) := by decide +kernel
theorem dX4_needed_8 : decode cX4_needed 8 = .ok (.iload_n 2, 1) := by decide +kernel
theorem dX4_needed_9 : decode cX4_needed 9 = .ok (.invokestatic 77, 3) := by decide +kernel
theorem dX4_needed_12 : decode cX4_needed 12 = .ok (.ifCond .ne 6, 3) := by decide +kernel
theorem dX4_needed_15 : decode cX4_needed 15 = .ok (.bipush (-2), 2) := by decide +kernel
theorem dX4_needed_17 : decode cX4_needed 17 = .ok (.ireturn, 1) := by decide +kernel
theorem dX4_needed_18 : decode cX4_needed 18 = .ok (.aload_n 0, 1) := by decide +kernel
theorem dX4_needed_19 : decode cX4_needed 19 = .ok (.iload_n 2, 1) := by decide +kernel
theorem dX4_needed_20 : decode cX4_needed 20 = .ok (.invokevirtual 108, 3) := by decide +kernel
theorem dX4_needed_23 : decode cX4_needed 23 = .ok (.aload_n 0, 1) := by decide +kernel
theorem dX4_needed_24 : decode cX4_needed 24 = .ok (.getfield 87, 3) := by decide +kernel
theorem dX4_needed_27 : decode cX4_needed 27 = .ok (.ifCond .le 18, 3) := by decide +kernel
theorem dX4_needed_30 : decode cX4_needed 30 = .ok (.aload_n 0, 1) := by decide +kernel
theorem dX4_needed_31 : decode cX4_needed 31 = .ok (.getfield 96, 3) := by decide +kernel
theorem dX4_needed_34 : decode cX4_needed 34 = .ok (.iload_n 1, 1) := by decide +kernel
theorem dX4_needed_35 : decode cX4_needed 35 = .ok (.invokestatic 80, 3) := by decide +kernel
theorem dX4_needed_38 : decode cX4_needed 38 = .ok (.ifCond .eq 7, 3) := by decide +kernel
theorem dX4_needed_41 : decode cX4_needed 41 = .ok (.iconst 1, 1) := by decide +kernel
theorem dX4_needed_42 : decode cX4_needed 42 = .ok (.goto 4, 3) := by decide +kernel
theorem dX4_needed_45 : decode cX4_needed 45 = .ok (.iconst 0, 1) := by decide +kernel
theorem dX4_needed_46 : decode cX4_needed 46 = .ok (.ireturn, 1) := by decide +kernel
theorem dX4_speak_0 : decode cX4_speak 0 = .ok (.iload_n 1, 1) := by decide +kernel
theorem dX4_speak_1 : decode cX4_speak 1 = .ok (.invokestatic 116, 3) := by decide +kernel
theorem dX4_speak_4 : decode cX4_speak 4 = .ok (.ifCond .eq 10, 3) := by decide +kernel
theorem dX4_speak_7 : decode cX4_speak 7 = .ok (.iload_n 2, 1) := by decide +kernel
theorem dX4_speak_8 : decode cX4_speak 8 = .ok (.invokestatic 119, 3) := by decide +kernel
theorem dX4_speak_11 : decode cX4_speak 11 = .ok (.ifCond .ne 6, 3) := by decide +kernel
theorem dX4_speak_14 : decode cX4_speak 14 = .ok (.bipush (-2), 2) := by decide +kernel
theorem dX4_speak_16 : decode cX4_speak 16 = .ok (.ireturn, 1) := by decide +kernel
theorem dX4_speak_17 : decode cX4_speak 17 = .ok (.iload_n 3, 1) := by decide +kernel
theorem dX4_speak_18 : decode cX4_speak 18 = .ok (.iconst 1, 1) := by decide +kernel
theorem dX4_speak_19 : decode cX4_speak 19 = .ok (.bipush 9, 2) := by decide +kernel
theorem dX4_speak_21 : decode cX4_speak 21 = .ok (.invokestatic 69, 3) := by decide +kernel
theorem dX4_speak_24 : decode cX4_speak 24 = .ok (.ifCond .ne 6, 3) := by decide +kernel
theorem dX4_speak_27 : decode cX4_speak 27 = .ok (.bipush (-3), 2) := by decide +kernel
theorem dX4_speak_29 : decode cX4_speak 29 = .ok (.ireturn, 1) := by decide +kernel
theorem dX4_speak_30 : decode cX4_speak 30 = .ok (.aload_n 0, 1) := by decide +kernel
theorem dX4_speak_31 : decode cX4_speak 31 = .ok (.getfield 36, 3) := by decide +kernel
theorem dX4_speak_34 : decode cX4_speak 34 = .ok (.iload_n 1, 1) := by decide +kernel
theorem dX4_speak_35 : decode cX4_speak 35 = .ok (.iload_n 2, 1) := by decide +kernel
theorem dX4_speak_36 : decode cX4_speak 36 = .ok (.iastore, 1) := by decide +kernel
theorem dX4_speak_37 : decode cX4_speak 37 = .ok (.aload_n 0, 1) := by decide +kernel
theorem dX4_speak_38 : decode cX4_speak 38 = .ok (.getfield 39, 3) := by decide +kernel
theorem dX4_speak_41 : decode cX4_speak 41 = .ok (.iload_n 1, 1) := by decide +kernel
theorem dX4_speak_42 : decode cX4_speak 42 = .ok (.iload_n 3, 1) := by decide +kernel
theorem dX4_speak_43 : decode cX4_speak 43 = .ok (.iastore, 1) := by decide +kernel
theorem dX4_speak_44 : decode cX4_speak 44 = .ok (.iconst 1, 1) := by decide +kernel
theorem dX4_speak_45 : decode cX4_speak 45 = .ok (.ireturn, 1) := by decide +kernel
theorem dX4_silence_0 : decode cX4_silence 0 = .ok (.iload_n 1, 1) := by decide +kernel
theorem dX4_silence_1 : decode cX4_silence 1 = .ok (.invokestatic 116, 3) := by decide +kernel
theorem dX4_silence_4 : decode cX4_silence 4 = .ok (.ifCond .ne 6, 3) := by decide +kernel
theorem dX4_silence_7 : decode cX4_silence 7 = .ok (.bipush (-2), 2) := by decide +kernel
theorem dX4_silence_9 : decode cX4_silence 9 = .ok (.ireturn, 1) := by decide +kernel
theorem dX4_silence_10 : decode cX4_silence 10 = .ok (.aload_n 0, 1) := by decide +kernel
theorem dX4_silence_11 : decode cX4_silence 11 = .ok (.getfield 36, 3) := by decide +kernel
theorem dX4_silence_14 : decode cX4_silence 14 = .ok (.iload_n 1, 1) := by decide +kernel
theorem dX4_silence_15 : decode cX4_silence 15 = .ok (.iaload, 1) := by decide +kernel
theorem dX4_silence_16 : decode cX4_silence 16 = .ok (.iconst (-1), 1) := by decide +kernel
theorem dX4_silence_17 : decode cX4_silence 17 = .ok (.if_icmp .ne 7, 3) := by decide +kernel
theorem dX4_silence_20 : decode cX4_silence 20 = .ok (.iconst 0, 1) := by decide +kernel
theorem dX4_silence_21 : decode cX4_silence 21 = .ok (.goto 4, 3) := by decide +kernel
theorem dX4_silence_24 : decode cX4_silence 24 = .ok (.iconst 1, 1) := by decide +kernel
theorem dX4_silence_25 : decode cX4_silence 25 = .ok (.istore_n 2, 1) := by decide +kernel
theorem dX4_silence_26 : decode cX4_silence 26 = .ok (.aload_n 0, 1) := by decide +kernel
theorem dX4_silence_27 : decode cX4_silence 27 = .ok (.getfield 36, 3) := by decide +kernel
theorem dX4_silence_30 : decode cX4_silence 30 = .ok (.iload_n 1, 1) := by decide +kernel
theorem dX4_silence_31 : decode cX4_silence 31 = .ok (.iconst (-1), 1) := by decide +kernel
theorem dX4_silence_32 : decode cX4_silence 32 = .ok (.iastore, 1) := by decide +kernel
theorem dX4_silence_33 : decode cX4_silence 33 = .ok (.iload_n 2, 1) := by decide +kernel
theorem dX4_silence_34 : decode cX4_silence 34 = .ok (.ireturn, 1) := by decide +kernel
theorem dX4_limit_0 : decode cX4_limit 0 = .ok (.iload_n 1, 1) := by decide +kernel
theorem dX4_limit_1 : decode cX4_limit 1 = .ok (.iconst 5, 1) := by decide +kernel
theorem dX4_limit_2 : decode cX4_limit 2 = .ok (.bipush 60, 2) := by decide +kernel
theorem dX4_limit_4 : decode cX4_limit 4 = .ok (.invokestatic 69, 3) := by decide +kernel
theorem dX4_limit_7 : decode cX4_limit 7 = .ok (.ifCond .ne 6, 3) := by decide +kernel
theorem dX4_limit_10 : decode cX4_limit 10 = .ok (.bipush (-3), 2) := by decide +kernel
theorem dX4_limit_12 : decode cX4_limit 12 = .ok (.ireturn, 1) := by decide +kernel
theorem dX4_limit_13 : decode cX4_limit 13 = .ok (.aload_n 0, 1) := by decide +kernel
theorem dX4_limit_14 : decode cX4_limit 14 = .ok (.getfield 42, 3) := by decide +kernel
theorem dX4_limit_17 : decode cX4_limit 17 = .ok (.istore_n 2, 1) := by decide +kernel
theorem dX4_limit_18 : decode cX4_limit 18 = .ok (.aload_n 0, 1) := by decide +kernel
theorem dX4_limit_19 : decode cX4_limit 19 = .ok (.iload_n 1, 1) := by decide +kernel
theorem dX4_limit_20 : decode cX4_limit 20 = .ok (.putfield 42, 3) := by decide +kernel
theorem dX4_limit_23 : decode cX4_limit 23 = .ok (.iload_n 2, 1) := by decide +kernel
theorem dX4_limit_24 : decode cX4_limit 24 = .ok (.ireturn, 1) := by decide +kernel
theorem dX4_knowsIt_0 : decode cX4_knowsIt 0 = .ok (.iload_n 1, 1) := by decide +kernel
theorem dX4_knowsIt_1 : decode cX4_knowsIt 1 = .ok (.iconst (-1), 1) := by decide +kernel
theorem dX4_knowsIt_2 : decode cX4_knowsIt 2 = .ok (.if_icmp .eq 20, 3) := by decide +kernel
theorem dX4_knowsIt_5 : decode cX4_knowsIt 5 = .ok (.aload_n 0, 1) := by decide +kernel
theorem dX4_knowsIt_6 : decode cX4_knowsIt 6 = .ok (.getfield 7, 3) := by decide +kernel
theorem dX4_knowsIt_9 : decode cX4_knowsIt 9 = .ok (.iload_n 1, 1) := by decide +kernel
theorem dX4_knowsIt_10 : decode cX4_knowsIt 10 = .ok (.iaload, 1) := by decide +kernel
theorem dX4_knowsIt_11 : decode cX4_knowsIt 11 = .ok (.iload_n 2, 1) := by decide +kernel
theorem dX4_knowsIt_12 : decode cX4_knowsIt 12 = .ok (.invokestatic 80, 3) := by decide +kernel
theorem dX4_knowsIt_15 : decode cX4_knowsIt 15 = .ok (.ifCond .eq 7, 3) := by decide +kernel
theorem dX4_knowsIt_18 : decode cX4_knowsIt 18 = .ok (.iconst 1, 1) := by decide +kernel
theorem dX4_knowsIt_19 : decode cX4_knowsIt 19 = .ok (.goto 4, 3) := by decide +kernel
theorem dX4_knowsIt_22 : decode cX4_knowsIt 22 = .ok (.iconst 0, 1) := by decide +kernel
theorem dX4_knowsIt_23 : decode cX4_knowsIt 23 = .ok (.ireturn, 1) := by decide +kernel
theorem dX4_findOn_0 : decode cX4_findOn 0 = .ok (.iconst 0, 1) := by decide +kernel
theorem dX4_findOn_1 : decode cX4_findOn 1 = .ok (.istore_n 2, 1) := by decide +kernel
theorem dX4_findOn_2 : decode cX4_findOn 2 = .ok (.iload_n 2, 1) := by decide +kernel
theorem dX4_findOn_3 : decode cX4_findOn 3 = .ok (.iconst 5, 1) := by decide +kernel
theorem dX4_findOn_4 : decode cX4_findOn 4 = .ok (.if_icmp .ge 88, 3) := by decide +kernel
theorem dX4_findOn_7 : decode cX4_findOn 7 = .ok (.aload_n 0, 1) := by decide +kernel
theorem dX4_findOn_8 : decode cX4_findOn 8 = .ok (.getfield 57, 3) := by decide +kernel
theorem dX4_findOn_11 : decode cX4_findOn 11 = .ok (.iload_n 2, 1) := by decide +kernel
theorem dX4_findOn_12 : decode cX4_findOn 12 = .ok (.iconst (-1), 1) := by decide +kernel
theorem dX4_findOn_13 : decode cX4_findOn 13 = .ok (.iastore, 1) := by decide +kernel
theorem dX4_findOn_14 : decode cX4_findOn 14 = .ok (.iconst 0, 1) := by decide +kernel
theorem dX4_findOn_15 : decode cX4_findOn 15 = .ok (.istore_n 3, 1) := by decide +kernel
theorem dX4_findOn_16 : decode cX4_findOn 16 = .ok (.iload_n 3, 1) := by decide +kernel
theorem dX4_findOn_17 : decode cX4_findOn 17 = .ok (.aload_n 0, 1) := by decide +kernel
theorem dX4_findOn_18 : decode cX4_findOn 18 = .ok (.getfield 66, 3) := by decide +kernel
theorem dX4_findOn_21 : decode cX4_findOn 21 = .ok (.if_icmp .ge 65, 3) := by decide +kernel
theorem dX4_findOn_24 : decode cX4_findOn 24 = .ok (.aload_n 0, 1) := by decide +kernel
theorem dX4_findOn_25 : decode cX4_findOn 25 = .ok (.getfield 57, 3) := by decide +kernel
theorem dX4_findOn_28 : decode cX4_findOn 28 = .ok (.iload_n 2, 1) := by decide +kernel
theorem dX4_findOn_29 : decode cX4_findOn 29 = .ok (.aload_n 0, 1) := by decide +kernel
theorem dX4_findOn_30 : decode cX4_findOn 30 = .ok (.getfield 33, 3) := by decide +kernel
theorem dX4_findOn_33 : decode cX4_findOn 33 = .ok (.iload_n 3, 1) := by decide +kernel
theorem dX4_findOn_34 : decode cX4_findOn 34 = .ok (.iaload, 1) := by decide +kernel
theorem dX4_findOn_35 : decode cX4_findOn 35 = .ok (.iload_n 2, 1) := by decide +kernel
theorem dX4_findOn_36 : decode cX4_findOn 36 = .ok (.if_icmp .ne 37, 3) := by decide +kernel
theorem dX4_findOn_39 : decode cX4_findOn 39 = .ok (.aload_n 0, 1) := by decide +kernel
theorem dX4_findOn_40 : decode cX4_findOn 40 = .ok (.getfield 57, 3) := by decide +kernel
theorem dX4_findOn_43 : decode cX4_findOn 43 = .ok (.iload_n 2, 1) := by decide +kernel
theorem dX4_findOn_44 : decode cX4_findOn 44 = .ok (.iaload, 1) := by decide +kernel
theorem dX4_findOn_45 : decode cX4_findOn 45 = .ok (.iconst (-1), 1) := by decide +kernel
theorem dX4_findOn_46 : decode cX4_findOn 46 = .ok (.if_icmp .eq 23, 3) := by decide +kernel
theorem dX4_findOn_49 : decode cX4_findOn 49 = .ok (.aload_n 0, 1) := by decide +kernel
theorem dX4_findOn_50 : decode cX4_findOn 50 = .ok (.getfield 54, 3) := by decide +kernel
theorem dX4_findOn_53 : decode cX4_findOn 53 = .ok (.iload_n 3, 1) := by decide +kernel
theorem dX4_findOn_54 : decode cX4_findOn 54 = .ok (.iaload, 1) := by decide +kernel
theorem dX4_findOn_55 : decode cX4_findOn 55 = .ok (.aload_n 0, 1) := by decide +kernel
theorem dX4_findOn_56 : decode cX4_findOn 56 = .ok (.getfield 54, 3) := by decide +kernel
theorem dX4_findOn_59 : decode cX4_findOn 59 = .ok (.aload_n 0, 1) := by decide +kernel
theorem dX4_findOn_60 : decode cX4_findOn 60 = .ok (.getfield 57, 3) := by decide +kernel
theorem dX4_findOn_63 : decode cX4_findOn 63 = .ok (.iload_n 2, 1) := by decide +kernel
theorem dX4_findOn_64 : decode cX4_findOn 64 = .ok (.iaload, 1) := by decide +kernel
theorem dX4_findOn_65 : decode cX4_findOn 65 = .ok (.iaload, 1) := by decide +kernel
theorem dX4_findOn_66 : decode cX4_findOn 66 = .ok (.if_icmp .ge 7, 3) := by decide +kernel
theorem dX4_findOn_69 : decode cX4_findOn 69 = .ok (.iload_n 3, 1) := by decide +kernel
theorem dX4_findOn_70 : decode cX4_findOn 70 = .ok (.goto 9, 3) := by decide +kernel
theorem dX4_findOn_73 : decode cX4_findOn 73 = .ok (.aload_n 0, 1) := by decide +kernel
theorem dX4_findOn_74 : decode cX4_findOn 74 = .ok (.getfield 57, 3) := by decide +kernel
theorem dX4_findOn_77 : decode cX4_findOn 77 = .ok (.iload_n 2, 1) := by decide +kernel
theorem dX4_findOn_78 : decode cX4_findOn 78 = .ok (.iaload, 1) := by decide +kernel
theorem dX4_findOn_79 : decode cX4_findOn 79 = .ok (.iastore, 1) := by decide +kernel
theorem dX4_findOn_80 : decode cX4_findOn 80 = .ok (.iinc 3 1, 3) := by decide +kernel
theorem dX4_findOn_83 : decode cX4_findOn 83 = .ok (.goto (-67), 3) := by decide +kernel
theorem dX4_findOn_86 : decode cX4_findOn 86 = .ok (.iinc 2 1, 3) := by decide +kernel
theorem dX4_findOn_89 : decode cX4_findOn 89 = .ok (.goto (-87), 3) := by decide +kernel
theorem dX4_findOn_92 : decode cX4_findOn 92 = .ok (.aload_n 0, 1) := by decide +kernel
theorem dX4_findOn_93 : decode cX4_findOn 93 = .ok (.getfield 36, 3) := by decide +kernel
theorem dX4_findOn_96 : decode cX4_findOn 96 = .ok (.iload_n 1, 1) := by decide +kernel
theorem dX4_findOn_97 : decode cX4_findOn 97 = .ok (.iaload, 1) := by decide +kernel
theorem dX4_findOn_98 : decode cX4_findOn 98 = .ok (.istore_n 2, 1) := by decide +kernel
theorem dX4_findOn_99 : decode cX4_findOn 99 = .ok (.iconst 0, 1) := by decide +kernel
theorem dX4_findOn_100 : decode cX4_findOn 100 = .ok (.istore_n 3, 1) := by decide +kernel
theorem dX4_findOn_101 : decode cX4_findOn 101 = .ok (.iload_n 3, 1) := by decide +kernel
theorem dX4_findOn_102 : decode cX4_findOn 102 = .ok (.iconst 5, 1) := by decide +kernel
theorem dX4_findOn_103 : decode cX4_findOn 103 = .ok (.if_icmp .ge 147, 3) := by decide +kernel
theorem dX4_findOn_106 : decode cX4_findOn 106 = .ok (.aload_n 0, 1) := by decide +kernel
theorem dX4_findOn_107 : decode cX4_findOn 107 = .ok (.getfield 60, 3) := by decide +kernel
theorem dX4_findOn_110 : decode cX4_findOn 110 = .ok (.iload_n 3, 1) := by decide +kernel
theorem dX4_findOn_111 : decode cX4_findOn 111 = .ok (.iconst (-1), 1) := by decide +kernel
theorem dX4_findOn_112 : decode cX4_findOn 112 = .ok (.iastore, 1) := by decide +kernel
theorem dX4_findOn_113 : decode cX4_findOn 113 = .ok (.iload_n 2, 1) := by decide +kernel
theorem dX4_findOn_114 : decode cX4_findOn 114 = .ok (.iconst (-1), 1) := by decide +kernel
theorem dX4_findOn_115 : decode cX4_findOn 115 = .ok (.if_icmp .eq 129, 3) := by decide +kernel
theorem dX4_findOn_118 : decode cX4_findOn 118 = .ok (.iload_n 3, 1) := by decide +kernel
theorem dX4_findOn_119 : decode cX4_findOn 119 = .ok (.iload_n 2, 1) := by decide +kernel
theorem dX4_findOn_120 : decode cX4_findOn 120 = .ok (.if_icmp .eq 124, 3) := by decide +kernel
theorem dX4_findOn_123 : decode cX4_findOn 123 = .ok (.aload_n 0, 1) := by decide +kernel
theorem dX4_findOn_124 : decode cX4_findOn 124 = .ok (.getfield 57, 3) := by decide +kernel
theorem dX4_findOn_127 : decode cX4_findOn 127 = .ok (.iload_n 3, 1) := by decide +kernel
theorem dX4_findOn_128 : decode cX4_findOn 128 = .ok (.iaload, 1) := by decide +kernel
theorem dX4_findOn_129 : decode cX4_findOn 129 = .ok (.iconst (-1), 1) := by decide +kernel
theorem dX4_findOn_130 : decode cX4_findOn 130 = .ok (.if_icmp .eq 114, 3) := by decide +kernel
theorem dX4_findOn_133 : decode cX4_findOn 133 = .ok (.iconst 4, 1) := by decide +kernel
theorem dX4_findOn_134 : decode cX4_findOn 134 = .ok (.istore 4, 2) := by decide +kernel
theorem dX4_findOn_136 : decode cX4_findOn 136 = .ok (.iload 4, 2) := by decide +kernel
theorem dX4_findOn_138 : decode cX4_findOn 138 = .ok (.ifCond .lt 72, 3) := by decide +kernel
theorem dX4_findOn_141 : decode cX4_findOn 141 = .ok (.aload_n 0, 1) := by decide +kernel
theorem dX4_findOn_142 : decode cX4_findOn 142 = .ok (.getfield 60, 3) := by decide +kernel
theorem dX4_findOn_145 : decode cX4_findOn 145 = .ok (.iload_n 3, 1) := by decide +kernel
theorem dX4_findOn_146 : decode cX4_findOn 146 = .ok (.iload 4, 2) := by decide +kernel
theorem dX4_findOn_148 : decode cX4_findOn 148 = .ok (.iload_n 2, 1) := by decide +kernel
theorem dX4_findOn_149 : decode cX4_findOn 149 = .ok (.if_icmp .eq 48, 3) := by decide +kernel
theorem dX4_findOn_152 : decode cX4_findOn 152 = .ok (.iload 4, 2) := by decide +kernel
theorem dX4_findOn_154 : decode cX4_findOn 154 = .ok (.iload_n 3, 1) := by decide +kernel
theorem dX4_findOn_155 : decode cX4_findOn 155 = .ok (.if_icmp .eq 42, 3) := by decide +kernel
theorem dX4_findOn_158 : decode cX4_findOn 158 = .ok (.aload_n 0, 1) := by decide +kernel
theorem dX4_findOn_159 : decode cX4_findOn 159 = .ok (.aload_n 0, 1) := by decide +kernel
theorem dX4_findOn_160 : decode cX4_findOn 160 = .ok (.getfield 57, 3) := by decide +kernel
theorem dX4_findOn_163 : decode cX4_findOn 163 = .ok (.iload 4, 2) := by decide +kernel
theorem dX4_findOn_165 : decode cX4_findOn 165 = .ok (.iaload, 1) := by decide +kernel
theorem dX4_findOn_166 : decode cX4_findOn 166 = .ok (.iload_n 2, 1) := by decide +kernel
theorem dX4_findOn_167 : decode cX4_findOn 167 = .ok (.invokevirtual 122, 3) := by decide +kernel
theorem dX4_findOn_170 : decode cX4_findOn 170 = .ok (.ifCond .eq 27, 3) := by decide +kernel
theorem dX4_findOn_173 : decode cX4_findOn 173 = .ok (.aload_n 0, 1) := by decide +kernel
theorem dX4_findOn_174 : decode cX4_findOn 174 = .ok (.getfield 7, 3) := by decide +kernel
theorem dX4_findOn_177 : decode cX4_findOn 177 = .ok (.aload_n 0, 1) := by decide +kernel
theorem dX4_findOn_178 : decode cX4_findOn 178 = .ok (.getfield 57, 3) := by decide +kernel
theorem dX4_findOn_181 : decode cX4_findOn 181 = .ok (.iload_n 3, 1) := by decide +kernel
theorem dX4_findOn_182 : decode cX4_findOn 182 = .ok (.iaload, 1) := by decide +kernel
theorem dX4_findOn_183 : decode cX4_findOn 183 = .ok (.iaload, 1) := by decide +kernel
theorem dX4_findOn_184 : decode cX4_findOn 184 = .ok (.iload 4, 2) := by decide +kernel
theorem dX4_findOn_186 : decode cX4_findOn 186 = .ok (.invokestatic 80, 3) := by decide +kernel
theorem dX4_findOn_189 : decode cX4_findOn 189 = .ok (.ifCond .eq 8, 3) := by decide +kernel
theorem dX4_findOn_192 : decode cX4_findOn 192 = .ok (.iload 4, 2) := by decide +kernel
theorem dX4_findOn_194 : decode cX4_findOn 194 = .ok (.goto 9, 3) := by decide +kernel
theorem dX4_findOn_197 : decode cX4_findOn 197 = .ok (.aload_n 0, 1) := by decide +kernel
theorem dX4_findOn_198 : decode cX4_findOn 198 = .ok (.getfield 60, 3) := by decide +kernel
theorem dX4_findOn_201 : decode cX4_findOn 201 = .ok (.iload_n 3, 1) := by decide +kernel
theorem dX4_findOn_202 : decode cX4_findOn 202 = .ok (.iaload, 1) := by decide +kernel
theorem dX4_findOn_203 : decode cX4_findOn 203 = .ok (.iastore, 1) := by decide +kernel
theorem dX4_findOn_204 : decode cX4_findOn 204 = .ok (.iinc 4 (-1), 3) := by decide +kernel
theorem dX4_findOn_207 : decode cX4_findOn 207 = .ok (.goto (-71), 3) := by decide +kernel
theorem dX4_findOn_210 : decode cX4_findOn 210 = .ok (.aload_n 0, 1) := by decide +kernel
theorem dX4_findOn_211 : decode cX4_findOn 211 = .ok (.getfield 60, 3) := by decide +kernel
theorem dX4_findOn_214 : decode cX4_findOn 214 = .ok (.iload_n 3, 1) := by decide +kernel
theorem dX4_findOn_215 : decode cX4_findOn 215 = .ok (.aload_n 0, 1) := by decide +kernel
theorem dX4_findOn_216 : decode cX4_findOn 216 = .ok (.getfield 7, 3) := by decide +kernel
theorem dX4_findOn_219 : decode cX4_findOn 219 = .ok (.aload_n 0, 1) := by decide +kernel
theorem dX4_findOn_220 : decode cX4_findOn 220 = .ok (.getfield 57, 3) := by decide +kernel
theorem dX4_findOn_223 : decode cX4_findOn 223 = .ok (.iload_n 3, 1) := by decide +kernel
theorem dX4_findOn_224 : decode cX4_findOn 224 = .ok (.iaload, 1) := by decide +kernel
theorem dX4_findOn_225 : decode cX4_findOn 225 = .ok (.iaload, 1) := by decide +kernel
theorem dX4_findOn_226 : decode cX4_findOn 226 = .ok (.iload_n 2, 1) := by decide +kernel
theorem dX4_findOn_227 : decode cX4_findOn 227 = .ok (.invokestatic 80, 3) := by decide +kernel
theorem dX4_findOn_230 : decode cX4_findOn 230 = .ok (.ifCond .eq 7, 3) := by decide +kernel
theorem dX4_findOn_233 : decode cX4_findOn 233 = .ok (.iload_n 3, 1) := by decide +kernel
theorem dX4_findOn_234 : decode cX4_findOn 234 = .ok (.goto 9, 3) := by decide +kernel
theorem dX4_findOn_237 : decode cX4_findOn 237 = .ok (.aload_n 0, 1) := by decide +kernel
theorem dX4_findOn_238 : decode cX4_findOn 238 = .ok (.getfield 60, 3) := by decide +kernel
theorem dX4_findOn_241 : decode cX4_findOn 241 = .ok (.iload_n 3, 1) := by decide +kernel
theorem dX4_findOn_242 : decode cX4_findOn 242 = .ok (.iaload, 1) := by decide +kernel
theorem dX4_findOn_243 : decode cX4_findOn 243 = .ok (.iastore, 1) := by decide +kernel
theorem dX4_findOn_244 : decode cX4_findOn 244 = .ok (.iinc 3 1, 3) := by decide +kernel
theorem dX4_findOn_247 : decode cX4_findOn 247 = .ok (.goto (-146), 3) := by decide +kernel
theorem dX4_findOn_250 : decode cX4_findOn 250 = .ok (.return_, 1) := by decide +kernel
theorem dX4_goTo_0 : decode cX4_goTo 0 = .ok (.aload_n 0, 1) := by decide +kernel
theorem dX4_goTo_1 : decode cX4_goTo 1 = .ok (.iconst 0, 1) := by decide +kernel
theorem dX4_goTo_2 : decode cX4_goTo 2 = .ok (.putfield 125, 3) := by decide +kernel
theorem dX4_goTo_5 : decode cX4_goTo 5 = .ok (.iconst 0, 1) := by decide +kernel
theorem dX4_goTo_6 : decode cX4_goTo 6 = .ok (.istore_n 2, 1) := by decide +kernel
theorem dX4_goTo_7 : decode cX4_goTo 7 = .ok (.iload_n 2, 1) := by decide +kernel
theorem dX4_goTo_8 : decode cX4_goTo 8 = .ok (.bipush 6, 2) := by decide +kernel
theorem dX4_goTo_10 : decode cX4_goTo 10 = .ok (.if_icmp .ge 16, 3) := by decide +kernel
theorem dX4_goTo_13 : decode cX4_goTo 13 = .ok (.aload_n 0, 1) := by decide +kernel
theorem dX4_goTo_14 : decode cX4_goTo 14 = .ok (.getfield 54, 3) := by decide +kernel
theorem dX4_goTo_17 : decode cX4_goTo 17 = .ok (.iload_n 2, 1) := by decide +kernel
theorem dX4_goTo_18 : decode cX4_goTo 18 = .ok (.iconst 0, 1) := by decide +kernel
theorem dX4_goTo_19 : decode cX4_goTo 19 = .ok (.iastore, 1) := by decide +kernel
theorem dX4_goTo_20 : decode cX4_goTo 20 = .ok (.iinc 2 1, 3) := by decide +kernel
theorem dX4_goTo_23 : decode cX4_goTo 23 = .ok (.goto (-16), 3) := by decide +kernel
theorem dX4_goTo_26 : decode cX4_goTo 26 = .ok (.iconst 0, 1) := by decide +kernel
theorem dX4_goTo_27 : decode cX4_goTo 27 = .ok (.istore_n 2, 1) := by decide +kernel
theorem dX4_goTo_28 : decode cX4_goTo 28 = .ok (.iload_n 2, 1) := by decide +kernel
theorem dX4_goTo_29 : decode cX4_goTo 29 = .ok (.iconst 5, 1) := by decide +kernel
theorem dX4_goTo_30 : decode cX4_goTo 30 = .ok (.if_icmp .ge 16, 3) := by decide +kernel
theorem dX4_goTo_33 : decode cX4_goTo 33 = .ok (.aload_n 0, 1) := by decide +kernel
theorem dX4_goTo_34 : decode cX4_goTo 34 = .ok (.getfield 63, 3) := by decide +kernel
theorem dX4_goTo_37 : decode cX4_goTo 37 = .ok (.iload_n 2, 1) := by decide +kernel
theorem dX4_goTo_38 : decode cX4_goTo 38 = .ok (.iconst 0, 1) := by decide +kernel
theorem dX4_goTo_39 : decode cX4_goTo 39 = .ok (.iastore, 1) := by decide +kernel
theorem dX4_goTo_40 : decode cX4_goTo 40 = .ok (.iinc 2 1, 3) := by decide +kernel
theorem dX4_goTo_43 : decode cX4_goTo 43 = .ok (.goto (-15), 3) := by decide +kernel
theorem dX4_goTo_46 : decode cX4_goTo 46 = .ok (.iconst 0, 1) := by decide +kernel
theorem dX4_goTo_47 : decode cX4_goTo 47 = .ok (.istore_n 2, 1) := by decide +kernel
theorem dX4_goTo_48 : decode cX4_goTo 48 = .ok (.iload_n 2, 1) := by decide +kernel
theorem dX4_goTo_49 : decode cX4_goTo 49 = .ok (.iload_n 1, 1) := by decide +kernel
theorem dX4_goTo_50 : decode cX4_goTo 50 = .ok (.if_icmp .gt 234, 3) := by decide +kernel
theorem dX4_goTo_53 : decode cX4_goTo 53 = .ok (.aload_n 0, 1) := by decide +kernel
theorem dX4_goTo_54 : decode cX4_goTo 54 = .ok (.iload_n 2, 1) := by decide +kernel
theorem dX4_goTo_55 : decode cX4_goTo 55 = .ok (.invokevirtual 128, 3) := by decide +kernel
theorem dX4_goTo_58 : decode cX4_goTo 58 = .ok (.iconst 0, 1) := by decide +kernel
theorem dX4_goTo_59 : decode cX4_goTo 59 = .ok (.istore_n 3, 1) := by decide +kernel
theorem dX4_goTo_60 : decode cX4_goTo 60 = .ok (.iload_n 3, 1) := by decide +kernel
theorem dX4_goTo_61 : decode cX4_goTo 61 = .ok (.aload_n 0, 1) := by decide +kernel
theorem dX4_goTo_62 : decode cX4_goTo 62 = .ok (.getfield 66, 3) := by decide +kernel
theorem dX4_goTo_65 : decode cX4_goTo 65 = .ok (.if_icmp .ge 139, 3) := by decide +kernel
theorem dX4_goTo_68 : decode cX4_goTo 68 = .ok (.iconst 0, 1) := by decide +kernel
theorem dX4_goTo_69 : decode cX4_goTo 69 = .ok (.istore 4, 2) := by decide +kernel
end
section
theorem dX4_goTo_71 : decode cX4_goTo 71 = .ok (.iconst 0, 1) := by decide +kernel
theorem dX4_goTo_72 : decode cX4_goTo 72 = .ok (.istore 5, 2) := by decide +kernel
theorem dX4_goTo_74 : decode cX4_goTo 74 = .ok (.iload 5, 2) := by decide +kernel
theorem dX4_goTo_76 : decode cX4_goTo 76 = .ok (.iconst 5, 1) := by decide +kernel
theorem dX4_goTo_77 : decode cX4_goTo 77 = .ok (.if_icmp .ge 43, 3) := by decide +kernel
theorem dX4_goTo_80 : decode cX4_goTo 80 = .ok (.iload 4, 2) := by decide +kernel
theorem dX4_goTo_82 : decode cX4_goTo 82 = .ok (.ifCond .ne 25, 3) := by decide +kernel
theorem dX4_goTo_85 : decode cX4_goTo 85 = .ok (.aload_n 0, 1) := by decide +kernel
theorem dX4_goTo_86 : decode cX4_goTo 86 = .ok (.getfield 57, 3) := by decide +kernel
theorem dX4_goTo_89 : decode cX4_goTo 89 = .ok (.iload 5, 2) := by decide +kernel
theorem dX4_goTo_91 : decode cX4_goTo 91 = .ok (.iaload, 1) := by decide +kernel
theorem dX4_goTo_92 : decode cX4_goTo 92 = .ok (.iload_n 3, 1) := by decide +kernel
theorem dX4_goTo_93 : decode cX4_goTo 93 = .ok (.if_icmp .ne 18, 3) := by decide +kernel
theorem dX4_goTo_96 : decode cX4_goTo 96 = .ok (.aload_n 0, 1) := by decide +kernel
theorem dX4_goTo_97 : decode cX4_goTo 97 = .ok (.getfield 60, 3) := by decide +kernel
theorem dX4_goTo_100 : decode cX4_goTo 100 = .ok (.iload 5, 2) := by decide +kernel
theorem dX4_goTo_102 : decode cX4_goTo 102 = .ok (.iaload, 1) := by decide +kernel
theorem dX4_goTo_103 : decode cX4_goTo 103 = .ok (.iconst (-1), 1) := by decide +kernel
theorem dX4_goTo_104 : decode cX4_goTo 104 = .ok (.if_icmp .eq 7, 3) := by decide +kernel
theorem dX4_goTo_107 : decode cX4_goTo 107 = .ok (.iconst 1, 1) := by decide +kernel
theorem dX4_goTo_108 : decode cX4_goTo 108 = .ok (.goto 4, 3) := by decide +kernel
theorem dX4_goTo_111 : decode cX4_goTo 111 = .ok (.iconst 0, 1) := by decide +kernel
theorem dX4_goTo_112 : decode cX4_goTo 112 = .ok (.istore 4, 2) := by decide +kernel
theorem dX4_goTo_114 : decode cX4_goTo 114 = .ok (.iinc 5 1, 3) := by decide +kernel
theorem dX4_goTo_117 : decode cX4_goTo 117 = .ok (.goto (-43), 3) := by decide +kernel
theorem dX4_goTo_120 : decode cX4_goTo 120 = .ok (.aload_n 0, 1) := by decide +kernel
theorem dX4_goTo_121 : decode cX4_goTo 121 = .ok (.getfield 54, 3) := by decide +kernel
theorem dX4_goTo_124 : decode cX4_goTo 124 = .ok (.iload_n 3, 1) := by decide +kernel
theorem dX4_goTo_125 : decode cX4_goTo 125 = .ok (.iload 4, 2) := by decide +kernel
theorem dX4_goTo_127 : decode cX4_goTo 127 = .ok (.ifCond .eq 19, 3) := by decide +kernel
theorem dX4_goTo_130 : decode cX4_goTo 130 = .ok (.aload_n 0, 1) := by decide +kernel
theorem dX4_goTo_131 : decode cX4_goTo 131 = .ok (.getfield 54, 3) := by decide +kernel
theorem dX4_goTo_134 : decode cX4_goTo 134 = .ok (.iload_n 3, 1) := by decide +kernel
theorem dX4_goTo_135 : decode cX4_goTo 135 = .ok (.iaload, 1) := by decide +kernel
theorem dX4_goTo_136 : decode cX4_goTo 136 = .ok (.aload_n 0, 1) := by decide +kernel
theorem dX4_goTo_137 : decode cX4_goTo 137 = .ok (.getfield 39, 3) := by decide +kernel
theorem dX4_goTo_140 : decode cX4_goTo 140 = .ok (.iload_n 2, 1) := by decide +kernel
theorem dX4_goTo_141 : decode cX4_goTo 141 = .ok (.iaload, 1) := by decide +kernel
theorem dX4_goTo_142 : decode cX4_goTo 142 = .ok (.iadd, 1) := by decide +kernel
theorem dX4_goTo_143 : decode cX4_goTo 143 = .ok (.goto 25, 3) := by decide +kernel
theorem dX4_goTo_146 : decode cX4_goTo 146 = .ok (.aload_n 0, 1) := by decide +kernel
theorem dX4_goTo_147 : decode cX4_goTo 147 = .ok (.getfield 54, 3) := by decide +kernel
theorem dX4_goTo_150 : decode cX4_goTo 150 = .ok (.iload_n 3, 1) := by decide +kernel
theorem dX4_goTo_151 : decode cX4_goTo 151 = .ok (.iaload, 1) := by decide +kernel
theorem dX4_goTo_152 : decode cX4_goTo 152 = .ok (.iconst 2, 1) := by decide +kernel
theorem dX4_goTo_153 : decode cX4_goTo 153 = .ok (.if_icmp .le 14, 3) := by decide +kernel
theorem dX4_goTo_156 : decode cX4_goTo 156 = .ok (.aload_n 0, 1) := by decide +kernel
theorem dX4_goTo_157 : decode cX4_goTo 157 = .ok (.getfield 54, 3) := by decide +kernel
theorem dX4_goTo_160 : decode cX4_goTo 160 = .ok (.iload_n 3, 1) := by decide +kernel
theorem dX4_goTo_161 : decode cX4_goTo 161 = .ok (.iaload, 1) := by decide +kernel
theorem dX4_goTo_162 : decode cX4_goTo 162 = .ok (.iconst 2, 1) := by decide +kernel
theorem dX4_goTo_163 : decode cX4_goTo 163 = .ok (.isub, 1) := by decide +kernel
theorem dX4_goTo_164 : decode cX4_goTo 164 = .ok (.goto 4, 3) := by decide +kernel
theorem dX4_goTo_167 : decode cX4_goTo 167 = .ok (.iconst 0, 1) := by decide +kernel
theorem dX4_goTo_168 : decode cX4_goTo 168 = .ok (.iastore, 1) := by decide +kernel
theorem dX4_goTo_169 : decode cX4_goTo 169 = .ok (.aload_n 0, 1) := by decide +kernel
theorem dX4_goTo_170 : decode cX4_goTo 170 = .ok (.aload_n 0, 1) := by decide +kernel
theorem dX4_goTo_171 : decode cX4_goTo 171 = .ok (.getfield 125, 3) := by decide +kernel
theorem dX4_goTo_174 : decode cX4_goTo 174 = .ok (.aload_n 0, 1) := by decide +kernel
theorem dX4_goTo_175 : decode cX4_goTo 175 = .ok (.getfield 54, 3) := by decide +kernel
theorem dX4_goTo_178 : decode cX4_goTo 178 = .ok (.iload_n 3, 1) := by decide +kernel
theorem dX4_goTo_179 : decode cX4_goTo 179 = .ok (.iaload, 1) := by decide +kernel
theorem dX4_goTo_180 : decode cX4_goTo 180 = .ok (.aload_n 0, 1) := by decide +kernel
theorem dX4_goTo_181 : decode cX4_goTo 181 = .ok (.getfield 42, 3) := by decide +kernel
theorem dX4_goTo_184 : decode cX4_goTo 184 = .ok (.if_icmp .le 9, 3) := by decide +kernel
theorem dX4_goTo_187 : decode cX4_goTo 187 = .ok (.iconst 1, 1) := by decide +kernel
theorem dX4_goTo_188 : decode cX4_goTo 188 = .ok (.iload_n 3, 1) := by decide +kernel
theorem dX4_goTo_189 : decode cX4_goTo 189 = .ok (.ishl, 1) := by decide +kernel
theorem dX4_goTo_190 : decode cX4_goTo 190 = .ok (.goto 4, 3) := by decide +kernel
theorem dX4_goTo_193 : decode cX4_goTo 193 = .ok (.iconst 0, 1) := by decide +kernel
theorem dX4_goTo_194 : decode cX4_goTo 194 = .ok (.ior, 1) := by decide +kernel
theorem dX4_goTo_195 : decode cX4_goTo 195 = .ok (.putfield 125, 3) := by decide +kernel
theorem dX4_goTo_198 : decode cX4_goTo 198 = .ok (.iinc 3 1, 3) := by decide +kernel
theorem dX4_goTo_201 : decode cX4_goTo 201 = .ok (.goto (-141), 3) := by decide +kernel
theorem dX4_goTo_204 : decode cX4_goTo 204 = .ok (.iconst 0, 1) := by decide +kernel
theorem dX4_goTo_205 : decode cX4_goTo 205 = .ok (.istore_n 3, 1) := by decide +kernel
theorem dX4_goTo_206 : decode cX4_goTo 206 = .ok (.iload_n 3, 1) := by decide +kernel
theorem dX4_goTo_207 : decode cX4_goTo 207 = .ok (.iconst 5, 1) := by decide +kernel
theorem dX4_goTo_208 : decode cX4_goTo 208 = .ok (.if_icmp .ge 70, 3) := by decide +kernel
theorem dX4_goTo_211 : decode cX4_goTo 211 = .ok (.aload_n 0, 1) := by decide +kernel
theorem dX4_goTo_212 : decode cX4_goTo 212 = .ok (.getfield 39, 3) := by decide +kernel
theorem dX4_goTo_215 : decode cX4_goTo 215 = .ok (.iload_n 2, 1) := by decide +kernel
theorem dX4_goTo_216 : decode cX4_goTo 216 = .ok (.iaload, 1) := by decide +kernel
theorem dX4_goTo_217 : decode cX4_goTo 217 = .ok (.iconst 5, 1) := by decide +kernel
theorem dX4_goTo_218 : decode cX4_goTo 218 = .ok (.if_icmp .le 7, 3) := by decide +kernel
theorem dX4_goTo_221 : decode cX4_goTo 221 = .ok (.iconst 2, 1) := by decide +kernel
theorem dX4_goTo_222 : decode cX4_goTo 222 = .ok (.goto 4, 3) := by decide +kernel
theorem dX4_goTo_225 : decode cX4_goTo 225 = .ok (.iconst 1, 1) := by decide +kernel
theorem dX4_goTo_226 : decode cX4_goTo 226 = .ok (.istore 4, 2) := by decide +kernel
theorem dX4_goTo_228 : decode cX4_goTo 228 = .ok (.aload_n 0, 1) := by decide +kernel
theorem dX4_goTo_229 : decode cX4_goTo 229 = .ok (.getfield 63, 3) := by decide +kernel
theorem dX4_goTo_232 : decode cX4_goTo 232 = .ok (.iload_n 3, 1) := by decide +kernel
theorem dX4_goTo_233 : decode cX4_goTo 233 = .ok (.dup2, 1) := by decide +kernel
theorem dX4_goTo_234 : decode cX4_goTo 234 = .ok (.iaload, 1) := by decide +kernel
theorem dX4_goTo_235 : decode cX4_goTo 235 = .ok (.aload_n 0, 1) := by decide +kernel
theorem dX4_goTo_236 : decode cX4_goTo 236 = .ok (.getfield 60, 3) := by decide +kernel
theorem dX4_goTo_239 : decode cX4_goTo 239 = .ok (.iload_n 3, 1) := by decide +kernel
theorem dX4_goTo_240 : decode cX4_goTo 240 = .ok (.iaload, 1) := by decide +kernel
theorem dX4_goTo_241 : decode cX4_goTo 241 = .ok (.iconst (-1), 1) := by decide +kernel
theorem dX4_goTo_242 : decode cX4_goTo 242 = .ok (.if_icmp .ne 7, 3) := by decide +kernel
theorem dX4_goTo_245 : decode cX4_goTo 245 = .ok (.iconst 0, 1) := by decide +kernel
theorem dX4_goTo_246 : decode cX4_goTo 246 = .ok (.goto 24, 3) := by decide +kernel
theorem dX4_goTo_249 : decode cX4_goTo 249 = .ok (.aload_n 0, 1) := by decide +kernel
theorem dX4_goTo_250 : decode cX4_goTo 250 = .ok (.getfield 60, 3) := by decide +kernel
theorem dX4_goTo_253 : decode cX4_goTo 253 = .ok (.iload_n 3, 1) := by decide +kernel
theorem dX4_goTo_254 : decode cX4_goTo 254 = .ok (.iaload, 1) := by decide +kernel
theorem dX4_goTo_255 : decode cX4_goTo 255 = .ok (.iload_n 3, 1) := by decide +kernel
theorem dX4_goTo_256 : decode cX4_goTo 256 = .ok (.if_icmp .ne 8, 3) := by decide +kernel
theorem dX4_goTo_259 : decode cX4_goTo 259 = .ok (.iload 4, 2) := by decide +kernel
theorem dX4_goTo_261 : decode cX4_goTo 261 = .ok (.goto 9, 3) := by decide +kernel
theorem dX4_goTo_264 : decode cX4_goTo 264 = .ok (.iconst 2, 1) := by decide +kernel
theorem dX4_goTo_265 : decode cX4_goTo 265 = .ok (.iload 4, 2) := by decide +kernel
theorem dX4_goTo_267 : decode cX4_goTo 267 = .ok (.imul, 1) := by decide +kernel
theorem dX4_goTo_268 : decode cX4_goTo 268 = .ok (.iconst 1, 1) := by decide +kernel
theorem dX4_goTo_269 : decode cX4_goTo 269 = .ok (.iadd, 1) := by decide +kernel
theorem dX4_goTo_270 : decode cX4_goTo 270 = .ok (.iadd, 1) := by decide +kernel
theorem dX4_goTo_271 : decode cX4_goTo 271 = .ok (.iastore, 1) := by decide +kernel
theorem dX4_goTo_272 : decode cX4_goTo 272 = .ok (.iinc 3 1, 3) := by decide +kernel
theorem dX4_goTo_275 : decode cX4_goTo 275 = .ok (.goto (-69), 3) := by decide +kernel
theorem dX4_goTo_278 : decode cX4_goTo 278 = .ok (.iinc 2 1, 3) := by decide +kernel
theorem dX4_goTo_281 : decode cX4_goTo 281 = .ok (.goto (-233), 3) := by decide +kernel
theorem dX4_goTo_284 : decode cX4_goTo 284 = .ok (.return_, 1) := by decide +kernel
theorem dX4_on_0 : decode cX4_on 0 = .ok (.iload_n 1, 1) := by decide +kernel
theorem dX4_on_1 : decode cX4_on 1 = .ok (.invokestatic 119, 3) := by decide +kernel
theorem dX4_on_4 : decode cX4_on 4 = .ok (.ifCond .eq 10, 3) := by decide +kernel
theorem dX4_on_7 : decode cX4_on 7 = .ok (.iload_n 2, 1) := by decide +kernel
theorem dX4_on_8 : decode cX4_on 8 = .ok (.invokestatic 116, 3) := by decide +kernel
theorem dX4_on_11 : decode cX4_on 11 = .ok (.ifCond .ne 6, 3) := by decide +kernel
theorem dX4_on_14 : decode cX4_on 14 = .ok (.bipush (-2), 2) := by decide +kernel
theorem dX4_on_16 : decode cX4_on 16 = .ok (.ireturn, 1) := by decide +kernel
theorem dX4_on_17 : decode cX4_on 17 = .ok (.aload_n 0, 1) := by decide +kernel
theorem dX4_on_18 : decode cX4_on 18 = .ok (.iload_n 2, 1) := by decide +kernel
theorem dX4_on_19 : decode cX4_on 19 = .ok (.invokevirtual 131, 3) := by decide +kernel
theorem dX4_on_22 : decode cX4_on 22 = .ok (.aload_n 0, 1) := by decide +kernel
theorem dX4_on_23 : decode cX4_on 23 = .ok (.getfield 57, 3) := by decide +kernel
theorem dX4_on_26 : decode cX4_on 26 = .ok (.iload_n 1, 1) := by decide +kernel
theorem dX4_on_27 : decode cX4_on 27 = .ok (.iaload, 1) := by decide +kernel
theorem dX4_on_28 : decode cX4_on 28 = .ok (.ireturn, 1) := by decide +kernel
theorem dX4_heard_0 : decode cX4_heard 0 = .ok (.iload_n 1, 1) := by decide +kernel
theorem dX4_heard_1 : decode cX4_heard 1 = .ok (.invokestatic 119, 3) := by decide +kernel
theorem dX4_heard_4 : decode cX4_heard 4 = .ok (.ifCond .eq 10, 3) := by decide +kernel
theorem dX4_heard_7 : decode cX4_heard 7 = .ok (.iload_n 2, 1) := by decide +kernel
theorem dX4_heard_8 : decode cX4_heard 8 = .ok (.invokestatic 116, 3) := by decide +kernel
theorem dX4_heard_11 : decode cX4_heard 11 = .ok (.ifCond .ne 6, 3) := by decide +kernel
theorem dX4_heard_14 : decode cX4_heard 14 = .ok (.bipush (-2), 2) := by decide +kernel
theorem dX4_heard_16 : decode cX4_heard 16 = .ok (.ireturn, 1) := by decide +kernel
theorem dX4_heard_17 : decode cX4_heard 17 = .ok (.aload_n 0, 1) := by decide +kernel
theorem dX4_heard_18 : decode cX4_heard 18 = .ok (.iload_n 2, 1) := by decide +kernel
theorem dX4_heard_19 : decode cX4_heard 19 = .ok (.invokevirtual 131, 3) := by decide +kernel
theorem dX4_heard_22 : decode cX4_heard 22 = .ok (.aload_n 0, 1) := by decide +kernel
theorem dX4_heard_23 : decode cX4_heard 23 = .ok (.getfield 60, 3) := by decide +kernel
theorem dX4_heard_26 : decode cX4_heard 26 = .ok (.iload_n 1, 1) := by decide +kernel
theorem dX4_heard_27 : decode cX4_heard 27 = .ok (.iaload, 1) := by decide +kernel
theorem dX4_heard_28 : decode cX4_heard 28 = .ok (.ireturn, 1) := by decide +kernel
theorem dX4_tired_0 : decode cX4_tired 0 = .ok (.aload_n 0, 1) := by decide +kernel
theorem dX4_tired_1 : decode cX4_tired 1 = .ok (.iload_n 1, 1) := by decide +kernel
theorem dX4_tired_2 : decode cX4_tired 2 = .ok (.invokevirtual 73, 3) := by decide +kernel
theorem dX4_tired_5 : decode cX4_tired 5 = .ok (.ifCond .eq 10, 3) := by decide +kernel
theorem dX4_tired_8 : decode cX4_tired 8 = .ok (.iload_n 2, 1) := by decide +kernel
theorem dX4_tired_9 : decode cX4_tired 9 = .ok (.invokestatic 116, 3) := by decide +kernel
theorem dX4_tired_12 : decode cX4_tired 12 = .ok (.ifCond .ne 6, 3) := by decide +kernel
theorem dX4_tired_15 : decode cX4_tired 15 = .ok (.bipush (-2), 2) := by decide +kernel
theorem dX4_tired_17 : decode cX4_tired 17 = .ok (.ireturn, 1) := by decide +kernel
theorem dX4_tired_18 : decode cX4_tired 18 = .ok (.aload_n 0, 1) := by decide +kernel
theorem dX4_tired_19 : decode cX4_tired 19 = .ok (.iload_n 2, 1) := by decide +kernel
theorem dX4_tired_20 : decode cX4_tired 20 = .ok (.invokevirtual 131, 3) := by decide +kernel
theorem dX4_tired_23 : decode cX4_tired 23 = .ok (.aload_n 0, 1) := by decide +kernel
theorem dX4_tired_24 : decode cX4_tired 24 = .ok (.getfield 54, 3) := by decide +kernel
theorem dX4_tired_27 : decode cX4_tired 27 = .ok (.iload_n 1, 1) := by decide +kernel
theorem dX4_tired_28 : decode cX4_tired 28 = .ok (.iaload, 1) := by decide +kernel
theorem dX4_tired_29 : decode cX4_tired 29 = .ok (.ireturn, 1) := by decide +kernel
theorem dX4_late_0 : decode cX4_late 0 = .ok (.iload_n 1, 1) := by decide +kernel
theorem dX4_late_1 : decode cX4_late 1 = .ok (.invokestatic 119, 3) := by decide +kernel
theorem dX4_late_4 : decode cX4_late 4 = .ok (.ifCond .ne 6, 3) := by decide +kernel
theorem dX4_late_7 : decode cX4_late 7 = .ok (.bipush (-2), 2) := by decide +kernel
theorem dX4_late_9 : decode cX4_late 9 = .ok (.ireturn, 1) := by decide +kernel
theorem dX4_late_10 : decode cX4_late 10 = .ok (.aload_n 0, 1) := by decide +kernel
theorem dX4_late_11 : decode cX4_late 11 = .ok (.bipush 15, 2) := by decide +kernel
theorem dX4_late_13 : decode cX4_late 13 = .ok (.invokevirtual 131, 3) := by decide +kernel
theorem dX4_late_16 : decode cX4_late 16 = .ok (.aload_n 0, 1) := by decide +kernel
theorem dX4_late_17 : decode cX4_late 17 = .ok (.getfield 63, 3) := by decide +kernel
theorem dX4_late_20 : decode cX4_late 20 = .ok (.iload_n 1, 1) := by decide +kernel
theorem dX4_late_21 : decode cX4_late 21 = .ok (.iaload, 1) := by decide +kernel
theorem dX4_late_22 : decode cX4_late 22 = .ok (.ireturn, 1) := by decide +kernel
theorem dX4_worn_0 : decode cX4_worn 0 = .ok (.aload_n 0, 1) := by decide +kernel
theorem dX4_worn_1 : decode cX4_worn 1 = .ok (.bipush 15, 2) := by decide +kernel
theorem dX4_worn_3 : decode cX4_worn 3 = .ok (.invokevirtual 131, 3) := by decide +kernel
theorem dX4_worn_6 : decode cX4_worn 6 = .ok (.aload_n 0, 1) := by decide +kernel
theorem dX4_worn_7 : decode cX4_worn 7 = .ok (.getfield 125, 3) := by decide +kernel
theorem dX4_worn_10 : decode cX4_worn 10 = .ok (.ireturn, 1) := by decide +kernel
theorem dX4_count_0 : decode cX4_count 0 = .ok (.iconst 0, 1) := by decide +kernel
theorem dX4_count_1 : decode cX4_count 1 = .ok (.istore_n 2, 1) := by decide +kernel
theorem dX4_count_2 : decode cX4_count 2 = .ok (.iload_n 1, 1) := by decide +kernel
theorem dX4_count_3 : decode cX4_count 3 = .ok (.tableswitch 117 0 4 #[33, 38, 73, 78, 112], 33) := by decide +kernel
theorem dX4_count_36 : decode cX4_count 36 = .ok (.aload_n 0, 1) := by decide +kernel
theorem dX4_count_37 : decode cX4_count 37 = .ok (.getfield 66, 3) := by decide +kernel
theorem dX4_count_40 : decode cX4_count 40 = .ok (.ireturn, 1) := by decide +kernel
theorem dX4_count_41 : decode cX4_count 41 = .ok (.iconst 0, 1) := by decide +kernel
theorem dX4_count_42 : decode cX4_count 42 = .ok (.istore_n 3, 1) := by decide +kernel
theorem dX4_count_43 : decode cX4_count 43 = .ok (.iload_n 3, 1) := by decide +kernel
theorem dX4_count_44 : decode cX4_count 44 = .ok (.aload_n 0, 1) := by decide +kernel
theorem dX4_count_45 : decode cX4_count 45 = .ok (.getfield 66, 3) := by decide +kernel
theorem dX4_count_48 : decode cX4_count 48 = .ok (.if_icmp .ge 26, 3) := by decide +kernel
theorem dX4_count_51 : decode cX4_count 51 = .ok (.iload_n 2, 1) := by decide +kernel
theorem dX4_count_52 : decode cX4_count 52 = .ok (.aload_n 0, 1) := by decide +kernel
theorem dX4_count_53 : decode cX4_count 53 = .ok (.getfield 19, 3) := by decide +kernel
theorem dX4_count_56 : decode cX4_count 56 = .ok (.iload_n 3, 1) := by decide +kernel
theorem dX4_count_57 : decode cX4_count 57 = .ok (.baload, 1) := by decide +kernel
theorem dX4_count_58 : decode cX4_count 58 = .ok (.ifCond .eq 7, 3) := by decide +kernel
theorem dX4_count_61 : decode cX4_count 61 = .ok (.iconst 1, 1) := by decide +kernel
theorem dX4_count_62 : decode cX4_count 62 = .ok (.goto 4, 3) := by decide +kernel
theorem dX4_count_65 : decode cX4_count 65 = .ok (.iconst 0, 1) := by decide +kernel
theorem dX4_count_66 : decode cX4_count 66 = .ok (.iadd, 1) := by decide +kernel
theorem dX4_count_67 : decode cX4_count 67 = .ok (.istore_n 2, 1) := by decide +kernel
theorem dX4_count_68 : decode cX4_count 68 = .ok (.iinc 3 1, 3) := by decide +kernel
theorem dX4_count_71 : decode cX4_count 71 = .ok (.goto (-28), 3) := by decide +kernel
theorem dX4_count_74 : decode cX4_count 74 = .ok (.iload_n 2, 1) := by decide +kernel
theorem dX4_count_75 : decode cX4_count 75 = .ok (.ireturn, 1) := by decide +kernel
theorem dX4_count_76 : decode cX4_count 76 = .ok (.aload_n 0, 1) := by decide +kernel
theorem dX4_count_77 : decode cX4_count 77 = .ok (.invokevirtual 112, 3) := by decide +kernel
theorem dX4_count_80 : decode cX4_count 80 = .ok (.ireturn, 1) := by decide +kernel
theorem dX4_count_81 : decode cX4_count 81 = .ok (.iconst 0, 1) := by decide +kernel
theorem dX4_count_82 : decode cX4_count 82 = .ok (.istore_n 3, 1) := by decide +kernel
theorem dX4_count_83 : decode cX4_count 83 = .ok (.iload_n 3, 1) := by decide +kernel
theorem dX4_count_84 : decode cX4_count 84 = .ok (.bipush 16, 2) := by decide +kernel
theorem dX4_count_86 : decode cX4_count 86 = .ok (.if_icmp .ge 27, 3) := by decide +kernel
theorem dX4_count_89 : decode cX4_count 89 = .ok (.iload_n 2, 1) := by decide +kernel
theorem dX4_count_90 : decode cX4_count 90 = .ok (.aload_n 0, 1) := by decide +kernel
theorem dX4_count_91 : decode cX4_count 91 = .ok (.getfield 36, 3) := by decide +kernel
theorem dX4_count_94 : decode cX4_count 94 = .ok (.iload_n 3, 1) := by decide +kernel
theorem dX4_count_95 : decode cX4_count 95 = .ok (.iaload, 1) := by decide +kernel
theorem dX4_count_96 : decode cX4_count 96 = .ok (.iconst (-1), 1) := by decide +kernel
theorem dX4_count_97 : decode cX4_count 97 = .ok (.if_icmp .ne 7, 3) := by decide +kernel
theorem dX4_count_100 : decode cX4_count 100 = .ok (.iconst 0, 1) := by decide +kernel
theorem dX4_count_101 : decode cX4_count 101 = .ok (.goto 4, 3) := by decide +kernel
theorem dX4_count_104 : decode cX4_count 104 = .ok (.iconst 1, 1) := by decide +kernel
theorem dX4_count_105 : decode cX4_count 105 = .ok (.iadd, 1) := by decide +kernel
theorem dX4_count_106 : decode cX4_count 106 = .ok (.istore_n 2, 1) := by decide +kernel
theorem dX4_count_107 : decode cX4_count 107 = .ok (.iinc 3 1, 3) := by decide +kernel
theorem dX4_count_110 : decode cX4_count 110 = .ok (.goto (-27), 3) := by decide +kernel
theorem dX4_count_113 : decode cX4_count 113 = .ok (.iload_n 2, 1) := by decide +kernel
theorem dX4_count_114 : decode cX4_count 114 = .ok (.ireturn, 1) := by decide +kernel
theorem dX4_count_115 : decode cX4_count 115 = .ok (.aload_n 0, 1) := by decide +kernel
theorem dX4_count_116 : decode cX4_count 116 = .ok (.getfield 29, 3) := by decide +kernel
theorem dX4_count_119 : decode cX4_count 119 = .ok (.ireturn, 1) := by decide +kernel
theorem dX4_count_120 : decode cX4_count 120 = .ok (.bipush (-3), 2) := by decide +kernel
theorem dX4_count_122 : decode cX4_count 122 = .ok (.ireturn, 1) := by decide +kernel
theorem dJ6_bitCount_0f7a4_0 : decode cJ6_bitCount_0f7a4 0 = .ok (.iload_n 0, 1) := by decide +kernel
theorem dJ6_bitCount_0f7a4_1 : decode cJ6_bitCount_0f7a4 1 = .ok (.iload_n 0, 1) := by decide +kernel
theorem dJ6_bitCount_0f7a4_2 : decode cJ6_bitCount_0f7a4 2 = .ok (.iconst 1, 1) := by decide +kernel
theorem dJ6_bitCount_0f7a4_3 : decode cJ6_bitCount_0f7a4 3 = .ok (.iushr, 1) := by decide +kernel
theorem dJ6_bitCount_0f7a4_4 : decode cJ6_bitCount_0f7a4 4 = .ok (.ldc_w 265, 3) := by decide +kernel
theorem dJ6_bitCount_0f7a4_7 : decode cJ6_bitCount_0f7a4 7 = .ok (.iand, 1) := by decide +kernel
theorem dJ6_bitCount_0f7a4_8 : decode cJ6_bitCount_0f7a4 8 = .ok (.isub, 1) := by decide +kernel
theorem dJ6_bitCount_0f7a4_9 : decode cJ6_bitCount_0f7a4 9 = .ok (.istore_n 0, 1) := by decide +kernel
theorem dJ6_bitCount_0f7a4_10 : decode cJ6_bitCount_0f7a4 10 = .ok (.iload_n 0, 1) := by decide +kernel
theorem dJ6_bitCount_0f7a4_11 : decode cJ6_bitCount_0f7a4 11 = .ok (.ldc_w 266, 3) := by decide +kernel
theorem dJ6_bitCount_0f7a4_14 : decode cJ6_bitCount_0f7a4 14 = .ok (.iand, 1) := by decide +kernel
theorem dJ6_bitCount_0f7a4_15 : decode cJ6_bitCount_0f7a4 15 = .ok (.iload_n 0, 1) := by decide +kernel
theorem dJ6_bitCount_0f7a4_16 : decode cJ6_bitCount_0f7a4 16 = .ok (.iconst 2, 1) := by decide +kernel
theorem dJ6_bitCount_0f7a4_17 : decode cJ6_bitCount_0f7a4 17 = .ok (.iushr, 1) := by decide +kernel
theorem dJ6_bitCount_0f7a4_18 : decode cJ6_bitCount_0f7a4 18 = .ok (.ldc_w 266, 3) := by decide +kernel
theorem dJ6_bitCount_0f7a4_21 : decode cJ6_bitCount_0f7a4 21 = .ok (.iand, 1) := by decide +kernel
theorem dJ6_bitCount_0f7a4_22 : decode cJ6_bitCount_0f7a4 22 = .ok (.iadd, 1) := by decide +kernel
theorem dJ6_bitCount_0f7a4_23 : decode cJ6_bitCount_0f7a4 23 = .ok (.istore_n 0, 1) := by decide +kernel
theorem dJ6_bitCount_0f7a4_24 : decode cJ6_bitCount_0f7a4 24 = .ok (.iload_n 0, 1) := by decide +kernel
theorem dJ6_bitCount_0f7a4_25 : decode cJ6_bitCount_0f7a4 25 = .ok (.iload_n 0, 1) := by decide +kernel
theorem dJ6_bitCount_0f7a4_26 : decode cJ6_bitCount_0f7a4 26 = .ok (.iconst 4, 1) := by decide +kernel
theorem dJ6_bitCount_0f7a4_27 : decode cJ6_bitCount_0f7a4 27 = .ok (.iushr, 1) := by decide +kernel
theorem dJ6_bitCount_0f7a4_28 : decode cJ6_bitCount_0f7a4 28 = .ok (.iadd, 1) := by decide +kernel
theorem dJ6_bitCount_0f7a4_29 : decode cJ6_bitCount_0f7a4 29 = .ok (.ldc_w 267, 3) := by decide +kernel
theorem dJ6_bitCount_0f7a4_32 : decode cJ6_bitCount_0f7a4 32 = .ok (.iand, 1) := by decide +kernel
theorem dJ6_bitCount_0f7a4_33 : decode cJ6_bitCount_0f7a4 33 = .ok (.istore_n 0, 1) := by decide +kernel
theorem dJ6_bitCount_0f7a4_34 : decode cJ6_bitCount_0f7a4 34 = .ok (.iload_n 0, 1) := by decide +kernel
theorem dJ6_bitCount_0f7a4_35 : decode cJ6_bitCount_0f7a4 35 = .ok (.iload_n 0, 1) := by decide +kernel
theorem dJ6_bitCount_0f7a4_36 : decode cJ6_bitCount_0f7a4 36 = .ok (.bipush 8, 2) := by decide +kernel
theorem dJ6_bitCount_0f7a4_38 : decode cJ6_bitCount_0f7a4 38 = .ok (.iushr, 1) := by decide +kernel
theorem dJ6_bitCount_0f7a4_39 : decode cJ6_bitCount_0f7a4 39 = .ok (.iadd, 1) := by decide +kernel
theorem dJ6_bitCount_0f7a4_40 : decode cJ6_bitCount_0f7a4 40 = .ok (.istore_n 0, 1) := by decide +kernel
theorem dJ6_bitCount_0f7a4_41 : decode cJ6_bitCount_0f7a4 41 = .ok (.iload_n 0, 1) := by decide +kernel
theorem dJ6_bitCount_0f7a4_42 : decode cJ6_bitCount_0f7a4 42 = .ok (.iload_n 0, 1) := by decide +kernel
theorem dJ6_bitCount_0f7a4_43 : decode cJ6_bitCount_0f7a4 43 = .ok (.bipush 16, 2) := by decide +kernel
theorem dJ6_bitCount_0f7a4_45 : decode cJ6_bitCount_0f7a4 45 = .ok (.iushr, 1) := by decide +kernel
theorem dJ6_bitCount_0f7a4_46 : decode cJ6_bitCount_0f7a4 46 = .ok (.iadd, 1) := by decide +kernel
theorem dJ6_bitCount_0f7a4_47 : decode cJ6_bitCount_0f7a4 47 = .ok (.istore_n 0, 1) := by decide +kernel
theorem dJ6_bitCount_0f7a4_48 : decode cJ6_bitCount_0f7a4 48 = .ok (.iload_n 0, 1) := by decide +kernel
theorem dJ6_bitCount_0f7a4_49 : decode cJ6_bitCount_0f7a4 49 = .ok (.bipush 63, 2) := by decide +kernel
theorem dJ6_bitCount_0f7a4_51 : decode cJ6_bitCount_0f7a4 51 = .ok (.iand, 1) := by decide +kernel
theorem dJ6_bitCount_0f7a4_52 : decode cJ6_bitCount_0f7a4 52 = .ok (.ireturn, 1) := by decide +kernel
theorem dJ9_max_7cf53_0 : decode cJ9_max_7cf53 0 = .ok (.iload_n 0, 1) := by decide +kernel
theorem dJ9_max_7cf53_1 : decode cJ9_max_7cf53 1 = .ok (.iload_n 1, 1) := by decide +kernel
theorem dJ9_max_7cf53_2 : decode cJ9_max_7cf53 2 = .ok (.if_icmp .lt 7, 3) := by decide +kernel
theorem dJ9_max_7cf53_5 : decode cJ9_max_7cf53 5 = .ok (.iload_n 0, 1) := by decide +kernel
theorem dJ9_max_7cf53_6 : decode cJ9_max_7cf53 6 = .ok (.goto 4, 3) := by decide +kernel
theorem dJ9_max_7cf53_9 : decode cJ9_max_7cf53 9 = .ok (.iload_n 1, 1) := by decide +kernel
theorem dJ9_max_7cf53_10 : decode cJ9_max_7cf53 10 = .ok (.ireturn, 1) := by decide +kernel
theorem dJ7_fill_53178_0 : decode cJ7_fill_53178 0 = .ok (.iconst 0, 1) := by decide +kernel
theorem dJ7_fill_53178_1 : decode cJ7_fill_53178 1 = .ok (.istore_n 2, 1) := by decide +kernel
theorem dJ7_fill_53178_2 : decode cJ7_fill_53178 2 = .ok (.aload_n 0, 1) := by decide +kernel
theorem dJ7_fill_53178_3 : decode cJ7_fill_53178 3 = .ok (.arraylength, 1) := by decide +kernel
theorem dJ7_fill_53178_4 : decode cJ7_fill_53178 4 = .ok (.istore_n 3, 1) := by decide +kernel
theorem dJ7_fill_53178_5 : decode cJ7_fill_53178 5 = .ok (.iload_n 2, 1) := by decide +kernel
theorem dJ7_fill_53178_6 : decode cJ7_fill_53178 6 = .ok (.iload_n 3, 1) := by decide +kernel
theorem dJ7_fill_53178_7 : decode cJ7_fill_53178 7 = .ok (.if_icmp .ge 13, 3) := by decide +kernel
theorem dJ7_fill_53178_10 : decode cJ7_fill_53178 10 = .ok (.aload_n 0, 1) := by decide +kernel
theorem dJ7_fill_53178_11 : decode cJ7_fill_53178 11 = .ok (.iload_n 2, 1) := by decide +kernel
theorem dJ7_fill_53178_12 : decode cJ7_fill_53178 12 = .ok (.iload_n 1, 1) := by decide +kernel
theorem dJ7_fill_53178_13 : decode cJ7_fill_53178 13 = .ok (.iastore, 1) := by decide +kernel
theorem dJ7_fill_53178_14 : decode cJ7_fill_53178 14 = .ok (.iinc 2 1, 3) := by decide +kernel
theorem dJ7_fill_53178_17 : decode cJ7_fill_53178 17 = .ok (.goto (-12), 3) := by decide +kernel
theorem dJ7_fill_53178_20 : decode cJ7_fill_53178 20 = .ok (.return_, 1) := by decide +kernel
end
section
/-! the base: worlds' classes, nest words, contracts in one form, calls in one form -/
abbrev ty2 (cI cZ : ClassId) : List (ClassId × FieldType) := [(cI, .int), (cZ, .boolean)]
def nwl : List Cond := [.methodLinkNest "GlassBooths" 9 ⟨"GlassBooths$People", "<init>", "()V"⟩ "GlassBooths",
  .fieldLinkNest "GlassBooths$Search" 66 "GlassBooths$People" "size" "I" "GlassBooths",
  .fieldLinkNest "GlassBooths$Day" 69 "GlassBooths$People" "size" "I" "GlassBooths",
  .fieldLinkNest "GlassBooths" 148 "GlassBooths$People" "size" "I" "GlassBooths",
  .fieldLinkNest "GlassBooths" 151 "GlassBooths$People" "illBits" "I" "GlassBooths",
  .fieldLinkNest "GlassBooths" 80 "GlassBooths$Search" "cheapestTeam" "[I" "GlassBooths",
  .fieldLinkNest "GlassBooths" 87 "GlassBooths$Search" "nearestTeam" "[I" "GlassBooths",
  .fieldLinkNest "GlassBooths" 71 "GlassBooths$Search" "found" "I" "GlassBooths",
  .fieldLinkNest "GlassBooths" 111 "GlassBooths$Search" "sparedBits" "I" "GlassBooths",
  .fieldLinkNest "GlassBooths" 74 "GlassBooths$Search" "leastPay" "I" "GlassBooths",
  .fieldLinkNest "GlassBooths" 77 "GlassBooths$Search" "fewestMoved" "I" "GlassBooths",
  .fieldLinkNest "GlassBooths" 90 "GlassBooths$Search" "payOfNearest" "I" "GlassBooths",
  .fieldLinkNest "GlassBooths" 139 "GlassBooths$Day" "tiredness" "[I" "GlassBooths",
  .fieldLinkNest "GlassBooths" 133 "GlassBooths$Day" "onIn" "[I" "GlassBooths",
  .fieldLinkNest "GlassBooths" 136 "GlassBooths$Day" "heardBy" "[I" "GlassBooths",
  .methodLinkNest "GlassBooths$People" 31 ⟨"GlassBooths", "holds", "(II)Z"⟩ "GlassBooths",
  .methodLinkNest "GlassBooths$Search" 62 ⟨"GlassBooths", "holds", "(II)Z"⟩ "GlassBooths",
  .methodLinkNest "GlassBooths" 165 ⟨"GlassBooths$Search", "placeFrom", "(I)V"⟩ "GlassBooths",
  .methodLinkNest "GlassBooths$Search" 98 ⟨"GlassBooths", "isTongue", "(I)Z"⟩ "GlassBooths",
  .methodLinkNest "GlassBooths$Day" 37 ⟨"GlassBooths", "isHalf", "(I)Z"⟩ "GlassBooths",
  .methodLinkNest "GlassBooths$Day" 78 ⟨"GlassBooths", "isTongue", "(I)Z"⟩ "GlassBooths",
  .methodLinkNest "GlassBooths$Day" 91 ⟨"GlassBooths", "holds", "(II)Z"⟩ "GlassBooths"]
def nst (U : State) : Prop := ∀ w ∈ nwl, va_Nw w U
theorem nwl_warm : ∀ w ∈ nwl, ∀ s U : State, s.WarmedH U.vm → va_Nw w s → va_Nw w U := by
  intro w hw s U hW h1
  simp only [nwl, List.mem_cons, List.not_mem_nil, or_false] at hw
  rcases hw with rfl | rfl | rfl | rfl | rfl | rfl | rfl | rfl | rfl | rfl | rfl | rfl | rfl | rfl | rfl | rfl | rfl | rfl | rfl | rfl | rfl | rfl
  all_goals first | exact va_Nw.warmF hW h1 | exact va_Nw.warmM hW h1
theorem nst.warm {s U : State} (hW : s.WarmedH U.vm) (h : nst s) : nst U := fun w hw => nwl_warm w hw s U hW (h w hw)
theorem nwl_tab : ∀ w ∈ nwl, w.onTables = true := by
  intro w hw
  simp only [nwl, List.mem_cons, List.not_mem_nil, or_false] at hw
  rcases hw with rfl | rfl | rfl | rfl | rfl | rfl | rfl | rfl | rfl | rfl | rfl | rfl | rfl | rfl | rfl | rfl | rfl | rfl | rfl | rfl | rfl | rfl
  all_goals rfl
theorem nst.same {u U : State} (h : u.vm = U.vm) (hn : nst u) : nst U := fun w hw => va_Nw.same (nwl_tab w hw) h (hn w hw)
theorem nst.of {A : Array Value} {U : State} (h : ∀ w ∈ nwl, w.before A U = true) : nst U := fun w hw => va_Nw.of (nwl_tab w hw) (h w hw)
/-- a contract's start: the size of the heap, the world, what the tables say -/
def pcX (D : va_G) (cI cZ : ClassId) (w : va_W) (sz : Nat) : State → Prop := fun U => U.heap.size = sz ∧ va_P D vwCl w U.heap ∧ va_K D vwCl (ty2 cI cZ) U ∧ va_D (fun _ => True) w ∧ nst U
/-- a contract's end: the world -/
def poX {S : Type} (D : va_G) (A : Nat → Prop) (w1 : S → va_W) : S → State → Prop := fun u t => va_P D vwCl (w1 u) t.heap ∧ va_D A (w1 u)
def MI {S : Type} (l : Launch) (y : MethodName) (ws : List Cond) (rm : Room) (D : va_G) (cI cZ : ClassId) (av : List Value) (w0 : va_W) (w1 : S → va_W) (post : Int32 → S → Prop) : Prop :=
  ∀ sz, Met l y ws rm (va_Pc av (pcX D cI cZ w0 sz)) (va_Qi post (poX D (va_A w0 sz) w1) (va_A w0 sz)) 0 0 (va_A w0 sz)
def MV {S : Type} (l : Launch) (y : MethodName) (ws : List Cond) (rm : Room) (D : va_G) (cI cZ : ClassId) (av : List Value) (w0 : va_W) (w1 : S → va_W) (post : S → Prop) : Prop :=
  ∀ sz, Met l y ws rm (va_Pc av (pcX D cI cZ w0 sz)) (va_Qv post (poX D (va_A w0 sz) w1) (va_A w0 sz)) 0 0 (va_A w0 sz)
theorem fb_pc {D : va_G} {cI cZ : ClassId} {w : va_W} {sz : Nat} {av : List Value} : FrameBlind (va_Pc av (pcX D cI cZ w sz)) := fun a U g mk q => by
  obtain ⟨q0, q1, qP, qK, qD, qN⟩ := q
  exact ⟨q0, q1, qP, va_K.moved (u := U) (U := U.calling g mk a) (Vm.Alike.refl U.vm) qK, qD, nst.same (u := U) rfl qN⟩
theorem fm_of {α : Type} {is : List Nat} {f : Nat → Option α} {l : List α} (h : is.map f = l.map some) : is.filterMap f = l := by
  have e : is.filterMap f = (is.map f).filterMap id := by rw [List.filterMap_map]; rfl
  rw [e, h, List.filterMap_map]
  exact List.filterMap_some
section ZB
variable {p : Program} {l : Launch} {e : Env} {R : Room} {s : State} {m : MethodId} {args : Array Value} {below : List Frame} {meth : Method} {c : Code} {H : Heap} {locs : List Loc} {cells slots : Nat} {Q : State → Prop} {D : va_G} {cI cZ : ClassId} {A : Nat → Prop} {H0 : Heap} {w wc wr : va_W} {pc : Nat} {ls : Array Slot} {st rest : List Value}
theorem pv_of {b : Addr} {As : List Value} {fs : List Value} {q : vw_C} (hK : va_K D vwCl (ty2 cI cZ) s) (hN : nst s) (hP : va_P D vwCl w H) (hD : va_D A w) (isC : List Nat) (hC : isC.map (fun i => w[i]?) = wc.map some) (hCn : va_nd isC = true) (ci q0 : Nat) (hc : vwCl[ci]? = some q) (he : wc[q0]? = some (b, .inr (ci, fs))) : PreV s H q.1 b (va_Pc (.ref b :: As) (pcX D cI cZ wc H.size)) As :=
  ⟨fb_pc, va_recv hK (hP.sub isC (fm_of hC)) hc he, fun U hU hW => ⟨rfl, by rw [hU], by rw [hU]; exact hP.sub isC (fm_of hC), va_K.moved hW.alike hK, (hD.sub isC hCn hC).weaken (fun _ _ _ _ => trivial), hN.warm hW⟩⟩
theorem ps_of {As : List Value} (hK : va_K D vwCl (ty2 cI cZ) s) (hN : nst s) (hP : va_P D vwCl w H) (hD : va_D A w) (isC : List Nat) (hC : isC.map (fun i => w[i]?) = wc.map some) (hCn : va_nd isC = true) : PreS s H (va_Pc As (pcX D cI cZ wc H.size)) As :=
  ⟨fb_pc, fun U hU hW => ⟨rfl, by rw [hU], by rw [hU]; exact hP.sub isC (fm_of hC), va_K.moved hW.alike hK, (hD.sub isC hCn hC).weaken (fun _ _ _ _ => trivial), hN.warm hW⟩⟩
theorem zc_i {S : Type} {post : Int32 → S → Prop} {w1 : S → va_W} (w2 : S → va_W) {a : Array Value} (isC isR isB : List Nat)
    (hr : va_Run p l e R s m args below meth c H locs cells slots 0 0 (F0 m pc ls st) rest (va_Qi post (poX D (va_A wc H.size) w1) (va_A wc H.size) a) (va_A wc H.size))
    (hP : va_P D vwCl w H) (hD : va_D A w) (hS : va_S A H0 H locs) (hA : ∀ q, H0.size ≤ q → A q)
    (hC : isC.map (fun i => w[i]?) = wc.map some) (hR : isR.map (fun i => w[i]?) = wr.map some) (hn : va_nd isR = true) (hdis : ∀ i ∈ isR, i ∉ isC)
    (hB : ∀ u, isB.map (fun i => (wr ++ w1 u)[i]?) = (w2 u).map some) (hBn : va_nd isB = true)
    (kk : ∀ (r : Int32) (u : S) (H1 : Heap) (locs1 : List Loc), post r u → va_P D vwCl (w2 u) H1 → va_D A (w2 u) → va_S A H0 H1 locs1 → W p l e R s m args below meth c H1 locs1 cells slots Q (F0 m (pc + 3) ls (.int r :: rest))) :
    W p l e R s m args below meth c H locs cells slots Q (F0 m pc ls st) := by
  have hF := va_free hD hS hA isC hC
  refine va_calli hr hS (fun q _ h => hF q h) hF (fun r u t H1 locs1 ht hvm hw hB1 hz1 hk1 hS1 => ?_)
  obtain ⟨hP1, hD1⟩ := hB1
  rw [ht] at hP1
  obtain ⟨hP2, hD2⟩ := va_join (wr := wr) (w1 := w1 u) hP hD isC isR hC hR hn hdis hk1 hF hP1 hD1
  exact kk r u H1 locs1 hw (hP2.sub isB (fm_of (hB u))) (hD2.sub isB hBn (hB u)) hS1
theorem zc_v {S : Type} {post : S → Prop} {w1 : S → va_W} (w2 : S → va_W) {a : Array Value} (isC isR isB : List Nat)
    (hr : va_Run p l e R s m args below meth c H locs cells slots 0 0 (F0 m pc ls st) rest (va_Qv post (poX D (va_A wc H.size) w1) (va_A wc H.size) a) (va_A wc H.size))
    (hP : va_P D vwCl w H) (hD : va_D A w) (hS : va_S A H0 H locs) (hA : ∀ q, H0.size ≤ q → A q)
    (hC : isC.map (fun i => w[i]?) = wc.map some) (hR : isR.map (fun i => w[i]?) = wr.map some) (hn : va_nd isR = true) (hdis : ∀ i ∈ isR, i ∉ isC)
    (hB : ∀ u, isB.map (fun i => (wr ++ w1 u)[i]?) = (w2 u).map some) (hBn : va_nd isB = true)
    (kk : ∀ (u : S) (H1 : Heap) (locs1 : List Loc), post u → va_P D vwCl (w2 u) H1 → va_D A (w2 u) → va_S A H0 H1 locs1 → W p l e R s m args below meth c H1 locs1 cells slots Q (F0 m (pc + 3) ls rest)) :
    W p l e R s m args below meth c H locs cells slots Q (F0 m pc ls st) := by
  have hF := va_free hD hS hA isC hC
  refine va_callv hr hS (fun q _ h => hF q h) hF (fun u t H1 locs1 ht hvm hw hB1 hz1 hk1 hS1 => ?_)
  obtain ⟨hP1, hD1⟩ := hB1
  rw [ht] at hP1
  obtain ⟨hP2, hD2⟩ := va_join (wr := wr) (w1 := w1 u) hP hD isC isR hC hR hn hdis hk1 hF hP1 hD1
  exact kk u H1 locs1 hw (hP2.sub isB (fm_of (hB u))) (hD2.sub isB hBn (hB u)) hS1
end ZB
/-- a contract out of a walk; the walk may take its end as given -/
theorem MI_of {S : Type} {l : Launch} {y : MethodName} {ws ws' : List Cond} {rm : Room} {D : va_G} {cI cZ : ClassId} {av : List Value} {w0 : va_W} {w1 : S → va_W} {post : Int32 → S → Prop} {cc : ByteArray} {maxL : Nat} {ty : FieldType} (hy : plainName y.cls = true) (hw : ws = Cond.code y cc maxL (some ty) :: ws') (hav : (lg_sl av).length ≤ maxL)
    (body : ∀ (p : Program) (e : Env) (s : State) (m : MethodId) (args : Array Value) (below : List Frame) (meth : Method) (c : Code) (A : Nat → Prop) (Q : State → Prop), p.tables.exec = Jvm.exec → c.code = cc → c.maxLocals = maxL → s.vm.findClass y.cls = some m.cls → (∀ w ∈ ws, w.before args s = true) → va_K D vwCl (ty2 cI cZ) s → nst s → (∀ q, s.heap.size ≤ q → A q) →
      (∀ (v : Int32) (u : S) (H : Heap) (locs : List Loc) (pc : Nat) (ls : Array Slot), post v u → narrow ty (.int v) = .int v → va_P D vwCl (w1 u) H → va_D A (w1 u) → va_S A s.heap H locs → decode cc pc = .ok (.ireturn, 1) → W p l e (headSpec ws rm).room s m args below meth c H locs 0 0 Q (F0 m pc ls [.int v])) →
      ∀ (H : Heap) (locs : List Loc) (ls : Array Slot), lv_has ls maxL (lv_args 0 av) → va_P D vwCl w0 H → va_D A w0 → va_S A s.heap H locs → W p l e (headSpec ws rm).room s m args below meth c H locs 0 0 Q (F0 m 0 ls [])) : MI l y ws rm D cI cZ av w0 w1 post := by
  intro sz
  refine Met.ofW (cc := cc) (maxL := maxL) (ret := some ty) hy hw ?_
  intro p e s m args below meth c s₁ B hml hv
  obtain ⟨rfl, hsz, hP, hK, hD0, hN⟩ := hv
  have hx := B.exec
  have hb := B.bytes
  have hr := B.returns
  have hts := atoms_spec (ws := ws) B.pre
  have hown : s.vm.findClass y.cls = some m.cls := findClass_of_methodNamed B.named
  have hlocks := B.notSynchronized
  subst hsz
  have hD := hD0.self (sz := s.heap.size)
  rw [lg_entry_eq]
  refine body p e s m _ below meth c (va_A w0 s.heap.size) _ hx hb hml hown hts hK hN (fun q h => Or.inr h) ?_ _ _ _ (lv_entry av hav) hP hD va_S.rf
  intro v u H locs pc ls hp hn hP1 hD1 hS1 hdg
  exact W.zret (v := v) hx hb hr hn (fun t ht hW => ⟨⟨v, u, rfl, hp, by rw [ht]; exact hP1, hD1⟩, hS1.F ht⟩) hS1.2.2 hdg
theorem MV_of {S : Type} {l : Launch} {y : MethodName} {ws ws' : List Cond} {rm : Room} {D : va_G} {cI cZ : ClassId} {av : List Value} {w0 : va_W} {w1 : S → va_W} {post : S → Prop} {cc : ByteArray} {maxL : Nat} (hy : plainName y.cls = true) (hw : ws = Cond.code y cc maxL none :: ws') (hav : (lg_sl av).length ≤ maxL)
    (body : ∀ (p : Program) (e : Env) (s : State) (m : MethodId) (args : Array Value) (below : List Frame) (meth : Method) (c : Code) (A : Nat → Prop) (Q : State → Prop), p.tables.exec = Jvm.exec → c.code = cc → c.maxLocals = maxL → s.vm.findClass y.cls = some m.cls → (∀ w ∈ ws, w.before args s = true) → va_K D vwCl (ty2 cI cZ) s → nst s → (∀ q, s.heap.size ≤ q → A q) →
      (∀ (u : S) (H : Heap) (locs : List Loc) (pc : Nat) (ls : Array Slot), post u → va_P D vwCl (w1 u) H → va_D A (w1 u) → va_S A s.heap H locs → decode cc pc = .ok (.return_, 1) → W p l e (headSpec ws rm).room s m args below meth c H locs 0 0 Q (F0 m pc ls [])) →
      ∀ (H : Heap) (locs : List Loc) (ls : Array Slot), lv_has ls maxL (lv_args 0 av) → va_P D vwCl w0 H → va_D A w0 → va_S A s.heap H locs → W p l e (headSpec ws rm).room s m args below meth c H locs 0 0 Q (F0 m 0 ls [])) : MV l y ws rm D cI cZ av w0 w1 post := by
  intro sz
  refine Met.ofW (cc := cc) (maxL := maxL) (ret := none) hy hw ?_
  intro p e s m args below meth c s₁ B hml hv
  obtain ⟨rfl, hsz, hP, hK, hD0, hN⟩ := hv
  have hx := B.exec
  have hb := B.bytes
  have hr := B.returns
  have hts := atoms_spec (ws := ws) B.pre
  have hown : s.vm.findClass y.cls = some m.cls := findClass_of_methodNamed B.named
  have hlocks := B.notSynchronized
  subst hsz
  have hD := hD0.self (sz := s.heap.size)
  rw [lg_entry_eq]
  refine body p e s m _ below meth c (va_A w0 s.heap.size) _ hx hb hml hown hts hK hN (fun q h => Or.inr h) ?_ _ _ _ (lv_entry av hav) hP hD va_S.rf
  intro u H locs pc ls hp hP1 hD1 hS1 hdg
  exact W.vret hx hb hr (fun t ht hW => ⟨⟨u, rfl, hp, by rw [ht]; exact hP1, hD1⟩, hS1.F ht⟩) hS1.2.2 hdg
/-! pure words -/
def bI (b : Bool) : Int32 := if b = true then 1 else 0
def hs (x k : Int32) : Bool := decide ((x >>> (k &&& 31)) &&& 1 = 1)
def inN (v : Int32) (n : Nat) : Bool := decide (0 ≤ v) && decide (v < nI n)
def sI (f : Nat → Int32) : Nat → Int32
  | 0 => 0
  | k + 1 => sI f k + f k
theorem bI_nar (b : Bool) : narrow .boolean (.int (bI b)) = .int (bI b) := by cases b <;> rfl
theorem bI_t : bI true = 1 := rfl
theorem bI_f : bI false = 0 := rfl
theorem bI_0 (b : Bool) : bI b = 0 ↔ b = false := by cases b <;> decide
theorem bI_1 (b : Bool) : bI b = 1 ↔ b = true := by cases b <;> decide
/-! worlds: the people's, the search's, the day's, the class's own, the reference's; q: their addresses -/
abbrev wP (cI : ClassId) (q : Nat → Nat) (n il : Int32) (kn sp py bo : Nat → Int32) : va_W := [(q 0, .inr (1, [.ref (q 1), .ref (q 2), .ref (q 3), .ref (q 4), .int n, .int il])), (q 1, .inl (cI, 6, .inl kn)), (q 2, .inl (cI, 6, .inl sp)), (q 3, .inl (cI, 6, .inl py)), (q 4, .inl (cI, 6, .inl bo))]
abbrev wS (cI : ClassId) (q : Nat → Nat) (os fl wa fo sb lp fm pn : Int32) (tr fs sk ct nt : Nat → Int32) : va_W := [(q 5, .inr (2, [.ref (q 0), .ref (q 6), .ref (q 7), .ref (q 8), .ref (q 9), .ref (q 10), .int os, .int fl, .int wa, .int fo, .int sb, .int lp, .int fm, .int pn])), (q 6, .inl (cI, 6, .inl tr)), (q 7, .inl (cI, 5, .inl fs)), (q 8, .inl (cI, 5, .inl sk)), (q 9, .inl (cI, 6, .inl ct)), (q 10, .inl (cI, 6, .inl nt))]
abbrev wD (cI : ClassId) (q : Nat → Nat) (so sd ti on he : Nat → Int32) : va_W := [(q 11, .inr (0, [.ref (q 0), .ref (q 12), .ref (q 13), .ref (q 14), .ref (q 15), .ref (q 16)])), (q 12, .inl (cI, 16, .inl so)), (q 13, .inl (cI, 16, .inl sd)), (q 14, .inl (cI, 6, .inl ti)), (q 15, .inl (cI, 5, .inl on)), (q 16, .inl (cI, 5, .inl he))]
abbrev wM (cI : ClassId) (q : Nat → Nat) (se wo : Int32) (fO wI : Nat → Int32) : va_W := [(q 17, .inr (3, [.ref (q 0), .ref (q 5), .ref (q 11), .ref (q 18), .ref (q 19), .int se, .int wo])), (q 18, .inl (cI, 2, .inl fO)), (q 19, .inl (cI, 2, .inl wI))]
abbrev wR (cI cZ : ClassId) (q : Nat → Nat) (n se li wm ch ne np al wo : Int32) (kn sp py il fl wa bo so sd ro cp nr ti on he la : Nat → Int32) : va_W := [(q 0, .inr (4, [.int n, .ref (q 1), .ref (q 2), .ref (q 3), .ref (q 4), .ref (q 5), .ref (q 6), .int se, .ref (q 7), .ref (q 8), .ref (q 9), .int li, .ref (q 10), .int wm, .int ch, .ref (q 11), .int ne, .int np, .ref (q 12), .int al, .ref (q 13), .ref (q 14), .ref (q 15), .int wo, .ref (q 16)])), (q 1, .inl (cI, 6, .inl kn)), (q 2, .inl (cI, 6, .inl sp)), (q 3, .inl (cI, 6, .inl py)), (q 4, .inl (cZ, 6, .inl il)), (q 5, .inl (cI, 2, .inl fl)), (q 6, .inl (cI, 2, .inl wa)), (q 7, .inl (cI, 6, .inl bo)), (q 8, .inl (cI, 16, .inl so)), (q 9, .inl (cI, 16, .inl sd)), (q 10, .inl (cI, 6, .inl ro)), (q 11, .inl (cI, 6, .inl cp)), (q 12, .inl (cI, 6, .inl nr)), (q 13, .inl (cI, 6, .inl ti)), (q 14, .inl (cI, 5, .inl on)), (q 15, .inl (cI, 5, .inl he)), (q 16, .inl (cI, 5, .inl la))]
end
section
section ZC
variable {p : Program} {l : Launch} {e : Env} {R : Room} {s : State} {m : MethodId} {args : Array Value} {below : List Frame} {meth : Method} {c : Code} {H : Heap} {locs : List Loc} {cells slots : Nat} {Q : State → Prop} {D : va_G} {cI cZ : ClassId} {A : Nat → Prop} {H0 : Heap} {w : va_W} {pc : Nat} {ls : Array Slot} {st rest : List Value}
theorem zc_kept {H1 : Heap} (hP : va_P D vwCl w H) (hk1 : ∀ q : Nat, q < H.size → ¬ va_A [] H.size q → H1[q]? = H[q]?) : va_P D vwCl w H1 := hP.kept (fun k x hx => hk1 x.1 ((hP k x hx).lt) (fun h => by
  rcases h with ⟨k2, e, h⟩ | h
  · simp at h
  · exact absurd ((hP k x hx).lt) (Nat.not_lt.mpr h)))
theorem zc_free (hS : va_S A H0 H locs) (hA : ∀ q, H0.size ≤ q → A q) : ∀ q, va_A [] H.size q → A q := fun q h => by
  rcases h with ⟨k, e, h⟩ | h
  · simp at h
  · exact hA q (Nat.le_trans hS.1 h)
theorem zc_i0 {S : Type} {post : Int32 → S → Prop} {w1 : S → va_W} {a : Array Value}
    (hr : va_Run p l e R s m args below meth c H locs cells slots 0 0 (F0 m pc ls st) rest (va_Qi post (poX D (va_A [] H.size) w1) (va_A [] H.size) a) (va_A [] H.size))
    (hP : va_P D vwCl w H) (hD : va_D A w) (hS : va_S A H0 H locs) (hA : ∀ q, H0.size ≤ q → A q)
    (kk : ∀ (r : Int32) (u : S) (H1 : Heap) (locs1 : List Loc), post r u → va_P D vwCl w H1 → va_D A w → va_S A H0 H1 locs1 → W p l e R s m args below meth c H1 locs1 cells slots Q (F0 m (pc + 3) ls (.int r :: rest))) :
    W p l e R s m args below meth c H locs cells slots Q (F0 m pc ls st) := by
  refine va_calli hr hS (fun q _ h => zc_free hS hA q h) (zc_free hS hA) (fun r u t H1 locs1 ht hvm hw hB1 hz1 hk1 hS1 => ?_)
  exact kk r u H1 locs1 hw (zc_kept hP hk1) hD hS1
end ZC
theorem sw_out {x : Int32} (h0 : ¬ x = 0) (h1 : ¬ x = 1) (h2 : ¬ x = 2) (h3 : ¬ x = 3) (h4 : ¬ x = 4) : x.toInt < 0 ∨ 4 < x.toInt := by
  have e0 : x.toInt ≠ 0 := fun h => h0 (Int32.toInt_inj.mp (h.trans (by decide)))
  have e1 : x.toInt ≠ 1 := fun h => h1 (Int32.toInt_inj.mp (h.trans (by decide)))
  have e2 : x.toInt ≠ 2 := fun h => h2 (Int32.toInt_inj.mp (h.trans (by decide)))
  have e3 : x.toInt ≠ 3 := fun h => h3 (Int32.toInt_inj.mp (h.trans (by decide)))
  have e4 : x.toInt ≠ 4 := fun h => h4 (Int32.toInt_inj.mp (h.trans (by decide)))
  omega
theorem ex_K1 {A1 : Type} (st : A1 → Prop) : ∃ K : A1 → Prop, (∀ (x1 : A1), st x1 → K x1) ∧ (∀ (x1 : A1), K x1 → st x1) := ⟨st, fun _ h => h, fun _ h => h⟩
theorem ex_K2 {A1 A2 : Type} (st : A1 → A2 → Prop) : ∃ K : A1 → A2 → Prop, (∀ (x1 : A1) (x2 : A2), st x1 x2 → K x1 x2) ∧ (∀ (x1 : A1) (x2 : A2), K x1 x2 → st x1 x2) := ⟨st, fun _ _ h => h, fun _ _ h => h⟩
theorem ex_K3 {A1 A2 A3 : Type} (st : A1 → A2 → A3 → Prop) : ∃ K : A1 → A2 → A3 → Prop, (∀ (x1 : A1) (x2 : A2) (x3 : A3), st x1 x2 x3 → K x1 x2 x3) ∧ (∀ (x1 : A1) (x2 : A2) (x3 : A3), K x1 x2 x3 → st x1 x2 x3) := ⟨st, fun _ _ _ h => h, fun _ _ _ h => h⟩
theorem ex_K4 {A1 A2 A3 A4 : Type} (st : A1 → A2 → A3 → A4 → Prop) : ∃ K : A1 → A2 → A3 → A4 → Prop, (∀ (x1 : A1) (x2 : A2) (x3 : A3) (x4 : A4), st x1 x2 x3 x4 → K x1 x2 x3 x4) ∧ (∀ (x1 : A1) (x2 : A2) (x3 : A3) (x4 : A4), K x1 x2 x3 x4 → st x1 x2 x3 x4) := ⟨st, fun _ _ _ _ h => h, fun _ _ _ _ h => h⟩
theorem ex_K5 {A1 A2 A3 A4 A5 : Type} (st : A1 → A2 → A3 → A4 → A5 → Prop) : ∃ K : A1 → A2 → A3 → A4 → A5 → Prop, (∀ (x1 : A1) (x2 : A2) (x3 : A3) (x4 : A4) (x5 : A5), st x1 x2 x3 x4 x5 → K x1 x2 x3 x4 x5) ∧ (∀ (x1 : A1) (x2 : A2) (x3 : A3) (x4 : A4) (x5 : A5), K x1 x2 x3 x4 x5 → st x1 x2 x3 x4 x5) := ⟨st, fun _ _ _ _ _ h => h, fun _ _ _ _ _ h => h⟩
theorem ex_K6 {A1 A2 A3 A4 A5 A6 : Type} (st : A1 → A2 → A3 → A4 → A5 → A6 → Prop) : ∃ K : A1 → A2 → A3 → A4 → A5 → A6 → Prop, (∀ (x1 : A1) (x2 : A2) (x3 : A3) (x4 : A4) (x5 : A5) (x6 : A6), st x1 x2 x3 x4 x5 x6 → K x1 x2 x3 x4 x5 x6) ∧ (∀ (x1 : A1) (x2 : A2) (x3 : A3) (x4 : A4) (x5 : A5) (x6 : A6), K x1 x2 x3 x4 x5 x6 → st x1 x2 x3 x4 x5 x6) := ⟨st, fun _ _ _ _ _ _ h => h, fun _ _ _ _ _ _ h => h⟩
theorem ex_K7 {A1 A2 A3 A4 A5 A6 A7 : Type} (st : A1 → A2 → A3 → A4 → A5 → A6 → A7 → Prop) : ∃ K : A1 → A2 → A3 → A4 → A5 → A6 → A7 → Prop, (∀ (x1 : A1) (x2 : A2) (x3 : A3) (x4 : A4) (x5 : A5) (x6 : A6) (x7 : A7), st x1 x2 x3 x4 x5 x6 x7 → K x1 x2 x3 x4 x5 x6 x7) ∧ (∀ (x1 : A1) (x2 : A2) (x3 : A3) (x4 : A4) (x5 : A5) (x6 : A6) (x7 : A7), K x1 x2 x3 x4 x5 x6 x7 → st x1 x2 x3 x4 x5 x6 x7) := ⟨st, fun _ _ _ _ _ _ _ h => h, fun _ _ _ _ _ _ _ h => h⟩
theorem ex_K8 {A1 A2 A3 A4 A5 A6 A7 A8 : Type} (st : A1 → A2 → A3 → A4 → A5 → A6 → A7 → A8 → Prop) : ∃ K : A1 → A2 → A3 → A4 → A5 → A6 → A7 → A8 → Prop, (∀ (x1 : A1) (x2 : A2) (x3 : A3) (x4 : A4) (x5 : A5) (x6 : A6) (x7 : A7) (x8 : A8), st x1 x2 x3 x4 x5 x6 x7 x8 → K x1 x2 x3 x4 x5 x6 x7 x8) ∧ (∀ (x1 : A1) (x2 : A2) (x3 : A3) (x4 : A4) (x5 : A5) (x6 : A6) (x7 : A7) (x8 : A8), K x1 x2 x3 x4 x5 x6 x7 x8 → st x1 x2 x3 x4 x5 x6 x7 x8) := ⟨st, fun _ _ _ _ _ _ _ _ h => h, fun _ _ _ _ _ _ _ _ h => h⟩
theorem ex_K9 {A1 A2 A3 A4 A5 A6 A7 A8 A9 : Type} (st : A1 → A2 → A3 → A4 → A5 → A6 → A7 → A8 → A9 → Prop) : ∃ K : A1 → A2 → A3 → A4 → A5 → A6 → A7 → A8 → A9 → Prop, (∀ (x1 : A1) (x2 : A2) (x3 : A3) (x4 : A4) (x5 : A5) (x6 : A6) (x7 : A7) (x8 : A8) (x9 : A9), st x1 x2 x3 x4 x5 x6 x7 x8 x9 → K x1 x2 x3 x4 x5 x6 x7 x8 x9) ∧ (∀ (x1 : A1) (x2 : A2) (x3 : A3) (x4 : A4) (x5 : A5) (x6 : A6) (x7 : A7) (x8 : A8) (x9 : A9), K x1 x2 x3 x4 x5 x6 x7 x8 x9 → st x1 x2 x3 x4 x5 x6 x7 x8 x9) := ⟨st, fun _ _ _ _ _ _ _ _ _ h => h, fun _ _ _ _ _ _ _ _ _ h => h⟩
theorem ex_K10 {A1 A2 A3 A4 A5 A6 A7 A8 A9 A10 : Type} (st : A1 → A2 → A3 → A4 → A5 → A6 → A7 → A8 → A9 → A10 → Prop) : ∃ K : A1 → A2 → A3 → A4 → A5 → A6 → A7 → A8 → A9 → A10 → Prop, (∀ (x1 : A1) (x2 : A2) (x3 : A3) (x4 : A4) (x5 : A5) (x6 : A6) (x7 : A7) (x8 : A8) (x9 : A9) (x10 : A10), st x1 x2 x3 x4 x5 x6 x7 x8 x9 x10 → K x1 x2 x3 x4 x5 x6 x7 x8 x9 x10) ∧ (∀ (x1 : A1) (x2 : A2) (x3 : A3) (x4 : A4) (x5 : A5) (x6 : A6) (x7 : A7) (x8 : A8) (x9 : A9) (x10 : A10), K x1 x2 x3 x4 x5 x6 x7 x8 x9 x10 → st x1 x2 x3 x4 x5 x6 x7 x8 x9 x10) := ⟨st, fun _ _ _ _ _ _ _ _ _ _ h => h, fun _ _ _ _ _ _ _ _ _ _ h => h⟩
theorem ex_K11 {A1 A2 A3 A4 A5 A6 A7 A8 A9 A10 A11 : Type} (st : A1 → A2 → A3 → A4 → A5 → A6 → A7 → A8 → A9 → A10 → A11 → Prop) : ∃ K : A1 → A2 → A3 → A4 → A5 → A6 → A7 → A8 → A9 → A10 → A11 → Prop, (∀ (x1 : A1) (x2 : A2) (x3 : A3) (x4 : A4) (x5 : A5) (x6 : A6) (x7 : A7) (x8 : A8) (x9 : A9) (x10 : A10) (x11 : A11), st x1 x2 x3 x4 x5 x6 x7 x8 x9 x10 x11 → K x1 x2 x3 x4 x5 x6 x7 x8 x9 x10 x11) ∧ (∀ (x1 : A1) (x2 : A2) (x3 : A3) (x4 : A4) (x5 : A5) (x6 : A6) (x7 : A7) (x8 : A8) (x9 : A9) (x10 : A10) (x11 : A11), K x1 x2 x3 x4 x5 x6 x7 x8 x9 x10 x11 → st x1 x2 x3 x4 x5 x6 x7 x8 x9 x10 x11) := ⟨st, fun _ _ _ _ _ _ _ _ _ _ _ h => h, fun _ _ _ _ _ _ _ _ _ _ _ h => h⟩
theorem ex_K12 {A1 A2 A3 A4 A5 A6 A7 A8 A9 A10 A11 A12 : Type} (st : A1 → A2 → A3 → A4 → A5 → A6 → A7 → A8 → A9 → A10 → A11 → A12 → Prop) : ∃ K : A1 → A2 → A3 → A4 → A5 → A6 → A7 → A8 → A9 → A10 → A11 → A12 → Prop, (∀ (x1 : A1) (x2 : A2) (x3 : A3) (x4 : A4) (x5 : A5) (x6 : A6) (x7 : A7) (x8 : A8) (x9 : A9) (x10 : A10) (x11 : A11) (x12 : A12), st x1 x2 x3 x4 x5 x6 x7 x8 x9 x10 x11 x12 → K x1 x2 x3 x4 x5 x6 x7 x8 x9 x10 x11 x12) ∧ (∀ (x1 : A1) (x2 : A2) (x3 : A3) (x4 : A4) (x5 : A5) (x6 : A6) (x7 : A7) (x8 : A8) (x9 : A9) (x10 : A10) (x11 : A11) (x12 : A12), K x1 x2 x3 x4 x5 x6 x7 x8 x9 x10 x11 x12 → st x1 x2 x3 x4 x5 x6 x7 x8 x9 x10 x11 x12) := ⟨st, fun _ _ _ _ _ _ _ _ _ _ _ _ h => h, fun _ _ _ _ _ _ _ _ _ _ _ _ h => h⟩
theorem ex_K13 {A1 A2 A3 A4 A5 A6 A7 A8 A9 A10 A11 A12 A13 : Type} (st : A1 → A2 → A3 → A4 → A5 → A6 → A7 → A8 → A9 → A10 → A11 → A12 → A13 → Prop) : ∃ K : A1 → A2 → A3 → A4 → A5 → A6 → A7 → A8 → A9 → A10 → A11 → A12 → A13 → Prop, (∀ (x1 : A1) (x2 : A2) (x3 : A3) (x4 : A4) (x5 : A5) (x6 : A6) (x7 : A7) (x8 : A8) (x9 : A9) (x10 : A10) (x11 : A11) (x12 : A12) (x13 : A13), st x1 x2 x3 x4 x5 x6 x7 x8 x9 x10 x11 x12 x13 → K x1 x2 x3 x4 x5 x6 x7 x8 x9 x10 x11 x12 x13) ∧ (∀ (x1 : A1) (x2 : A2) (x3 : A3) (x4 : A4) (x5 : A5) (x6 : A6) (x7 : A7) (x8 : A8) (x9 : A9) (x10 : A10) (x11 : A11) (x12 : A12) (x13 : A13), K x1 x2 x3 x4 x5 x6 x7 x8 x9 x10 x11 x12 x13 → st x1 x2 x3 x4 x5 x6 x7 x8 x9 x10 x11 x12 x13) := ⟨st, fun _ _ _ _ _ _ _ _ _ _ _ _ _ h => h, fun _ _ _ _ _ _ _ _ _ _ _ _ _ h => h⟩
theorem ex_K14 {A1 A2 A3 A4 A5 A6 A7 A8 A9 A10 A11 A12 A13 A14 : Type} (st : A1 → A2 → A3 → A4 → A5 → A6 → A7 → A8 → A9 → A10 → A11 → A12 → A13 → A14 → Prop) : ∃ K : A1 → A2 → A3 → A4 → A5 → A6 → A7 → A8 → A9 → A10 → A11 → A12 → A13 → A14 → Prop, (∀ (x1 : A1) (x2 : A2) (x3 : A3) (x4 : A4) (x5 : A5) (x6 : A6) (x7 : A7) (x8 : A8) (x9 : A9) (x10 : A10) (x11 : A11) (x12 : A12) (x13 : A13) (x14 : A14), st x1 x2 x3 x4 x5 x6 x7 x8 x9 x10 x11 x12 x13 x14 → K x1 x2 x3 x4 x5 x6 x7 x8 x9 x10 x11 x12 x13 x14) ∧ (∀ (x1 : A1) (x2 : A2) (x3 : A3) (x4 : A4) (x5 : A5) (x6 : A6) (x7 : A7) (x8 : A8) (x9 : A9) (x10 : A10) (x11 : A11) (x12 : A12) (x13 : A13) (x14 : A14), K x1 x2 x3 x4 x5 x6 x7 x8 x9 x10 x11 x12 x13 x14 → st x1 x2 x3 x4 x5 x6 x7 x8 x9 x10 x11 x12 x13 x14) := ⟨st, fun _ _ _ _ _ _ _ _ _ _ _ _ _ _ h => h, fun _ _ _ _ _ _ _ _ _ _ _ _ _ _ h => h⟩
theorem ex_K15 {A1 A2 A3 A4 A5 A6 A7 A8 A9 A10 A11 A12 A13 A14 A15 : Type} (st : A1 → A2 → A3 → A4 → A5 → A6 → A7 → A8 → A9 → A10 → A11 → A12 → A13 → A14 → A15 → Prop) : ∃ K : A1 → A2 → A3 → A4 → A5 → A6 → A7 → A8 → A9 → A10 → A11 → A12 → A13 → A14 → A15 → Prop, (∀ (x1 : A1) (x2 : A2) (x3 : A3) (x4 : A4) (x5 : A5) (x6 : A6) (x7 : A7) (x8 : A8) (x9 : A9) (x10 : A10) (x11 : A11) (x12 : A12) (x13 : A13) (x14 : A14) (x15 : A15), st x1 x2 x3 x4 x5 x6 x7 x8 x9 x10 x11 x12 x13 x14 x15 → K x1 x2 x3 x4 x5 x6 x7 x8 x9 x10 x11 x12 x13 x14 x15) ∧ (∀ (x1 : A1) (x2 : A2) (x3 : A3) (x4 : A4) (x5 : A5) (x6 : A6) (x7 : A7) (x8 : A8) (x9 : A9) (x10 : A10) (x11 : A11) (x12 : A12) (x13 : A13) (x14 : A14) (x15 : A15), K x1 x2 x3 x4 x5 x6 x7 x8 x9 x10 x11 x12 x13 x14 x15 → st x1 x2 x3 x4 x5 x6 x7 x8 x9 x10 x11 x12 x13 x14 x15) := ⟨st, fun _ _ _ _ _ _ _ _ _ _ _ _ _ _ _ h => h, fun _ _ _ _ _ _ _ _ _ _ _ _ _ _ _ h => h⟩
end
section
/-! the pure words of the contracts: people -/
def inB (v m : Int32) : Bool := !decide (v < 0) && !decide (m ≤ v)
def fillA (f : Nat → Int32) (N : Nat) (v : Int32) : Nat → Int32 := fun j => if j < N then v else f j
def atP (n : Nat) (f : Nat → Int32) (z v : Int32) : Int32 := if inB v (nI n) = true then f v.toNatClampNeg else z
def canT (n : Nat) (il : Int32) (sp : Nat → Int32) (v t : Int32) : Bool := inB v (nI n) && (!hs il v && hs (sp v.toNatClampNeg) t)
theorem up_ind (P : Nat → Prop) (n : Nat) (h0 : P n) (hs : ∀ k, k < n → P (k + 1) → P k) : P 0 := by
  have key : ∀ d k, k + d = n → P k := by
    intro d
    induction d with
    | zero => intro k hk; have : k = n := by omega
              subst this; exact h0
    | succ d ih => intro k hk; exact hs k (by omega) (ih (k + 1) (by omega))
  exact key n 0 (by omega)
theorem inB_iff {v : Int32} {n : Nat} (hn : n < 2 ^ 31) : inB v (nI n) = true ↔ ∃ k, k < n ∧ v = nI k := by
  constructor
  · intro h
    simp only [inB, Bool.and_eq_true, Bool.not_eq_true', decide_eq_false_iff_not] at h
    obtain ⟨j, hj, rfl⟩ := nI_of h.1
    exact ⟨j, by
      rcases Nat.lt_or_ge j n with q | q
      · exact q
      · exact absurd (nI_le q hj) h.2, rfl⟩
  · rintro ⟨k, hk, rfl⟩
    simp only [inB, Bool.and_eq_true, Bool.not_eq_true', decide_eq_false_iff_not]
    exact ⟨nI_pos (by omega), nI_ge hk hn⟩
theorem inB_nI {k n : Nat} (h : k < n) (hn : n < 2 ^ 31) : inB (nI k) (nI n) = true := (inB_iff hn).mpr ⟨k, h, rfl⟩
theorem atP_nI {k n : Nat} {f : Nat → Int32} {z : Int32} (h : k < n) (hn : n < 2 ^ 31) : atP n f z (nI k) = f k := by
  rw [atP, inB_nI h hn, if_pos rfl, nI_clamp (by omega)]
theorem inB_in {v : Int32} {n N : Nat} (h : inB v (nI n) = true) (hn : n ≤ N) (hN : N < 2 ^ 31) : vp_in v N := by
  obtain ⟨k, hk, rfl⟩ := (inB_iff (by omega)).mp h
  exact vp_in_nI (by omega) hN
theorem bI_n0 (b : Bool) : ¬ bI b = 0 ↔ b = true := by cases b <;> decide
end
