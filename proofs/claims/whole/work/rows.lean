section
-- ===== PART A: goes FIRST, ahead of the names: the tables' words, and 'selects' of the private methods out of them =====
/-- a private method of a class that the tables say can be made, by its rows of tables_1 -/
def lw_okq (q : MethodName × Nat) : Prop := (q.1.cls ≠ "java/lang/invoke/MethodHandle" ∧ q.1.cls ≠ "java/lang/invoke/VarHandle") ∧ Cond.instantiable q.1.cls q.2 ∈ tables_1 ∧ Cond.privateMethod q.1 ∈ tables_1 ∧ Cond.instanceMethod q.1 ∈ tables_1
theorem lw_p0 : lw_okq (⟨"FlockPass$Pasture", "graze", "(I)V"⟩, 8) := ⟨⟨by decide +kernel, by decide +kernel⟩, List.mem_of_getElem? (i := 57) (by decide +kernel), List.mem_of_getElem? (i := 430) (by decide +kernel), List.mem_of_getElem? (i := 431) (by decide +kernel)⟩
theorem lw_p1 : lw_okq (⟨"FlockPass$Register", "putInOrder", "(I)I"⟩, 9) := ⟨⟨by decide +kernel, by decide +kernel⟩, List.mem_of_getElem? (i := 146) (by decide +kernel), List.mem_of_getElem? (i := 447) (by decide +kernel), List.mem_of_getElem? (i := 448) (by decide +kernel)⟩
theorem lw_p2 : lw_okq (⟨"FlockPass$Trace", "begin", "(IZ)V"⟩, 6) := ⟨⟨by decide +kernel, by decide +kernel⟩, List.mem_of_getElem? (i := 199) (by decide +kernel), List.mem_of_getElem? (i := 455) (by decide +kernel), List.mem_of_getElem? (i := 456) (by decide +kernel)⟩
theorem lw_p3 : lw_okq (⟨"FlockPass$Trace", "fits", "(II)Z"⟩, 6) := ⟨⟨by decide +kernel, by decide +kernel⟩, List.mem_of_getElem? (i := 199) (by decide +kernel), List.mem_of_getElem? (i := 460) (by decide +kernel), List.mem_of_getElem? (i := 461) (by decide +kernel)⟩
theorem lw_p4 : lw_okq (⟨"FlockPass$Trace", "tallyBefore", "(I)V"⟩, 6) := ⟨⟨by decide +kernel, by decide +kernel⟩, List.mem_of_getElem? (i := 199) (by decide +kernel), List.mem_of_getElem? (i := 464) (by decide +kernel), List.mem_of_getElem? (i := 465) (by decide +kernel)⟩
theorem lw_p5 : lw_okq (⟨"FlockPass$Trace", "follow", "(II)V"⟩, 6) := ⟨⟨by decide +kernel, by decide +kernel⟩, List.mem_of_getElem? (i := 199) (by decide +kernel), List.mem_of_getElem? (i := 468) (by decide +kernel), List.mem_of_getElem? (i := 469) (by decide +kernel)⟩
theorem lw_p6 : lw_okq (⟨"FlockPass$Register", "takeBack", "(I)V"⟩, 9) := ⟨⟨by decide +kernel, by decide +kernel⟩, List.mem_of_getElem? (i := 146) (by decide +kernel), List.mem_of_getElem? (i := 472) (by decide +kernel), List.mem_of_getElem? (i := 473) (by decide +kernel)⟩
theorem lw_p7 : lw_okq (⟨"FlockPass$Dairy", "divide", "(ILFlockPass$Trace;I)V"⟩, 3) := ⟨⟨by decide +kernel, by decide +kernel⟩, List.mem_of_getElem? (i := 237) (by decide +kernel), List.mem_of_getElem? (i := 500) (by decide +kernel), List.mem_of_getElem? (i := 501) (by decide +kernel)⟩
theorem lw_p8 : lw_okq (⟨"FlockPass$Ledger", "takeTurn", "([I)I"⟩, 7) := ⟨⟨by decide +kernel, by decide +kernel⟩, List.mem_of_getElem? (i := 256) (by decide +kernel), List.mem_of_getElem? (i := 511) (by decide +kernel), List.mem_of_getElem? (i := 512) (by decide +kernel)⟩
theorem lw_p9 : lw_okq (⟨"FlockPass", "beginNextYear", "()V"⟩, 10) := ⟨⟨by decide +kernel, by decide +kernel⟩, List.mem_of_getElem? (i := 15) (by decide +kernel), List.mem_of_getElem? (i := 530) (by decide +kernel), List.mem_of_getElem? (i := 531) (by decide +kernel)⟩
theorem lw_p10 : lw_okq (⟨"FlockPass$Planner", "judge", "(I)V"⟩, 10) := ⟨⟨by decide +kernel, by decide +kernel⟩, List.mem_of_getElem? (i := 107) (by decide +kernel), List.mem_of_getElem? (i := 577) (by decide +kernel), List.mem_of_getElem? (i := 578) (by decide +kernel)⟩
theorem lw_p11 : lw_okq (⟨"FlockPass$Planner", "passDay", "(II)I"⟩, 10) := ⟨⟨by decide +kernel, by decide +kernel⟩, List.mem_of_getElem? (i := 107) (by decide +kernel), List.mem_of_getElem? (i := 584) (by decide +kernel), List.mem_of_getElem? (i := 585) (by decide +kernel)⟩
theorem lw_p12 : lw_okq (⟨"FlockPassModel", "types", "(I)V"⟩, 45) := ⟨⟨by decide +kernel, by decide +kernel⟩, List.mem_of_getElem? (i := 623) (by decide +kernel), List.mem_of_getElem? (i := 770) (by decide +kernel), List.mem_of_getElem? (i := 771) (by decide +kernel)⟩
theorem lw_p13 : lw_okq (⟨"FlockPassModel", "parse", "(I)I"⟩, 45) := ⟨⟨by decide +kernel, by decide +kernel⟩, List.mem_of_getElem? (i := 623) (by decide +kernel), List.mem_of_getElem? (i := 778) (by decide +kernel), List.mem_of_getElem? (i := 779) (by decide +kernel)⟩
theorem lw_p14 : lw_okq (⟨"FlockPassModel", "isDigit", "(II)Z"⟩, 45) := ⟨⟨by decide +kernel, by decide +kernel⟩, List.mem_of_getElem? (i := 623) (by decide +kernel), List.mem_of_getElem? (i := 785) (by decide +kernel), List.mem_of_getElem? (i := 786) (by decide +kernel)⟩
theorem lw_p15 : lw_okq (⟨"FlockPassModel", "isHeight", "(I)Z"⟩, 45) := ⟨⟨by decide +kernel, by decide +kernel⟩, List.mem_of_getElem? (i := 623) (by decide +kernel), List.mem_of_getElem? (i := 801) (by decide +kernel), List.mem_of_getElem? (i := 802) (by decide +kernel)⟩
def lw_privs_1 : List (MethodName × Nat) := [(⟨"FlockPass$Pasture", "graze", "(I)V"⟩, 8), (⟨"FlockPass$Register", "putInOrder", "(I)I"⟩, 9), (⟨"FlockPass$Trace", "begin", "(IZ)V"⟩, 6), (⟨"FlockPass$Trace", "fits", "(II)Z"⟩, 6), (⟨"FlockPass$Trace", "tallyBefore", "(I)V"⟩, 6), (⟨"FlockPass$Trace", "follow", "(II)V"⟩, 6), (⟨"FlockPass$Register", "takeBack", "(I)V"⟩, 9), (⟨"FlockPass$Dairy", "divide", "(ILFlockPass$Trace;I)V"⟩, 3), (⟨"FlockPass$Ledger", "takeTurn", "([I)I"⟩, 7), (⟨"FlockPass", "beginNextYear", "()V"⟩, 10), (⟨"FlockPass$Planner", "judge", "(I)V"⟩, 10), (⟨"FlockPass$Planner", "passDay", "(II)I"⟩, 10), (⟨"FlockPassModel", "types", "(I)V"⟩, 45), (⟨"FlockPassModel", "parse", "(I)I"⟩, 45), (⟨"FlockPassModel", "isDigit", "(II)Z"⟩, 45), (⟨"FlockPassModel", "isHeight", "(I)Z"⟩, 45)]
theorem lw_r1 : ∀ q ∈ lw_privs_1, lw_okq q := List.forall_mem_cons.mpr ⟨lw_p0, List.forall_mem_cons.mpr ⟨lw_p1, List.forall_mem_cons.mpr ⟨lw_p2, List.forall_mem_cons.mpr ⟨lw_p3, List.forall_mem_cons.mpr ⟨lw_p4, List.forall_mem_cons.mpr ⟨lw_p5, List.forall_mem_cons.mpr ⟨lw_p6, List.forall_mem_cons.mpr ⟨lw_p7, List.forall_mem_cons.mpr ⟨lw_p8, List.forall_mem_cons.mpr ⟨lw_p9, List.forall_mem_cons.mpr ⟨lw_p10, List.forall_mem_cons.mpr ⟨lw_p11, List.forall_mem_cons.mpr ⟨lw_p12, List.forall_mem_cons.mpr ⟨lw_p13, List.forall_mem_cons.mpr ⟨lw_p14, List.forall_mem_cons.mpr ⟨lw_p15, fun _ h => absurd h List.not_mem_nil⟩⟩⟩⟩⟩⟩⟩⟩⟩⟩⟩⟩⟩⟩⟩⟩
theorem lw_p16 : lw_okq (⟨"FlockPassModel", "grows", "(I)V"⟩, 45) := ⟨⟨by decide +kernel, by decide +kernel⟩, List.mem_of_getElem? (i := 623) (by decide +kernel), List.mem_of_getElem? (i := 818) (by decide +kernel), List.mem_of_getElem? (i := 819) (by decide +kernel)⟩
theorem lw_p17 : lw_okq (⟨"FlockPassModel", "ups", "(I)I"⟩, 45) := ⟨⟨by decide +kernel, by decide +kernel⟩, List.mem_of_getElem? (i := 623) (by decide +kernel), List.mem_of_getElem? (i := 822) (by decide +kernel), List.mem_of_getElem? (i := 823) (by decide +kernel)⟩
theorem lw_p18 : lw_okq (⟨"FlockPassModel", "asks", "(III)Z"⟩, 45) := ⟨⟨by decide +kernel, by decide +kernel⟩, List.mem_of_getElem? (i := 623) (by decide +kernel), List.mem_of_getElem? (i := 826) (by decide +kernel), List.mem_of_getElem? (i := 827) (by decide +kernel)⟩
theorem lw_p19 : lw_okq (⟨"FlockPassModel", "fitsAct", "(I)Z"⟩, 45) := ⟨⟨by decide +kernel, by decide +kernel⟩, List.mem_of_getElem? (i := 623) (by decide +kernel), List.mem_of_getElem? (i := 830) (by decide +kernel), List.mem_of_getElem? (i := 831) (by decide +kernel)⟩
theorem lw_p20 : lw_okq (⟨"FlockPassModel", "does", "(I)V"⟩, 45) := ⟨⟨by decide +kernel, by decide +kernel⟩, List.mem_of_getElem? (i := 623) (by decide +kernel), List.mem_of_getElem? (i := 834) (by decide +kernel), List.mem_of_getElem? (i := 835) (by decide +kernel)⟩
theorem lw_p21 : lw_okq (⟨"FlockPassModel", "eats", "(II)I"⟩, 45) := ⟨⟨by decide +kernel, by decide +kernel⟩, List.mem_of_getElem? (i := 623) (by decide +kernel), List.mem_of_getElem? (i := 838) (by decide +kernel), List.mem_of_getElem? (i := 839) (by decide +kernel)⟩
theorem lw_p22 : lw_okq (⟨"FlockPassModel", "lays", "(II)Z"⟩, 45) := ⟨⟨by decide +kernel, by decide +kernel⟩, List.mem_of_getElem? (i := 623) (by decide +kernel), List.mem_of_getElem? (i := 846) (by decide +kernel), List.mem_of_getElem? (i := 847) (by decide +kernel)⟩
theorem lw_p23 : lw_okq (⟨"FlockPassModel", "isLess", "(I)Z"⟩, 45) := ⟨⟨by decide +kernel, by decide +kernel⟩, List.mem_of_getElem? (i := 623) (by decide +kernel), List.mem_of_getElem? (i := 850) (by decide +kernel), List.mem_of_getElem? (i := 851) (by decide +kernel)⟩
theorem lw_p24 : lw_okq (⟨"FlockPassModel", "isSheep", "(I)Z"⟩, 45) := ⟨⟨by decide +kernel, by decide +kernel⟩, List.mem_of_getElem? (i := 623) (by decide +kernel), List.mem_of_getElem? (i := 866) (by decide +kernel), List.mem_of_getElem? (i := 867) (by decide +kernel)⟩
theorem lw_p25 : lw_okq (⟨"FlockPassModel", "isKnowing", "(I)Z"⟩, 45) := ⟨⟨by decide +kernel, by decide +kernel⟩, List.mem_of_getElem? (i := 623) (by decide +kernel), List.mem_of_getElem? (i := 878) (by decide +kernel), List.mem_of_getElem? (i := 879) (by decide +kernel)⟩
theorem lw_p26 : lw_okq (⟨"FlockPassModel", "creditOf", "(II)I"⟩, 45) := ⟨⟨by decide +kernel, by decide +kernel⟩, List.mem_of_getElem? (i := 623) (by decide +kernel), List.mem_of_getElem? (i := 894) (by decide +kernel), List.mem_of_getElem? (i := 895) (by decide +kernel)⟩
theorem lw_p27 : lw_okq (⟨"FlockPassModel", "reckons", "(I)V"⟩, 45) := ⟨⟨by decide +kernel, by decide +kernel⟩, List.mem_of_getElem? (i := 623) (by decide +kernel), List.mem_of_getElem? (i := 902) (by decide +kernel), List.mem_of_getElem? (i := 903) (by decide +kernel)⟩
theorem lw_p28 : lw_okq (⟨"FlockPassModel", "all", "()J"⟩, 45) := ⟨⟨by decide +kernel, by decide +kernel⟩, List.mem_of_getElem? (i := 623) (by decide +kernel), List.mem_of_getElem? (i := 910) (by decide +kernel), List.mem_of_getElem? (i := 911) (by decide +kernel)⟩
theorem lw_p29 : lw_okq (⟨"FlockPassModel", "gives", "(II)V"⟩, 45) := ⟨⟨by decide +kernel, by decide +kernel⟩, List.mem_of_getElem? (i := 623) (by decide +kernel), List.mem_of_getElem? (i := 914) (by decide +kernel), List.mem_of_getElem? (i := 915) (by decide +kernel)⟩
theorem lw_p30 : lw_okq (⟨"FlockPassModel", "endsTurn", "(I)V"⟩, 45) := ⟨⟨by decide +kernel, by decide +kernel⟩, List.mem_of_getElem? (i := 623) (by decide +kernel), List.mem_of_getElem? (i := 920) (by decide +kernel), List.mem_of_getElem? (i := 921) (by decide +kernel)⟩
theorem lw_p31 : lw_okq (⟨"FlockPassModel", "pays", "(J)V"⟩, 45) := ⟨⟨by decide +kernel, by decide +kernel⟩, List.mem_of_getElem? (i := 623) (by decide +kernel), List.mem_of_getElem? (i := 924) (by decide +kernel), List.mem_of_getElem? (i := 925) (by decide +kernel)⟩
def lw_privs_2 : List (MethodName × Nat) := [(⟨"FlockPassModel", "grows", "(I)V"⟩, 45), (⟨"FlockPassModel", "ups", "(I)I"⟩, 45), (⟨"FlockPassModel", "asks", "(III)Z"⟩, 45), (⟨"FlockPassModel", "fitsAct", "(I)Z"⟩, 45), (⟨"FlockPassModel", "does", "(I)V"⟩, 45), (⟨"FlockPassModel", "eats", "(II)I"⟩, 45), (⟨"FlockPassModel", "lays", "(II)Z"⟩, 45), (⟨"FlockPassModel", "isLess", "(I)Z"⟩, 45), (⟨"FlockPassModel", "isSheep", "(I)Z"⟩, 45), (⟨"FlockPassModel", "isKnowing", "(I)Z"⟩, 45), (⟨"FlockPassModel", "creditOf", "(II)I"⟩, 45), (⟨"FlockPassModel", "reckons", "(I)V"⟩, 45), (⟨"FlockPassModel", "all", "()J"⟩, 45), (⟨"FlockPassModel", "gives", "(II)V"⟩, 45), (⟨"FlockPassModel", "endsTurn", "(I)V"⟩, 45), (⟨"FlockPassModel", "pays", "(J)V"⟩, 45)]
theorem lw_r2 : ∀ q ∈ lw_privs_2, lw_okq q := List.forall_mem_cons.mpr ⟨lw_p16, List.forall_mem_cons.mpr ⟨lw_p17, List.forall_mem_cons.mpr ⟨lw_p18, List.forall_mem_cons.mpr ⟨lw_p19, List.forall_mem_cons.mpr ⟨lw_p20, List.forall_mem_cons.mpr ⟨lw_p21, List.forall_mem_cons.mpr ⟨lw_p22, List.forall_mem_cons.mpr ⟨lw_p23, List.forall_mem_cons.mpr ⟨lw_p24, List.forall_mem_cons.mpr ⟨lw_p25, List.forall_mem_cons.mpr ⟨lw_p26, List.forall_mem_cons.mpr ⟨lw_p27, List.forall_mem_cons.mpr ⟨lw_p28, List.forall_mem_cons.mpr ⟨lw_p29, List.forall_mem_cons.mpr ⟨lw_p30, List.forall_mem_cons.mpr ⟨lw_p31, fun _ h => absurd h List.not_mem_nil⟩⟩⟩⟩⟩⟩⟩⟩⟩⟩⟩⟩⟩⟩⟩⟩
theorem lw_p32 : lw_okq (⟨"FlockPassModel", "wasUp", "(I)Z"⟩, 45) := ⟨⟨by decide +kernel, by decide +kernel⟩, List.mem_of_getElem? (i := 623) (by decide +kernel), List.mem_of_getElem? (i := 928) (by decide +kernel), List.mem_of_getElem? (i := 929) (by decide +kernel)⟩
theorem lw_p33 : lw_okq (⟨"FlockPassModel", "begins", "()V"⟩, 45) := ⟨⟨by decide +kernel, by decide +kernel⟩, List.mem_of_getElem? (i := 623) (by decide +kernel), List.mem_of_getElem? (i := 932) (by decide +kernel), List.mem_of_getElem? (i := 933) (by decide +kernel)⟩
theorem lw_p34 : lw_okq (⟨"FlockPassModel", "herd", "(I)I"⟩, 45) := ⟨⟨by decide +kernel, by decide +kernel⟩, List.mem_of_getElem? (i := 623) (by decide +kernel), List.mem_of_getElem? (i := 945) (by decide +kernel), List.mem_of_getElem? (i := 946) (by decide +kernel)⟩
def lw_privs_3 : List (MethodName × Nat) := [(⟨"FlockPassModel", "wasUp", "(I)Z"⟩, 45), (⟨"FlockPassModel", "begins", "()V"⟩, 45), (⟨"FlockPassModel", "herd", "(I)I"⟩, 45)]
theorem lw_r3 : ∀ q ∈ lw_privs_3, lw_okq q := List.forall_mem_cons.mpr ⟨lw_p32, List.forall_mem_cons.mpr ⟨lw_p33, List.forall_mem_cons.mpr ⟨lw_p34, fun _ h => absurd h List.not_mem_nil⟩⟩⟩
def lw_privs : List (MethodName × Nat) := lw_privs_1 ++ (lw_privs_2 ++ (lw_privs_3))
def lw_tbl : List Cond := k2_sels lw_privs ++ tables_1
theorem lw_privs_ok : ∀ q ∈ lw_privs, lw_okq q := by
  show ∀ q ∈ lw_privs_1 ++ (lw_privs_2 ++ (lw_privs_3)), lw_okq q
  exact List.forall_mem_append.mpr ⟨lw_r1, List.forall_mem_append.mpr ⟨lw_r2, lw_r3⟩⟩
-- ===== end of PART A; then your names; then what follows =====
end
section
theorem goodIn_r {big : List Cond} (ws : List Cond) (ps : List Nat) (hp : ws = ps.filterMap (fun i => big[i]?)) (h : ws.all goodWord = true) : GoodIn big ws := by
  intro w hw
  have h1 := List.all_eq_true.mp h w hw
  rw [hp] at hw
  obtain ⟨i, -, hi⟩ := List.mem_filterMap.mp hw
  have hm : w ∈ big := by first | exact List.mem_of_getElem? hi | exact List.getElem?_mem hi
  exact ⟨hm, good_of_word h1⟩
theorem goodIn_app {big a b : List Cond} (ha : GoodIn big a) (hb : GoodIn big b) : GoodIn big (a ++ b) := fun w h => (List.mem_append.mp h).elim (ha w) (hb w)
theorem goodIn_ca {big a b : List Cond} {c : Cond} (ha : GoodIn big (c :: a)) (hb : GoodIn big b) : GoodIn big (c :: (a ++ b)) := fun w h => (List.mem_cons.mp h).elim (fun e => ha w (List.mem_cons.mpr (Or.inl e))) (fun h => (List.mem_append.mp h).elim (fun h => ha w (List.mem_cons.mpr (Or.inr h))) (hb w))
theorem goodIn_sub {big ws : List Cond} (hm : ∀ w ∈ ws, w ∈ big) (h : ws.all goodWord = true) : GoodIn big ws := fun w hw => ⟨hm w hw, good_of_word (List.all_eq_true.mp h w hw)⟩
def RX0 : String := "FlockPass$Dairy"
def TX0 : u_T := fun k => match k with
  | 0 => ("FlockPass$Dairy", "milkOf", "[I", true)
  | 1 => ("FlockPass$Dairy", "partOf", "[I", true)
  | _ => ("FlockPass$Dairy", "milkingDay", "I", false)
def tyX0 : Nat → FieldType := fun k => match k with
  | 0 => .array .int
  | 1 => .array .int
  | _ => .int
abbrev wsX00 : List Cond := u_ws RX0 TX0 3
theorem nmX0 : ∀ a, a < 3 → ∀ b, b < 3 → a ≠ b → (TX0 a).2.1 ≠ (TX0 b).2.1 := by decide +kernel
theorem tyX0_ok : ∀ k, k < 3 → parseFieldDescriptor (TX0 k).2.2.1 = some (tyX0 k) := by decide +kernel
abbrev cX0_init : ByteArray := prog_2_method_1_code
def yX0_init : MethodName := ⟨RX0, "<init>", "()V"⟩
abbrev cX0_beginYear : ByteArray := prog_2_method_2_code
def yX0_beginYear : MethodName := ⟨RX0, "beginYear", "()V"⟩
abbrev cX0_creditOf : ByteArray := prog_2_method_3_code
def yX0_creditOf : MethodName := ⟨RX0, "creditOf", "(LFlockPass$Register;LFlockPass$RuleBook;LFlockPass$Trace;III)I"⟩
abbrev cX0_shareOut : ByteArray := prog_2_method_4_code
def yX0_shareOut : MethodName := ⟨RX0, "shareOut", "(LFlockPass$Register;LFlockPass$RuleBook;LFlockPass$Trace;II)V"⟩
abbrev cX0_divide : ByteArray := prog_2_method_5_code
def yX0_divide : MethodName := ⟨RX0, "divide", "(ILFlockPass$Trace;I)V"⟩
def RX1 : String := "FlockPass$Ledger"
def TX1 : u_T := fun k => match k with
  | 0 => ("FlockPass$Ledger", "cheesesOf", "[J", true)
  | 1 => ("FlockPass$Ledger", "latestOf", "[I", true)
  | 2 => ("FlockPass$Ledger", "balanceOf", "[J", true)
  | 3 => ("FlockPass$Ledger", "moneyOf", "[J", true)
  | 4 => ("FlockPass$Ledger", "ownPaid", "J", false)
  | 5 => ("FlockPass$Ledger", "turn", "[I", true)
  | _ => ("FlockPass$Ledger", "paidOut", "J", false)
def tyX1 : Nat → FieldType := fun k => match k with
  | 0 => .array .long
  | 1 => .array .int
  | 2 => .array .long
  | 3 => .array .long
  | 4 => .long
  | 5 => .array .int
  | _ => .long
abbrev wsX10 : List Cond := u_ws RX1 TX1 7
theorem nmX1 : ∀ a, a < 7 → ∀ b, b < 7 → a ≠ b → (TX1 a).2.1 ≠ (TX1 b).2.1 := by decide +kernel
theorem tyX1_ok : ∀ k, k < 7 → parseFieldDescriptor (TX1 k).2.2.1 = some (tyX1 k) := by decide +kernel
abbrev cX1_init : ByteArray := prog_3_method_1_code
def yX1_init : MethodName := ⟨RX1, "<init>", "()V"⟩
abbrev cX1_placeOf : ByteArray := prog_3_method_2_code
def yX1_placeOf : MethodName := ⟨RX1, "placeOf", "(I)I"⟩
abbrev cX1_partCheeses : ByteArray := prog_3_method_3_code
def yX1_partCheeses : MethodName := ⟨RX1, "partCheeses", "([II)I"⟩
abbrev cX1_takeTurn : ByteArray := prog_3_method_4_code
def yX1_takeTurn : MethodName := ⟨RX1, "takeTurn", "([I)I"⟩
abbrev cX1_oweWork : ByteArray := prog_3_method_5_code
def yX1_oweWork : MethodName := ⟨RX1, "oweWork", "([II)V"⟩
abbrev cX1_payLosses : ByteArray := prog_3_method_6_code
def yX1_payLosses : MethodName := ⟨RX1, "payLosses", "(LFlockPass$Register;LFlockPass$Trace;II)V"⟩
abbrev cX1_payIn : ByteArray := prog_3_method_7_code
def yX1_payIn : MethodName := ⟨RX1, "payIn", "([I)V"⟩
abbrev cX1_shareOf : ByteArray := prog_3_method_8_code
def yX1_shareOf : MethodName := ⟨RX1, "shareOf", "(JI[I)J"⟩
def RX2 : String := "FlockPass$Pasture"
def TX2 : u_T := fun k => match k with
  | 0 => ("FlockPass$Pasture", "grassOf", "[I", true)
  | 1 => ("FlockPass$Pasture", "mostOf", "[I", true)
  | 2 => ("FlockPass$Pasture", "growthOf", "[I", true)
  | 3 => ("FlockPass$Pasture", "heights", "I", false)
  | 4 => ("FlockPass$Pasture", "snow", "I", false)
  | 5 => ("FlockPass$Pasture", "flockAt", "I", false)
  | 6 => ("FlockPass$Pasture", "hunger", "I", false)
  | _ => ("FlockPass$Pasture", "eaten", "J", false)
def tyX2 : Nat → FieldType := fun k => match k with
  | 0 => .array .int
  | 1 => .array .int
  | 2 => .array .int
  | 3 => .int
  | 4 => .int
  | 5 => .int
  | 6 => .int
  | _ => .long
abbrev wsX20 : List Cond := u_ws RX2 TX2 8
theorem nmX2 : ∀ a, a < 8 → ∀ b, b < 8 → a ≠ b → (TX2 a).2.1 ≠ (TX2 b).2.1 := by decide +kernel
theorem tyX2_ok : ∀ k, k < 8 → parseFieldDescriptor (TX2 k).2.2.1 = some (tyX2 k) := by decide +kernel
abbrev cX2_init : ByteArray := prog_4_method_1_code
def yX2_init : MethodName := ⟨RX2, "<init>", "()V"⟩
abbrev cX2_makeHeights : ByteArray := prog_4_method_2_code
def yX2_makeHeights : MethodName := ⟨RX2, "makeHeights", "(I)V"⟩
abbrev cX2_has : ByteArray := prog_4_method_3_code
def yX2_has : MethodName := ⟨RX2, "has", "(I)Z"⟩
abbrev cX2_isOpen : ByteArray := prog_4_method_4_code
def yX2_isOpen : MethodName := ⟨RX2, "isOpen", "()Z"⟩
abbrev cX2_canReach : ByteArray := prog_4_method_5_code
def yX2_canReach : MethodName := ⟨RX2, "canReach", "(I)Z"⟩
abbrev cX2_passDay : ByteArray := prog_4_method_6_code
def yX2_passDay : MethodName := ⟨RX2, "passDay", "(III)V"⟩
abbrev cX2_graze : ByteArray := prog_4_method_7_code
def yX2_graze : MethodName := ⟨RX2, "graze", "(I)V"⟩
abbrev cX2_gainOn : ByteArray := prog_4_method_8_code
def yX2_gainOn : MethodName := ⟨RX2, "gainOn", "(II)I"⟩
abbrev cX2_grown : ByteArray := prog_4_method_9_code
def yX2_grown : MethodName := ⟨RX2, "grown", "(III)I"⟩
def RX3 : String := "FlockPass$Planner"
def TX3 : u_T := fun k => match k with
  | 0 => ("FlockPass$Planner", "bestPath", "[I", true)
  | 1 => ("FlockPass$Planner", "length", "I", false)
  | 2 => ("FlockPass$Planner", "path", "[I", true)
  | 3 => ("FlockPass$Planner", "rows", "[I", true)
  | 4 => ("FlockPass$Planner", "mostOf", "[I", true)
  | 5 => ("FlockPass$Planner", "gainOf", "[I", true)
  | 6 => ("FlockPass$Planner", "heights", "I", false)
  | 7 => ("FlockPass$Planner", "wanted", "I", false)
  | 8 => ("FlockPass$Planner", "bestHunger", "I", false)
  | _ => ("FlockPass$Planner", "bestGrass", "I", false)
def tyX3 : Nat → FieldType := fun k => match k with
  | 0 => .array .int
  | 1 => .int
  | 2 => .array .int
  | 3 => .array .int
  | 4 => .array .int
  | 5 => .array .int
  | 6 => .int
  | 7 => .int
  | 8 => .int
  | _ => .int
abbrev wsX30 : List Cond := u_ws RX3 TX3 10
theorem nmX3 : ∀ a, a < 10 → ∀ b, b < 10 → a ≠ b → (TX3 a).2.1 ≠ (TX3 b).2.1 := by decide +kernel
theorem tyX3_ok : ∀ k, k < 10 → parseFieldDescriptor (TX3 k).2.2.1 = some (tyX3 k) := by decide +kernel
abbrev cX3_init : ByteArray := prog_5_method_1_code
def yX3_init : MethodName := ⟨RX3, "<init>", "()V"⟩
abbrev cX3_findBest : ByteArray := prog_5_method_2_code
def yX3_findBest : MethodName := ⟨RX3, "findBest", "(LFlockPass$Pasture;III)I"⟩
abbrev cX3_explore : ByteArray := prog_5_method_3_code
def yX3_explore : MethodName := ⟨RX3, "explore", "(LFlockPass$Planner;III)V"⟩
abbrev cX3_passDay : ByteArray := prog_5_method_4_code
def yX3_passDay : MethodName := ⟨RX3, "passDay", "(II)I"⟩
abbrev cX3_judge : ByteArray := prog_5_method_5_code
def yX3_judge : MethodName := ⟨RX3, "judge", "(I)V"⟩
def RX4 : String := "FlockPass$Register"
def TX4 : u_T := fun k => match k with
  | 0 => ("FlockPass$Register", "firstOwnerOf", "[I", true)
  | 1 => ("FlockPass$Register", "gone", "[Z", true)
  | 2 => ("FlockPass$Register", "size", "I", false)
  | 3 => ("FlockPass$Register", "actOf", "[I", true)
  | 4 => ("FlockPass$Register", "sheepOf", "[I", true)
  | 5 => ("FlockPass$Register", "dayOf", "[I", true)
  | 6 => ("FlockPass$Register", "buyerOf", "[I", true)
  | 7 => ("FlockPass$Register", "order", "[I", true)
  | _ => ("FlockPass$Register", "entries", "I", false)
def tyX4 : Nat → FieldType := fun k => match k with
  | 0 => .array .int
  | 1 => .array .boolean
  | 2 => .int
  | 3 => .array .int
  | 4 => .array .int
  | 5 => .array .int
  | 6 => .array .int
  | 7 => .array .int
  | _ => .int
abbrev wsX40 : List Cond := u_ws RX4 TX4 9
theorem nmX4 : ∀ a, a < 9 → ∀ b, b < 9 → a ≠ b → (TX4 a).2.1 ≠ (TX4 b).2.1 := by decide +kernel
theorem tyX4_ok : ∀ k, k < 9 → parseFieldDescriptor (TX4 k).2.2.1 = some (tyX4 k) := by decide +kernel
abbrev cX4_init : ByteArray := prog_6_method_1_code
def yX4_init : MethodName := ⟨RX4, "<init>", "()V"⟩
abbrev cX4_has : ByteArray := prog_6_method_2_code
def yX4_has : MethodName := ⟨RX4, "has", "(I)Z"⟩
abbrev cX4_isKnowing : ByteArray := prog_6_method_3_code
def yX4_isKnowing : MethodName := ⟨RX4, "isKnowing", "(I)Z"⟩
abbrev cX4_add : ByteArray := prog_6_method_4_code
def yX4_add : MethodName := ⟨RX4, "add", "(I)I"⟩
abbrev cX4_enter : ByteArray := prog_6_method_5_code
def yX4_enter : MethodName := ⟨RX4, "enter", "(IIIILFlockPass$Trace;)I"⟩
abbrev cX4_putInOrder : ByteArray := prog_6_method_6_code
def yX4_putInOrder : MethodName := ⟨RX4, "putInOrder", "(I)I"⟩
abbrev cX4_takeBack : ByteArray := prog_6_method_7_code
def yX4_takeBack : MethodName := ⟨RX4, "takeBack", "(I)V"⟩
abbrev cX4_upOn : ByteArray := prog_6_method_8_code
def yX4_upOn : MethodName := ⟨RX4, "upOn", "(I)I"⟩
abbrev cX4_livingOf : ByteArray := prog_6_method_9_code
def yX4_livingOf : MethodName := ⟨RX4, "livingOf", "(IILFlockPass$Trace;)I"⟩
abbrev cX4_beginYear : ByteArray := prog_6_method_10_code
def yX4_beginYear : MethodName := ⟨RX4, "beginYear", "(ILFlockPass$Trace;)V"⟩
def RX5 : String := "FlockPass$RuleBook"
def TX5 : u_T := fun k => match k with
  | 0 => ("FlockPass$RuleBook", "numbers", "[I", true)
  | _ => ("FlockPass$RuleBook", "draft", "[I", true)
def tyX5 : Nat → FieldType := fun k => match k with
  | 0 => .array .int
  | _ => .array .int
abbrev wsX50 : List Cond := u_ws RX5 TX5 2
theorem nmX5 : ∀ a, a < 2 → ∀ b, b < 2 → a ≠ b → (TX5 a).2.1 ≠ (TX5 b).2.1 := by decide +kernel
theorem tyX5_ok : ∀ k, k < 2 → parseFieldDescriptor (TX5 k).2.2.1 = some (tyX5 k) := by decide +kernel
abbrev cX5_init : ByteArray := prog_7_method_1_code
def yX5_init : MethodName := ⟨RX5, "<init>", "()V"⟩
abbrev cX5_read : ByteArray := prog_7_method_2_code
def yX5_read : MethodName := ⟨RX5, "read", "(LFlockPass$Tape;I)I"⟩
abbrev cX5_setFirst : ByteArray := prog_7_method_3_code
def yX5_setFirst : MethodName := ⟨RX5, "setFirst", "([I)V"⟩
abbrev cX5_fault : ByteArray := prog_7_method_4_code
def yX5_fault : MethodName := ⟨RX5, "fault", "(II)I"⟩
abbrev cX5_letterOf : ByteArray := prog_7_method_5_code
def yX5_letterOf : MethodName := ⟨RX5, "letterOf", "(I)I"⟩
abbrev cX5_isDigit : ByteArray := prog_7_method_6_code
def yX5_isDigit : MethodName := ⟨RX5, "isDigit", "(I)Z"⟩
abbrev cX5_digitsEnd : ByteArray := prog_7_method_7_code
def yX5_digitsEnd : MethodName := ⟨RX5, "digitsEnd", "(LFlockPass$Tape;II)I"⟩
abbrev cX5_numberAt : ByteArray := prog_7_method_8_code
def yX5_numberAt : MethodName := ⟨RX5, "numberAt", "(LFlockPass$Tape;II)I"⟩
def RX6 : String := "FlockPass$Tape"
def TX6 : u_T := fun k => match k with
  | 0 => ("FlockPass$Tape", "bytes", "[I", true)
  | _ => ("FlockPass$Tape", "size", "I", false)
def tyX6 : Nat → FieldType := fun k => match k with
  | 0 => .array .int
  | _ => .int
abbrev wsX60 : List Cond := u_ws RX6 TX6 2
theorem nmX6 : ∀ a, a < 2 → ∀ b, b < 2 → a ≠ b → (TX6 a).2.1 ≠ (TX6 b).2.1 := by decide +kernel
theorem tyX6_ok : ∀ k, k < 2 → parseFieldDescriptor (TX6 k).2.2.1 = some (tyX6 k) := by decide +kernel
abbrev cX6_init : ByteArray := prog_8_method_1_code
def yX6_init : MethodName := ⟨RX6, "<init>", "()V"⟩
abbrev cX6_append : ByteArray := prog_8_method_2_code
def yX6_append : MethodName := ⟨RX6, "append", "(I)V"⟩
def RX7 : String := "FlockPass$Trace"
def TX7 : u_T := fun k => match k with
  | 0 => ("FlockPass$Trace", "owner", "I", false)
  | 1 => ("FlockPass$Trace", "up", "Z", false)
  | 2 => ("FlockPass$Trace", "dead", "Z", false)
  | 3 => ("FlockPass$Trace", "daysUp", "I", false)
  | 4 => ("FlockPass$Trace", "daysHad", "[I", true)
  | _ => ("FlockPass$Trace", "firstUntold", "I", false)
def tyX7 : Nat → FieldType := fun k => match k with
  | 0 => .int
  | 1 => .boolean
  | 2 => .boolean
  | 3 => .int
  | 4 => .array .int
  | _ => .int
abbrev wsX70 : List Cond := u_ws RX7 TX7 6
theorem nmX7 : ∀ a, a < 6 → ∀ b, b < 6 → a ≠ b → (TX7 a).2.1 ≠ (TX7 b).2.1 := by decide +kernel
theorem tyX7_ok : ∀ k, k < 6 → parseFieldDescriptor (TX7 k).2.2.1 = some (tyX7 k) := by decide +kernel
abbrev cX7_init : ByteArray := prog_9_method_1_code
def yX7_init : MethodName := ⟨RX7, "<init>", "()V"⟩
abbrev cX7_replay : ByteArray := prog_9_method_2_code
def yX7_replay : MethodName := ⟨RX7, "replay", "(LFlockPass$Register;III)Z"⟩
abbrev cX7_begin : ByteArray := prog_9_method_3_code
def yX7_begin : MethodName := ⟨RX7, "begin", "(IZ)V"⟩
abbrev cX7_fits : ByteArray := prog_9_method_4_code
def yX7_fits : MethodName := ⟨RX7, "fits", "(II)Z"⟩
abbrev cX7_follow : ByteArray := prog_9_method_5_code
def yX7_follow : MethodName := ⟨RX7, "follow", "(II)V"⟩
abbrev cX7_tallyBefore : ByteArray := prog_9_method_6_code
def yX7_tallyBefore : MethodName := ⟨RX7, "tallyBefore", "(I)V"⟩
def RX8 : String := "FlockPass"
def TX8 : u_T := fun k => match k with
  | 0 => ("FlockPass", "tape", "LFlockPass$Tape;", true)
  | 1 => ("FlockPass", "book", "LFlockPass$RuleBook;", true)
  | 2 => ("FlockPass", "pasture", "LFlockPass$Pasture;", true)
  | 3 => ("FlockPass", "planner", "LFlockPass$Planner;", true)
  | 4 => ("FlockPass", "register", "LFlockPass$Register;", true)
  | 5 => ("FlockPass", "trace", "LFlockPass$Trace;", true)
  | 6 => ("FlockPass", "dairy", "LFlockPass$Dairy;", true)
  | 7 => ("FlockPass", "ledger", "LFlockPass$Ledger;", true)
  | 8 => ("FlockPass", "year", "I", false)
  | _ => ("FlockPass", "today", "I", false)
def tyX8 : Nat → FieldType := fun k => match k with
  | 0 => .object "FlockPass$Tape"
  | 1 => .object "FlockPass$RuleBook"
  | 2 => .object "FlockPass$Pasture"
  | 3 => .object "FlockPass$Planner"
  | 4 => .object "FlockPass$Register"
  | 5 => .object "FlockPass$Trace"
  | 6 => .object "FlockPass$Dairy"
  | 7 => .object "FlockPass$Ledger"
  | 8 => .int
  | _ => .int
abbrev wsX80 : List Cond := u_ws RX8 TX8 10
theorem nmX8 : ∀ a, a < 10 → ∀ b, b < 10 → a ≠ b → (TX8 a).2.1 ≠ (TX8 b).2.1 := by decide +kernel
theorem tyX8_ok : ∀ k, k < 10 → parseFieldDescriptor (TX8 k).2.2.1 = some (tyX8 k) := by decide +kernel
abbrev cX8_init : ByteArray := prog_1_method_1_code
def yX8_init : MethodName := ⟨RX8, "<init>", "()V"⟩
abbrev cX8_feed : ByteArray := prog_1_method_2_code
def yX8_feed : MethodName := ⟨RX8, "feed", "(IIIII)I"⟩
abbrev cX8_rules : ByteArray := prog_1_method_3_code
def yX8_rules : MethodName := ⟨RX8, "rules", "(I)I"⟩
abbrev cX8_alp : ByteArray := prog_1_method_4_code
def yX8_alp : MethodName := ⟨RX8, "alp", "(I)Z"⟩
abbrev cX8_height : ByteArray := prog_1_method_5_code
def yX8_height : MethodName := ⟨RX8, "height", "(IIII)Z"⟩
abbrev cX8_sheep : ByteArray := prog_1_method_6_code
def yX8_sheep : MethodName := ⟨RX8, "sheep", "(I)I"⟩
abbrev cX8_move : ByteArray := prog_1_method_7_code
def yX8_move : MethodName := ⟨RX8, "move", "(I)Z"⟩
abbrev cX8_day : ByteArray := prog_1_method_8_code
def yX8_day : MethodName := ⟨RX8, "day", "(II)I"⟩
abbrev cX8_act : ByteArray := prog_1_method_9_code
def yX8_act : MethodName := ⟨RX8, "act", "(IIII)I"⟩
abbrev cX8_milking : ByteArray := prog_1_method_10_code
def yX8_milking : MethodName := ⟨RX8, "milking", "(I)Z"⟩
abbrev cX8_milk : ByteArray := prog_1_method_11_code
def yX8_milk : MethodName := ⟨RX8, "milk", "(II)Z"⟩
abbrev cX8_close : ByteArray := prog_1_method_12_code
def yX8_close : MethodName := ⟨RX8, "close", "(I)I"⟩
abbrev cX8_work : ByteArray := prog_1_method_13_code
def yX8_work : MethodName := ⟨RX8, "work", "(II)Z"⟩
abbrev cX8_look : ByteArray := prog_1_method_14_code
def yX8_look : MethodName := ⟨RX8, "look", "(IIII)I"⟩
abbrev cX8_credit : ByteArray := prog_1_method_15_code
def yX8_credit : MethodName := ⟨RX8, "credit", "(II)I"⟩
abbrev cX8_part : ByteArray := prog_1_method_16_code
def yX8_part : MethodName := ⟨RX8, "part", "(II)I"⟩
abbrev cX8_way : ByteArray := prog_1_method_17_code
def yX8_way : MethodName := ⟨RX8, "way", "(II)I"⟩
abbrev cX8_step : ByteArray := prog_1_method_18_code
def yX8_step : MethodName := ⟨RX8, "step", "(I)I"⟩
abbrev cX8_grass : ByteArray := prog_1_method_19_code
def yX8_grass : MethodName := ⟨RX8, "grass", "(II)I"⟩
abbrev cX8_told : ByteArray := prog_1_method_20_code
def yX8_told : MethodName := ⟨RX8, "told", "(II)J"⟩
abbrev cX8_entry : ByteArray := prog_1_method_21_code
def yX8_entry : MethodName := ⟨RX8, "entry", "(II)I"⟩
abbrev cX8_rule : ByteArray := prog_1_method_22_code
def yX8_rule : MethodName := ⟨RX8, "rule", "(I)I"⟩
abbrev cX8_count : ByteArray := prog_1_method_23_code
def yX8_count : MethodName := ⟨RX8, "count", "(I)J"⟩
abbrev cX8_beginNextYear : ByteArray := prog_1_method_24_code
def yX8_beginNextYear : MethodName := ⟨RX8, "beginNextYear", "()V"⟩
abbrev cX8_within : ByteArray := prog_1_method_25_code
def yX8_within : MethodName := ⟨RX8, "within", "(III)Z"⟩
abbrev cX8_isOwner : ByteArray := prog_1_method_26_code
def yX8_isOwner : MethodName := ⟨RX8, "isOwner", "(I)Z"⟩
abbrev cX8_isWarmth : ByteArray := prog_1_method_27_code
def yX8_isWarmth : MethodName := ⟨RX8, "isWarmth", "(I)Z"⟩
def RX9 : String := "FlockPassModel"
def TX9 : u_T := fun k => match k with
  | 0 => ("FlockPassModel", "tape", "[B", true)
  | 1 => ("FlockPassModel", "taped", "I", false)
  | 2 => ("FlockPassModel", "fault", "I", false)
  | 3 => ("FlockPassModel", "ruleL", "I", false)
  | 4 => ("FlockPassModel", "ruleM", "I", false)
  | 5 => ("FlockPassModel", "ruleW", "I", false)
  | 6 => ("FlockPassModel", "ruleV", "I", false)
  | 7 => ("FlockPassModel", "said", "[I", true)
  | 8 => ("FlockPassModel", "heights", "I", false)
  | 9 => ("FlockPassModel", "flock", "I", false)
  | 10 => ("FlockPassModel", "snow", "I", false)
  | 11 => ("FlockPassModel", "year", "I", false)
  | 12 => ("FlockPassModel", "days", "I", false)
  | 13 => ("FlockPassModel", "hunger", "I", false)
  | 14 => ("FlockPassModel", "grass", "[I", true)
  | 15 => ("FlockPassModel", "most", "[I", true)
  | 16 => ("FlockPassModel", "growth", "[I", true)
  | 17 => ("FlockPassModel", "eaten", "J", false)
  | 18 => ("FlockPassModel", "was", "[I", true)
  | 19 => ("FlockPassModel", "way", "[I", true)
  | 20 => ("FlockPassModel", "bestWay", "[I", true)
  | 21 => ("FlockPassModel", "ways", "I", false)
  | 22 => ("FlockPassModel", "bestHunger", "I", false)
  | 23 => ("FlockPassModel", "bestGrass", "I", false)
  | 24 => ("FlockPassModel", "sheep", "I", false)
  | 25 => ("FlockPassModel", "entries", "I", false)
  | 26 => ("FlockPassModel", "milkingDay", "I", false)
  | 27 => ("FlockPassModel", "owner", "[I", true)
  | 28 => ("FlockPassModel", "milk", "[I", true)
  | 29 => ("FlockPassModel", "wasDead", "[Z", true)
  | 30 => ("FlockPassModel", "what", "[I", true)
  | 31 => ("FlockPassModel", "of", "[I", true)
  | 32 => ("FlockPassModel", "on", "[I", true)
  | 33 => ("FlockPassModel", "to", "[I", true)
  | 34 => ("FlockPassModel", "isUp", "Z", false)
  | 35 => ("FlockPassModel", "isDead", "Z", false)
  | 36 => ("FlockPassModel", "has", "I", false)
  | 37 => ("FlockPassModel", "daysOf", "[I", true)
  | 38 => ("FlockPassModel", "parts", "[I", true)
  | 39 => ("FlockPassModel", "turn", "[I", true)
  | 40 => ("FlockPassModel", "cheeses", "[I", true)
  | 41 => ("FlockPassModel", "latest", "[I", true)
  | 42 => ("FlockPassModel", "balance", "[J", true)
  | 43 => ("FlockPassModel", "money", "[J", true)
  | _ => ("FlockPassModel", "own", "J", false)
def tyX9 : Nat → FieldType := fun k => match k with
  | 0 => .array .byte
  | 1 => .int
  | 2 => .int
  | 3 => .int
  | 4 => .int
  | 5 => .int
  | 6 => .int
  | 7 => .array .int
  | 8 => .int
  | 9 => .int
  | 10 => .int
  | 11 => .int
  | 12 => .int
  | 13 => .int
  | 14 => .array .int
  | 15 => .array .int
  | 16 => .array .int
  | 17 => .long
  | 18 => .array .int
  | 19 => .array .int
  | 20 => .array .int
  | 21 => .int
  | 22 => .int
  | 23 => .int
  | 24 => .int
  | 25 => .int
  | 26 => .int
  | 27 => .array .int
  | 28 => .array .int
  | 29 => .array .boolean
  | 30 => .array .int
  | 31 => .array .int
  | 32 => .array .int
  | 33 => .array .int
  | 34 => .boolean
  | 35 => .boolean
  | 36 => .int
  | 37 => .array .int
  | 38 => .array .int
  | 39 => .array .int
  | 40 => .array .int
  | 41 => .array .int
  | 42 => .array .long
  | 43 => .array .long
  | _ => .long
abbrev wsX90 : List Cond := u_ws RX9 TX9 45
theorem nmX9 : ∀ a, a < 45 → ∀ b, b < 45 → a ≠ b → (TX9 a).2.1 ≠ (TX9 b).2.1 := by decide +kernel
theorem tyX9_ok : ∀ k, k < 45 → parseFieldDescriptor (TX9 k).2.2.1 = some (tyX9 k) := by decide +kernel
abbrev cX9_init : ByteArray := prog_11_method_1_code
def yX9_init : MethodName := ⟨RX9, "<init>", "()V"⟩
abbrev cX9_types : ByteArray := prog_11_method_2_code
def yX9_types : MethodName := ⟨RX9, "types", "(I)V"⟩
abbrev cX9_feed : ByteArray := prog_11_method_3_code
def yX9_feed : MethodName := ⟨RX9, "feed", "(IIIII)I"⟩
abbrev cX9_letterOf : ByteArray := prog_11_method_4_code
def yX9_letterOf : MethodName := ⟨RX9, "letterOf", "(I)I"⟩
abbrev cX9_isDigit : ByteArray := prog_11_method_5_code
def yX9_isDigit : MethodName := ⟨RX9, "isDigit", "(II)Z"⟩
abbrev cX9_parse : ByteArray := prog_11_method_6_code
def yX9_parse : MethodName := ⟨RX9, "parse", "(I)I"⟩
abbrev cX9_rules : ByteArray := prog_11_method_7_code
def yX9_rules : MethodName := ⟨RX9, "rules", "(I)I"⟩
abbrev cX9_rule : ByteArray := prog_11_method_8_code
def yX9_rule : MethodName := ⟨RX9, "rule", "(I)I"⟩
abbrev cX9_alp : ByteArray := prog_11_method_9_code
def yX9_alp : MethodName := ⟨RX9, "alp", "(I)Z"⟩
abbrev cX9_isHeight : ByteArray := prog_11_method_10_code
def yX9_isHeight : MethodName := ⟨RX9, "isHeight", "(I)Z"⟩
abbrev cX9_height : ByteArray := prog_11_method_11_code
def yX9_height : MethodName := ⟨RX9, "height", "(IIII)Z"⟩
abbrev cX9_grass : ByteArray := prog_11_method_12_code
def yX9_grass : MethodName := ⟨RX9, "grass", "(II)I"⟩
abbrev cX9_move : ByteArray := prog_11_method_13_code
def yX9_move : MethodName := ⟨RX9, "move", "(I)Z"⟩
abbrev cX9_grows : ByteArray := prog_11_method_14_code
def yX9_grows : MethodName := ⟨RX9, "grows", "(I)V"⟩
abbrev cX9_eats : ByteArray := prog_11_method_15_code
def yX9_eats : MethodName := ⟨RX9, "eats", "(II)I"⟩
abbrev cX9_day : ByteArray := prog_11_method_16_code
def yX9_day : MethodName := ⟨RX9, "day", "(II)I"⟩
abbrev cX9_lays : ByteArray := prog_11_method_17_code
def yX9_lays : MethodName := ⟨RX9, "lays", "(II)Z"⟩
abbrev cX9_isLess : ByteArray := prog_11_method_18_code
def yX9_isLess : MethodName := ⟨RX9, "isLess", "(I)Z"⟩
abbrev cX9_way : ByteArray := prog_11_method_19_code
def yX9_way : MethodName := ⟨RX9, "way", "(II)I"⟩
abbrev cX9_step : ByteArray := prog_11_method_20_code
def yX9_step : MethodName := ⟨RX9, "step", "(I)I"⟩
abbrev cX9_sheep : ByteArray := prog_11_method_21_code
def yX9_sheep : MethodName := ⟨RX9, "sheep", "(I)I"⟩
abbrev cX9_isSheep : ByteArray := prog_11_method_22_code
def yX9_isSheep : MethodName := ⟨RX9, "isSheep", "(I)Z"⟩
abbrev cX9_fitsAct : ByteArray := prog_11_method_23_code
def yX9_fitsAct : MethodName := ⟨RX9, "fitsAct", "(I)Z"⟩
abbrev cX9_does : ByteArray := prog_11_method_24_code
def yX9_does : MethodName := ⟨RX9, "does", "(I)V"⟩
abbrev cX9_asks : ByteArray := prog_11_method_25_code
def yX9_asks : MethodName := ⟨RX9, "asks", "(III)Z"⟩
abbrev cX9_ups : ByteArray := prog_11_method_26_code
def yX9_ups : MethodName := ⟨RX9, "ups", "(I)I"⟩
abbrev cX9_act : ByteArray := prog_11_method_27_code
def yX9_act : MethodName := ⟨RX9, "act", "(IIII)I"⟩
abbrev cX9_entry : ByteArray := prog_11_method_28_code
def yX9_entry : MethodName := ⟨RX9, "entry", "(II)I"⟩
abbrev cX9_isKnowing : ByteArray := prog_11_method_29_code
def yX9_isKnowing : MethodName := ⟨RX9, "isKnowing", "(I)Z"⟩
abbrev cX9_look : ByteArray := prog_11_method_30_code
def yX9_look : MethodName := ⟨RX9, "look", "(IIII)I"⟩
abbrev cX9_milking : ByteArray := prog_11_method_31_code
def yX9_milking : MethodName := ⟨RX9, "milking", "(I)Z"⟩
abbrev cX9_milk : ByteArray := prog_11_method_32_code
def yX9_milk : MethodName := ⟨RX9, "milk", "(II)Z"⟩
abbrev cX9_creditOf : ByteArray := prog_11_method_33_code
def yX9_creditOf : MethodName := ⟨RX9, "creditOf", "(II)I"⟩
abbrev cX9_credit : ByteArray := prog_11_method_34_code
def yX9_credit : MethodName := ⟨RX9, "credit", "(II)I"⟩
abbrev cX9_reckons : ByteArray := prog_11_method_35_code
def yX9_reckons : MethodName := ⟨RX9, "reckons", "(I)V"⟩
abbrev cX9_part : ByteArray := prog_11_method_36_code
def yX9_part : MethodName := ⟨RX9, "part", "(II)I"⟩
abbrev cX9_all : ByteArray := prog_11_method_37_code
def yX9_all : MethodName := ⟨RX9, "all", "()J"⟩
abbrev cX9_gives : ByteArray := prog_11_method_38_code
def yX9_gives : MethodName := ⟨RX9, "gives", "(II)V"⟩
abbrev cX9_endsTurn : ByteArray := prog_11_method_39_code
def yX9_endsTurn : MethodName := ⟨RX9, "endsTurn", "(I)V"⟩
abbrev cX9_wasUp : ByteArray := prog_11_method_40_code
def yX9_wasUp : MethodName := ⟨RX9, "wasUp", "(I)Z"⟩
abbrev cX9_close : ByteArray := prog_11_method_41_code
def yX9_close : MethodName := ⟨RX9, "close", "(I)I"⟩
abbrev cX9_pays : ByteArray := prog_11_method_42_code
def yX9_pays : MethodName := ⟨RX9, "pays", "(J)V"⟩
abbrev cX9_begins : ByteArray := prog_11_method_43_code
def yX9_begins : MethodName := ⟨RX9, "begins", "()V"⟩
abbrev cX9_work : ByteArray := prog_11_method_44_code
def yX9_work : MethodName := ⟨RX9, "work", "(II)Z"⟩
abbrev cX9_herd : ByteArray := prog_11_method_45_code
def yX9_herd : MethodName := ⟨RX9, "herd", "(I)I"⟩
abbrev cX9_told : ByteArray := prog_11_method_46_code
def yX9_told : MethodName := ⟨RX9, "told", "(II)J"⟩
abbrev cX9_count : ByteArray := prog_11_method_47_code
def yX9_count : MethodName := ⟨RX9, "count", "(I)J"⟩
def RL : String := "FlockPassLaw"
abbrev cL_law : ByteArray := code
def yL_law : MethodName := ⟨RL, "law", "([I)Z"⟩
abbrev vwCl : List vw_C := [(RX0, TX0, 3), (RX1, TX1, 7), (RX2, TX2, 8), (RX3, TX3, 10), (RX4, TX4, 9), (RX5, TX5, 2), (RX6, TX6, 2), (RX7, TX7, 6), (RX8, TX8, 10), (RX9, TX9, 45)]
end
section
/-! My own layer over the kit: one list of words for all methods, a state as numbers and rows, contracts by functions that answer an Option. -/
def zw_all : List Cond := lw_tbl.filter goodWord
theorem zw_good : ∀ w ∈ zw_all, goodWord w = true := fun _ h => (List.mem_filter.mp h).2
theorem zw_tbl : ∀ w ∈ zw_all, w ∈ lw_tbl := fun _ h => (List.mem_filter.mp h).1
theorem zw_in {c0 : Cond} {w : Cond} (h : w ∈ zw_all) : w ∈ c0 :: zw_all := List.mem_cons_of_mem _ h
theorem zw_goodIn {big : List Cond} (hb : ∀ w ∈ zw_all, w ∈ big) {c1 : Cond} (h : c1 ∈ zw_all) : GoodIn big (c1 :: zw_all) := by
  intro w hw
  rcases List.mem_cons.mp hw with e | e
  · rw [e]; exact ⟨hb _ h, good_of_word (zw_good _ h)⟩
  · exact ⟨hb _ e, good_of_word (zw_good _ e)⟩
/-- the words of nest mates, which no list of good words holds -/
def zn_all : List (String × Nat × MethodName × String) := [("FlockPass", 9, ⟨"FlockPass$Tape", "<init>", "()V"⟩, "FlockPass")]
-- the state
abbrev zs_T : Type := (Nat → Int32) × (Nat → Int64) × (Nat → Nat → Int32) × (Nat → Nat → Int64)
def zs_i (u : zs_T) (k : Nat) : Int32 := u.1 k
def zs_l (u : zs_T) (k : Nat) : Int64 := u.2.1 k
def zs_a (u : zs_T) (k : Nat) : Nat → Int32 := u.2.2.1 k
def zs_b (u : zs_T) (k : Nat) : Nat → Int64 := u.2.2.2 k
def zs_si (u : zs_T) (k : Nat) (v : Int32) : zs_T := (upd u.1 k v, u.2)
def zs_sl (u : zs_T) (k : Nat) (v : Int64) : zs_T := (u.1, vp_updL u.2.1 k v, u.2.2)
def zs_sa (u : zs_T) (k : Nat) (f : Nat → Int32) : zs_T := (u.1, u.2.1, va_up u.2.2.1 k f, u.2.2.2)
def zs_sb (u : zs_T) (k : Nat) (f : Nat → Int64) : zs_T := (u.1, u.2.1, u.2.2.1, va_up u.2.2.2 k f)
def zs_0 : zs_T := (fun _ => 0, fun _ => 0, fun _ _ => 0, fun _ _ => 0)
-- functions that may fail
def zf_bi {ρ : Type} (x : Option (Int32 × zs_T)) (f : Int32 → zs_T → Option ρ) : Option ρ := match x with
  | none => none
  | some (r, u) => f r u
def zf_bl {ρ : Type} (x : Option (Int64 × zs_T)) (f : Int64 → zs_T → Option ρ) : Option ρ := match x with
  | none => none
  | some (r, u) => f r u
def zf_bv {ρ : Type} (x : Option zs_T) (f : zs_T → Option ρ) : Option ρ := match x with
  | none => none
  | some u => f u
theorem zf_bi_ex {ρ : Type} {x : Option (Int32 × zs_T)} {f : Int32 → zs_T → Option ρ} {z : ρ} (h : zf_bi x f = some z) : ∃ r u, x = some (r, u) ∧ f r u = some z := by
  match x, h with
  | some (r, u), h => exact ⟨r, u, rfl, h⟩
theorem zf_bl_ex {ρ : Type} {x : Option (Int64 × zs_T)} {f : Int64 → zs_T → Option ρ} {z : ρ} (h : zf_bl x f = some z) : ∃ r u, x = some (r, u) ∧ f r u = some z := by
  match x, h with
  | some (r, u), h => exact ⟨r, u, rfl, h⟩
theorem zf_bv_ex {ρ : Type} {x : Option zs_T} {f : zs_T → Option ρ} {z : ρ} (h : zf_bv x f = some z) : ∃ u, x = some u ∧ f u = some z := by
  match x, h with
  | some u, h => exact ⟨u, rfl, h⟩
theorem zf_gd {ρ : Type} {c : Prop} [Decidable c] {x : Option ρ} {z : ρ} (h : (if c then x else none) = some z) : c ∧ x = some z := by
  by_cases hc : c
  · rw [if_pos hc] at h; exact ⟨hc, h⟩
  · rw [if_neg hc] at h; cases h
theorem zf_t {ρ : Type} {c : Prop} [Decidable c] {x y z : ρ} (hc : c) (h : (if c then x else y) = z) : x = z := by rw [if_pos hc] at h; exact h
theorem zf_f {ρ : Type} {c : Prop} [Decidable c] {x y z : ρ} (hc : ¬ c) (h : (if c then x else y) = z) : y = z := by rw [if_neg hc] at h; exact h
/-- an index is in a row of n -/
def zf_in (i : Int32) (n : Nat) : Bool := decide (0 ≤ i.toInt ∧ i.toInt < n)
theorem zf_vin {i : Int32} {n : Nat} (h : zf_in i n = true) : vp_in i n := vp_in_iff.mpr (of_decide_eq_true h)
/-- a truth value -/
def zf_z (x : Int32) : Bool := x == 0 || x == 1
theorem zf_z_nar {x : Int32} (h : zf_z x = true) : narrow .boolean (.int x) = .int x := by
  simp only [zf_z, Bool.or_eq_true, beq_iff_eq] at h
  rcases h with rfl | rfl <;> rfl
theorem zf_z_fit {x : Int32} (h : zf_z x = true) : fits .boolean (.int x) = true := by
  simp only [zf_z, Bool.or_eq_true, beq_iff_eq] at h
  rcases h with rfl | rfl <;> rfl
theorem zf_z_vp {x : Int32} (h : zf_z x = true) : vp_nar .boolean x = x := by
  simp only [zf_z, Bool.or_eq_true, beq_iff_eq] at h
  rcases h with rfl | rfl <;> rfl
/-- a loop: its body is given what comes behind one turn -/
def zf_loop {σ ρ : Type} (body : (σ → Option ρ) → σ → Option ρ) : Nat → σ → Option ρ
  | 0, _ => none
  | n + 1, s => body (zf_loop body n) s
theorem zf_loop_W {σ ρ : Type} {body : (σ → Option ρ) → σ → Option ρ} {z : ρ} (Wp : σ → Prop) (hs : ∀ (again : σ → Option ρ) (s : σ), (∀ s', again s' = some z → Wp s') → body again s = some z → Wp s) : ∀ (n : Nat) (s : σ), zf_loop body n s = some z → Wp s
  | 0, _, h => by cases h
  | n + 1, s, h => hs (zf_loop body n) s (fun s' h' => zf_loop_W Wp hs n s' h') h
theorem zf_ne {x y : Int32} (h : ¬ x = y) : x.toInt ≠ y.toInt := fun e => h (Int32.toInt_inj.mp e)
-- worlds
def zg_ty (cs : Nat → ClassId) : List (ClassId × FieldType) := [(cs 0, .int), (cs 1, .long), (cs 2, .boolean), (cs 3, .byte)]
def zg_N (U : State) : Prop := ∀ q ∈ zn_all, va_Nw (.methodLinkNest q.1 q.2.1 q.2.2.1 q.2.2.2) U
def zg_W (D : va_G) (cs : Nat → ClassId) (A : Nat → Prop) (s : State) (ws : va_W) (H : Heap) (locs : List Loc) : Prop := va_P D vwCl ws H ∧ va_D A ws ∧ va_S A s.heap H locs ∧ va_K D vwCl (zg_ty cs) s ∧ zg_N s ∧ ∀ a, s.heap.size ≤ a → A a
def zg_A (Wf : zs_T → va_W) (sz : Nat) : Nat → Prop := va_A (Wf zs_0) sz
def zg_Pre (D : va_G) (cs : Nat → ClassId) (Wf : zs_T → va_W) (sz : Nat) (u : zs_T) (U : State) : Prop := U.heap.size = sz ∧ va_P D vwCl (Wf u) U.heap ∧ va_K D vwCl (zg_ty cs) U ∧ va_D (fun _ => True) (Wf u) ∧ zg_N U
def zg_Post (D : va_G) (Wf : zs_T → va_W) (A : Nat → Prop) (u : zs_T) (t : State) : Prop := va_P D vwCl (Wf u) t.heap ∧ va_D A (Wf u)
def zg_rm (n : Nat) : Room := { frames := n, cells := 0, slots := 0, locals := 40 * n }
def zg_Ad (Wf : zs_T → va_W) : Prop := ∀ u v, (Wf u).map Prod.fst = (Wf v).map Prod.fst
def zg_Ci (l : Launch) (y : MethodName) (b : ByteArray) (mL : Nat) (ret : Option FieldType) (n : Nat) (D : va_G) (cs : Nat → ClassId) (Wf : zs_T → va_W) (u : zs_T) (av : List Value) (r : Int32) (u' : zs_T) : Prop :=
  ∀ sz, Met l y (.code y b mL ret :: zw_all) (zg_rm n) (va_Pc av (zg_Pre D cs Wf sz u)) (va_Qi (fun r' v => r' = r ∧ v = u') (zg_Post D Wf (zg_A Wf sz)) (zg_A Wf sz)) 0 0 (zg_A Wf sz)
def zg_Cl (l : Launch) (y : MethodName) (b : ByteArray) (mL : Nat) (ret : Option FieldType) (n : Nat) (D : va_G) (cs : Nat → ClassId) (Wf : zs_T → va_W) (u : zs_T) (av : List Value) (r : Int64) (u' : zs_T) : Prop :=
  ∀ sz, Met l y (.code y b mL ret :: zw_all) (zg_rm n) (va_Pc av (zg_Pre D cs Wf sz u)) (va_Ql (fun r' v => r' = r ∧ v = u') (zg_Post D Wf (zg_A Wf sz)) (zg_A Wf sz)) 0 0 (zg_A Wf sz)
def zg_Cv (l : Launch) (y : MethodName) (b : ByteArray) (mL : Nat) (ret : Option FieldType) (n : Nat) (D : va_G) (cs : Nat → ClassId) (Wf : zs_T → va_W) (u : zs_T) (av : List Value) (u' : zs_T) : Prop :=
  ∀ sz, Met l y (.code y b mL ret :: zw_all) (zg_rm n) (va_Pc av (zg_Pre D cs Wf sz u)) (va_Qv (fun v => v = u') (zg_Post D Wf (zg_A Wf sz)) (zg_A Wf sz)) 0 0 (zg_A Wf sz)
theorem zg_AD {Wf : zs_T → va_W} (ha : zg_Ad Wf) {u : zs_T} {sz : Nat} {B : Nat → Prop} (h : va_D B (Wf u)) : va_D (zg_A Wf sz) (Wf u) := by
  refine ⟨h.1, fun k q hk => ?_⟩
  have h1 : ((Wf u).map Prod.fst)[k]? = some q.1 := by rw [List.getElem?_map, hk]; rfl
  rw [ha u zs_0, List.getElem?_map] at h1
  cases h2 : (Wf zs_0)[k]? with
  | none => rw [h2] at h1; cases h1
  | some p =>
    rw [h2] at h1
    have h3 : p.1 = q.1 := Option.some.inj h1
    exact Or.inl ⟨k, p.2, by rw [h2, ← h3]⟩
theorem zg_A_of {Wf : zs_T → va_W} (ha : zg_Ad Wf) {u : zs_T} {sz : Nat} {A : Nat → Prop} (h : va_D A (Wf u)) (hA : ∀ a, sz ≤ a → A a) {a : Nat} (hq : zg_A Wf sz a) : A a := by
  rcases hq with ⟨k, e, h1⟩ | h1
  · have h2 : ((Wf zs_0).map Prod.fst)[k]? = some a := by rw [List.getElem?_map, h1]; rfl
    rw [ha zs_0 u, List.getElem?_map] at h2
    cases h3 : (Wf u)[k]? with
    | none => rw [h3] at h2; cases h2
    | some p =>
      rw [h3] at h2
      have h4 : p.1 = a := Option.some.inj h2
      rw [← h4]; exact h.2 k p h3
  · exact hA a h1
end
section
section ZE
variable {l : Launch} {y : MethodName} {b : ByteArray} {mL n : Nat} {D : va_G} {cs : Nat → ClassId} {Wf : zs_T → va_W} {u u' : zs_T} {av : List Value} {own : String}
theorem zg_start {ret : Option FieldType} {Qc : Nat → Array Value → State → Outcome → State → Prop} {fr : Nat → Addr → Prop} (hy : plainName y.cls = true) (ho : y.cls = own) (ha : zg_Ad Wf)
    (body : ∀ (p : Program) (e : Env) (s : State) (m : MethodId) (below : List Frame) (meth : Method) (c : Code), CallFix p m c b mL s av.toArray (.code y b mL ret :: zw_all) own → meth.sig.returnType = ret → meth.locks = false → zg_W D cs (zg_A Wf s.heap.size) s (Wf u) s.heap [] → W p l e (zg_rm n) s m av.toArray below meth c s.heap [] 0 0 (MQ below (Qc s.heap.size) av.toArray s 0 0 (fr s.heap.size)) (entryFrame m av.toArray mL)) :
    ∀ sz, Met l y (.code y b mL ret :: zw_all) (zg_rm n) (va_Pc av (zg_Pre D cs Wf sz u)) (Qc sz) 0 0 (fr sz) := by
  intro sz
  refine Met.ofW (cc := b) (maxL := mL) (ret := ret) hy rfl ?_
  intro p e s m args below meth c s₁ B hml hv
  obtain ⟨rfl, hsz, hP, hK, hD, hN⟩ := hv
  subst hsz
  refine body p e s m below meth c ⟨B.exec, B.bytes, hml, ?_, atoms_spec (ws := .code y b mL ret :: zw_all) B.pre⟩ B.returns B.notSynchronized ⟨hP, zg_AD ha hD, va_S.rf, hK, hN, fun a h => Or.inr h⟩
  rw [← ho]
  exact findClass_of_methodNamed B.named
theorem zg_Ci_of {r : Int32} (hy : plainName y.cls = true) (ho : y.cls = own) (ha : zg_Ad Wf) (hlv : (lg_sl av).length ≤ mL)
    (body : ∀ (p : Program) (e : Env) (s : State) (m : MethodId) (below : List Frame) (meth : Method) (c : Code) (A : Nat → Prop) (Q : State → Prop), CallFix p m c b mL s av.toArray (.code y b mL (some .int) :: zw_all) own →
      (∀ (H : Heap) (locs : List Loc) (pc : Nat) (ls : Array Slot) (a : Int32) (v : zs_T), some (a, v) = some (r, u') → zg_W D cs A s (Wf v) H locs → decode b pc = .ok (.ireturn, 1) → W p l e (zg_rm n) s m av.toArray below meth c H locs 0 0 Q (F0 m pc ls [.int a])) →
      zg_W D cs A s (Wf u) s.heap [] → ∀ ls, lv_has ls mL (lv_args 0 av) → W p l e (zg_rm n) s m av.toArray below meth c s.heap [] 0 0 Q (F0 m 0 ls [])) : zg_Ci l y b mL (some .int) n D cs Wf u av r u' := by
  refine zg_start hy ho ha fun p e s m below meth c C hr hlocks w => ?_
  rw [lg_entry_eq]
  refine body p e s m below meth c _ _ C ?_ w _ (lv_entry av hlv)
  intro H locs pc ls a v hf w hd
  cases hf
  exact W.iret C.1 C.2.1 hr (fun t ht _ => ⟨⟨_, _, rfl, ⟨rfl, rfl⟩, by rw [ht]; exact w.1, w.2.1⟩, w.2.2.1.F ht⟩) w.2.2.1.2.2 hd hlocks
theorem zg_Cz_of {r : Int32} (hy : plainName y.cls = true) (ho : y.cls = own) (ha : zg_Ad Wf) (hlv : (lg_sl av).length ≤ mL)
    (body : ∀ (p : Program) (e : Env) (s : State) (m : MethodId) (below : List Frame) (meth : Method) (c : Code) (A : Nat → Prop) (Q : State → Prop), CallFix p m c b mL s av.toArray (.code y b mL (some .boolean) :: zw_all) own →
      (∀ (H : Heap) (locs : List Loc) (pc : Nat) (ls : Array Slot) (a : Int32) (v : zs_T), zf_z a = true → some (a, v) = some (r, u') → zg_W D cs A s (Wf v) H locs → decode b pc = .ok (.ireturn, 1) → W p l e (zg_rm n) s m av.toArray below meth c H locs 0 0 Q (F0 m pc ls [.int a])) →
      zg_W D cs A s (Wf u) s.heap [] → ∀ ls, lv_has ls mL (lv_args 0 av) → W p l e (zg_rm n) s m av.toArray below meth c s.heap [] 0 0 Q (F0 m 0 ls [])) : zg_Ci l y b mL (some .boolean) n D cs Wf u av r u' := by
  refine zg_start hy ho ha fun p e s m below meth c C hr hlocks w => ?_
  rw [lg_entry_eq]
  refine body p e s m below meth c _ _ C ?_ w _ (lv_entry av hlv)
  intro H locs pc ls a v hz hf w hd
  cases hf
  exact W.zret C.1 C.2.1 hr (zf_z_nar hz) (fun t ht _ => ⟨⟨_, _, rfl, ⟨rfl, rfl⟩, by rw [ht]; exact w.1, w.2.1⟩, w.2.2.1.F ht⟩) w.2.2.1.2.2 hd hlocks
theorem zg_Cl_of {r : Int64} (hy : plainName y.cls = true) (ho : y.cls = own) (ha : zg_Ad Wf) (hlv : (lg_sl av).length ≤ mL)
    (body : ∀ (p : Program) (e : Env) (s : State) (m : MethodId) (below : List Frame) (meth : Method) (c : Code) (A : Nat → Prop) (Q : State → Prop), CallFix p m c b mL s av.toArray (.code y b mL (some .long) :: zw_all) own →
      (∀ (H : Heap) (locs : List Loc) (pc : Nat) (ls : Array Slot) (a : Int64) (v : zs_T), some (a, v) = some (r, u') → zg_W D cs A s (Wf v) H locs → decode b pc = .ok (.lreturn, 1) → W p l e (zg_rm n) s m av.toArray below meth c H locs 0 0 Q (F0 m pc ls [.long a])) →
      zg_W D cs A s (Wf u) s.heap [] → ∀ ls, lv_has ls mL (lv_args 0 av) → W p l e (zg_rm n) s m av.toArray below meth c s.heap [] 0 0 Q (F0 m 0 ls [])) : zg_Cl l y b mL (some .long) n D cs Wf u av r u' := by
  refine zg_start hy ho ha fun p e s m below meth c C hr hlocks w => ?_
  rw [lg_entry_eq]
  refine body p e s m below meth c _ _ C ?_ w _ (lv_entry av hlv)
  intro H locs pc ls a v hf w hd
  cases hf
  exact W.lret C.1 C.2.1 hr (fun t ht _ => ⟨⟨_, _, rfl, ⟨rfl, rfl⟩, by rw [ht]; exact w.1, w.2.1⟩, w.2.2.1.F ht⟩) w.2.2.1.2.2 hd hlocks
theorem zg_Cv_of (hy : plainName y.cls = true) (ho : y.cls = own) (ha : zg_Ad Wf) (hlv : (lg_sl av).length ≤ mL)
    (body : ∀ (p : Program) (e : Env) (s : State) (m : MethodId) (below : List Frame) (meth : Method) (c : Code) (A : Nat → Prop) (Q : State → Prop), CallFix p m c b mL s av.toArray (.code y b mL none :: zw_all) own →
      (∀ (H : Heap) (locs : List Loc) (pc : Nat) (ls : Array Slot) (v : zs_T), some v = some u' → zg_W D cs A s (Wf v) H locs → decode b pc = .ok (.return_, 1) → W p l e (zg_rm n) s m av.toArray below meth c H locs 0 0 Q (F0 m pc ls [])) →
      zg_W D cs A s (Wf u) s.heap [] → ∀ ls, lv_has ls mL (lv_args 0 av) → W p l e (zg_rm n) s m av.toArray below meth c s.heap [] 0 0 Q (F0 m 0 ls [])) : zg_Cv l y b mL none n D cs Wf u av u' := by
  refine zg_start hy ho ha fun p e s m below meth c C hr hlocks w => ?_
  rw [lg_entry_eq]
  refine body p e s m below meth c _ _ C ?_ w _ (lv_entry av hlv)
  intro H locs pc ls v hf w hd
  cases hf
  exact W.vret C.1 C.2.1 hr (fun t ht _ => ⟨⟨_, rfl, rfl, by rw [ht]; exact w.1, w.2.1⟩, w.2.2.1.F ht⟩) w.2.2.1.2.2 hd hlocks
end ZE
/-- what a call asks of its callee's name -/
def zc_f (y : MethodName) (b : ByteArray) (mL : Nat) (ret : Option FieldType) (na : Nat) : Prop := Cond.code y b mL ret ∈ zw_all ∧ Cond.initialized y.cls ∈ zw_all ∧ y.cls ≠ "java/lang/invoke/MethodHandle" ∧ y.cls ≠ "java/lang/invoke/VarHandle" ∧ (parseMethodDescriptor y.desc).map (fun d => d.parameters.length) = some na
section ZC
variable {p : Program} {l : Launch} {e : Env} {R : Room} {s : State} {m : MethodId} {args : Array Value} {below : List Frame} {meth : Method} {c : Code} {H : Heap} {locs : List Loc} {cells slots : Nat} {Q : State → Prop}
variable {cc : ByteArray} {nL pc index : Nat} {ls : Array Slot} {rest stk : List Value} {c0 : Cond} {own : String}
variable {y : MethodName} {b : ByteArray} {mL k : Nat} {D : va_G} {cs : Nat → ClassId} {A : Nat → Prop} {Wf : zs_T → va_W} {u u' : zs_T} {As : List Value} {ret : Option FieldType}
theorem zc_B (C : CallFix p m c cc nL s args (c0 :: zw_all) own) {na : Nat} (hf : zc_f y b mL ret na) (hl : Cond.methodLink own index y ∈ zw_all) (hR : k + 1 ≤ R.frames ∧ 8 + (mL + 11) + 40 * k ≤ R.locals) : CallB R s args own index y b mL ret (.code y b mL ret :: zw_all) (zg_rm k) 0 0 na := by
  obtain ⟨h1, h2, h3, h4, h5⟩ := hf
  exact callB_of na C.2.2.2.2 (zw_goodIn (fun _ h => zw_in h) h1) rfl rfl rfl (C.2.2.2.2 _ (zw_in h2)) (C.2.2.2.2 _ (zw_in hl)) ⟨h3, h4, h5⟩ hR
theorem zc_pre (w : zg_W D cs A s (Wf u) H locs) (av : List Value) : FrameBlind (va_Pc av (zg_Pre D cs Wf H.size u)) ∧ ∀ U : State, U.heap = H → s.WarmedH U.vm → va_Pc av (zg_Pre D cs Wf H.size u) av.toArray U := by
  obtain ⟨hP, hD, hS, hK, hN, hA⟩ := w
  refine ⟨fun a U g mk q => ?_, fun U hU hW => ⟨rfl, by rw [hU], by rw [hU]; exact hP, va_K.moved hW.alike hK, hD.weaken (fun _ _ _ _ => trivial), fun q hq => va_Nw.warmM hW (hN q hq)⟩⟩
  obtain ⟨q0, q1, qP, qK, qD, qN⟩ := q
  exact ⟨q0, q1, qP, va_K.moved (u := U) (U := U.calling g mk a) (Vm.Alike.refl U.vm) qK, qD, fun x hx => va_Nw.same rfl rfl (qN x hx)⟩
theorem zc_back (ha : zg_Ad Wf) (w : zg_W D cs A s (Wf u) H locs) {t : State} {H1 : Heap} {locs1 : List Loc} (ht : t.heap = H1) (hB : zg_Post D Wf (zg_A Wf H.size) u' t) (hS : va_S A s.heap H1 locs1) : zg_W D cs A s (Wf u') H1 locs1 := by
  obtain ⟨hP, hD, hS0, hK, hN, hA⟩ := w
  obtain ⟨hP1, hD1⟩ := hB
  rw [ht] at hP1
  exact ⟨hP1, hD1.weaken (fun _ _ _ h => zg_A_of ha hD (fun a h1 => hA a (Nat.le_trans hS0.1 h1)) h), hS, hK, hN, hA⟩
theorem zc_fr (ha : zg_Ad Wf) (w : zg_W D cs A s (Wf u) H locs) : ∀ q, zg_A Wf H.size q → A q := fun _ h => zg_A_of ha w.2.1 (fun a h1 => w.2.2.2.2.2 a (Nat.le_trans w.2.2.1.1 h1)) h
/-- the receiver's cell -/
def zc_rc (Wf : zs_T → va_W) (u : zs_T) (a : Nat) (C : String) : Prop := ∃ (q0 ci : Nat) (fs : List Value) (q : vw_C), (Wf u)[q0]? = some (a, .inr (ci, fs)) ∧ vwCl[ci]? = some q ∧ q.1 = C
theorem zc_V (C : CallFix p m c cc nL s args (c0 :: zw_all) own) (w : zg_W D cs A s (Wf u) H locs) {a : Nat} {Qc : Array Value → State → Outcome → State → Prop} {fr : Addr → Prop} (hM : Met l y (.code y b mL ret :: zw_all) (zg_rm k) (va_Pc (.ref a :: As) (zg_Pre D cs Wf H.size u)) Qc 0 0 fr) (hf : zc_f y b mL ret As.length) (hi : Cond.instanceMethod y ∈ zw_all ∧ Cond.selects y.cls y y ∈ zw_all) (hl : Cond.methodLink own index y ∈ zw_all) (hrc : zc_rc Wf u a y.cls) (hR : k + 1 ≤ R.frames ∧ 8 + (mL + 11) + 40 * k ≤ R.locals) (hsz : ls.size = nL) (hst : stk = As.reverse ++ .ref a :: rest) (hro : (rest.map fun v => v.category).sum ≤ 8) (hdg : decode cc pc = .ok (.invokevirtual index, 3)) (hcs : cells ≤ R.cells ∧ slots ≤ R.slots) :
    va_Run p l e R s m args below meth c H locs cells slots 0 0 (F0 m pc ls stk) rest (Qc (Value.ref a :: As).toArray) fr := by
  obtain ⟨q0, ci, fs, q, h1, h2, h3⟩ := hrc
  have hp := zc_pre w (.ref a :: As)
  have hrec := va_recv w.2.2.2.1 w.1 h2 h1
  rw [h3] at hrec
  exact va_runV C hM ⟨zc_B C hf hl hR, C.2.2.2.2 _ (zw_in hi.1), C.2.2.2.2 _ (zw_in hi.2)⟩ ⟨hp.1, hrec, hp.2⟩ rfl rfl hsz hst (lv_room hro) hdg hcs
theorem zc_S (C : CallFix p m c cc nL s args (c0 :: zw_all) own) (w : zg_W D cs A s (Wf u) H locs) {Qc : Array Value → State → Outcome → State → Prop} {fr : Addr → Prop} (hM : Met l y (.code y b mL ret :: zw_all) (zg_rm k) (va_Pc As (zg_Pre D cs Wf H.size u)) Qc 0 0 fr) (hf : zc_f y b mL ret As.length) (hi : Cond.static y ∈ zw_all) (hl : Cond.methodLink own index y ∈ zw_all) (hR : k + 1 ≤ R.frames ∧ 8 + (mL + 11) + 40 * k ≤ R.locals) (hsz : ls.size = nL) (hst : stk = As.reverse ++ rest) (hro : (rest.map fun v => v.category).sum ≤ 8) (hdg : decode cc pc = .ok (.invokestatic index, 3)) (hcs : cells ≤ R.cells ∧ slots ≤ R.slots) :
    va_Run p l e R s m args below meth c H locs cells slots 0 0 (F0 m pc ls stk) rest (Qc As.toArray) fr :=
  va_runS C hM ⟨zc_B C hf hl hR, C.2.2.2.2 _ (zw_in hi)⟩ (zc_pre w As) rfl rfl hsz hst (lv_room hro) hdg hcs
theorem zc_SN (C : CallFix p m c cc nL s args (c0 :: zw_all) own) (w : zg_W D cs A s (Wf u) H locs) {Qc : Array Value → State → Outcome → State → Prop} {fr : Addr → Prop} {host : String} (hM : Met l y (.code y b mL ret :: zw_all) (zg_rm k) (va_Pc As (zg_Pre D cs Wf H.size u)) Qc 0 0 fr) (hf : zc_f y b mL ret As.length) (hi : Cond.static y ∈ zw_all) (hl : (own, index, y, host) ∈ zn_all) (hR : k + 1 ≤ R.frames ∧ 8 + (mL + 11) + 40 * k ≤ R.locals) (hsz : ls.size = nL) (hst : stk = As.reverse ++ rest) (hro : (rest.map fun v => v.category).sum ≤ 8) (hdg : decode cc pc = .ok (.invokestatic index, 3)) (hcs : cells ≤ R.cells ∧ slots ≤ R.slots) :
    va_Run p l e R s m args below meth c H locs cells slots 0 0 (F0 m pc ls stk) rest (Qc As.toArray) fr := by
  obtain ⟨h1, h2, h3, h4, h5⟩ := hf
  exact va_runSN C hM ⟨va_cnB As.length C.2.2.2.2 (zw_goodIn (fun _ h => zw_in h) h1) rfl rfl rfl (w.2.2.2.2.1 _ hl) (C.2.2.2.2 _ (zw_in h2)) ⟨h3, h4, h5⟩ hR, C.2.2.2.2 _ (zw_in hi), trivial⟩ (zc_pre w As) rfl rfl hsz hst (lv_room hro) hdg hcs
theorem zc_ri (ha : zg_Ad Wf) (w : zg_W D cs A s (Wf u) H locs) {r : Int32} {av : Array Value} (hr : va_Run p l e R s m args below meth c H locs cells slots 0 0 (F0 m pc ls stk) rest (va_Qi (fun r' v => r' = r ∧ v = u') (zg_Post D Wf (zg_A Wf H.size)) (zg_A Wf H.size) av) (zg_A Wf H.size))
    (kk : ∀ (H1 : Heap) (locs1 : List Loc), zg_W D cs A s (Wf u') H1 locs1 → W p l e R s m args below meth c H1 locs1 cells slots Q (F0 m (pc + 3) ls (.int r :: rest))) : W p l e R s m args below meth c H locs cells slots Q (F0 m pc ls stk) := by
  refine va_calli hr w.2.2.1 (fun q _ h => zc_fr ha w q h) (zc_fr ha w) fun r' v t H1 locs1 ht _ hw hB _ _ hS => ?_
  obtain ⟨rfl, rfl⟩ := hw
  exact kk H1 locs1 (zc_back ha w ht hB hS)
theorem zc_rl (ha : zg_Ad Wf) (w : zg_W D cs A s (Wf u) H locs) {r : Int64} {av : Array Value} (hr : va_Run p l e R s m args below meth c H locs cells slots 0 0 (F0 m pc ls stk) rest (va_Ql (fun r' v => r' = r ∧ v = u') (zg_Post D Wf (zg_A Wf H.size)) (zg_A Wf H.size) av) (zg_A Wf H.size))
    (kk : ∀ (H1 : Heap) (locs1 : List Loc), zg_W D cs A s (Wf u') H1 locs1 → W p l e R s m args below meth c H1 locs1 cells slots Q (F0 m (pc + 3) ls (.long r :: rest))) : W p l e R s m args below meth c H locs cells slots Q (F0 m pc ls stk) := by
  refine va_calll hr w.2.2.1 (fun q _ h => zc_fr ha w q h) (zc_fr ha w) fun r' v t H1 locs1 ht _ hw hB _ _ hS => ?_
  obtain ⟨rfl, rfl⟩ := hw
  exact kk H1 locs1 (zc_back ha w ht hB hS)
theorem zc_rv (ha : zg_Ad Wf) (w : zg_W D cs A s (Wf u) H locs) {av : Array Value} (hr : va_Run p l e R s m args below meth c H locs cells slots 0 0 (F0 m pc ls stk) rest (va_Qv (fun v => v = u') (zg_Post D Wf (zg_A Wf H.size)) (zg_A Wf H.size) av) (zg_A Wf H.size))
    (kk : ∀ (H1 : Heap) (locs1 : List Loc), zg_W D cs A s (Wf u') H1 locs1 → W p l e R s m args below meth c H1 locs1 cells slots Q (F0 m (pc + 3) ls rest)) : W p l e R s m args below meth c H locs cells slots Q (F0 m pc ls stk) := by
  refine va_callv hr w.2.2.1 (fun q _ h => zc_fr ha w q h) (zc_fr ha w) fun v t H1 locs1 ht _ hw hB _ _ hS => ?_
  subst hw
  exact kk H1 locs1 (zc_back ha w ht hB hS)
end ZC
end
section
section ZR
variable {p : Program} {l : Launch} {e : Env} {R : Room} {s : State} {m : MethodId} {args : Array Value} {below : List Frame} {meth : Method} {c : Code} {H : Heap} {locs : List Loc} {cells slots : Nat} {Q : State → Prop}
variable {cc : ByteArray} {nL pc index : Nat} {ls : Array Slot} {rest : List Value} {c0 : Cond} {own : String}
variable {D : va_G} {cs : Nat → ClassId} {A : Nat → Prop} {ws ws' : va_W} {a q0 ci N k : Nat} {fs : List Value} {Cn : String} {T : u_T}
theorem zr_get (C : CallFix p m c cc nL s args (c0 :: zw_all) own) (w : zg_W D cs A s ws H locs) (he : ws[q0]? = some (a, .inr (ci, fs))) (hc : vwCl[ci]? = some (Cn, T, N)) (hin : ∀ w ∈ u_ws Cn T N, w ∈ zw_all) (hk : k < N) (hl : Cond.fieldLink own index Cn (T k).2.1 (T k).2.2.1 ∈ zw_all) (hd : (T k).1 = Cn) {v : Value} (hv : fs[k]? = some v) (hdg : decode cc pc = .ok (.getfield index, 3))
    (kk : W p l e R s m args below meth c H locs cells slots Q (F0 m (pc + 3) ls (v :: rest))) : W p l e R s m args below meth c H locs cells slots Q (F0 m pc ls (.ref a :: rest)) :=
  va_get C.1 C.2.1 C.2.2.2.2 (fun w h => zw_in (hin w h)) C.2.2.2.1 w.2.2.2.1 w.1 q0 he hc k hk (C.2.2.2.2 _ (zw_in hl)) (fun x h => by rw [hd] at h; exact h) hv hdg kk
theorem zr_put (C : CallFix p m c cc nL s args (c0 :: zw_all) own) (w : zg_W D cs A s ws H locs) (he : ws[q0]? = some (a, .inr (ci, fs))) (hc : vwCl[ci]? = some (Cn, T, N)) (hin : ∀ w ∈ u_ws Cn T N, w ∈ zw_all) (ty0 : Nat → FieldType) (hty : ∀ k, k < N → parseFieldDescriptor (T k).2.2.1 = some (ty0 k)) (hnm : ∀ a, a < N → ∀ b, b < N → a ≠ b → (T a).2.1 ≠ (T b).2.1) (hk : k < N) (hl : Cond.fieldLink own index Cn (T k).2.1 (T k).2.2.1 ∈ zw_all) (hd : (T k).1 = Cn) (hfin : (T k).2.2.2 = false) {ty : FieldType} {v : Value} (hpd : parseFieldDescriptor (T k).2.2.1 = some ty) (hn : narrow ty v = v) (hfit : fits ty v = true) (hlen : k < fs.length) (hset : ws.set q0 (a, .inr (ci, fs.set k v)) = ws') (hdg : decode cc pc = .ok (.putfield index, 3))
    (kk : ∀ (H1 : Heap) (locs1 : List Loc), zg_W D cs A s ws' H1 locs1 → W p l e R s m args below meth c H1 locs1 cells slots Q (F0 m (pc + 3) ls rest)) : W p l e R s m args below meth c H locs cells slots Q (F0 m pc ls (v :: .ref a :: rest)) := by
  refine va_put C.1 C.2.1 C.2.2.2.2 (fun w h => zw_in (hin w h)) ty0 hty hnm C.2.2.2.1 w.2.2.2.1 w.1 w.2.1 w.2.2.1 q0 he hc k hk (C.2.2.2.2 _ (zw_in hl)) (fun x h => by rw [hd] at h; exact h) hfin hpd hn hfit hlen hdg fun H1 locs1 hP hD hS => ?_
  rw [hset] at hP hD
  exact kk H1 locs1 ⟨hP, hD, hS, w.2.2.2⟩
theorem zr_iald (C : CallFix p m c cc nL s args (c0 :: zw_all) own) (w : zg_W D cs A s ws H locs) {n : Nat} {f : Nat → Int32} (he : ws[q0]? = some (a, .inl (cs 0, n, .inl f))) {i : Int32} (hi : zf_in i n = true) (hdg : decode cc pc = .ok (.iaload, 1))
    (kk : W p l e R s m args below meth c H locs cells slots Q (F0 m (pc + 1) ls (.int (f i.toNatClampNeg) :: rest))) : W p l e R s m args below meth c H locs cells slots Q (F0 m pc ls (.int i :: .ref a :: rest)) := va_iald C.1 C.2.1 w.2.2.2.1 w.1 q0 0 he rfl (zf_vin hi) hdg kk
theorem zr_bald (C : CallFix p m c cc nL s args (c0 :: zw_all) own) (w : zg_W D cs A s ws H locs) {n : Nat} {f : Nat → Int32} (he : ws[q0]? = some (a, .inl (cs 3, n, .inl f))) {i : Int32} (hi : zf_in i n = true) (hdg : decode cc pc = .ok (.baload, 1))
    (kk : W p l e R s m args below meth c H locs cells slots Q (F0 m (pc + 1) ls (.int (f i.toNatClampNeg) :: rest))) : W p l e R s m args below meth c H locs cells slots Q (F0 m pc ls (.int i :: .ref a :: rest)) := va_bald C.1 C.2.1 w.2.2.2.1 w.1 q0 3 he rfl (zf_vin hi) hdg kk
theorem zr_zald (C : CallFix p m c cc nL s args (c0 :: zw_all) own) (w : zg_W D cs A s ws H locs) {n : Nat} {f : Nat → Int32} (he : ws[q0]? = some (a, .inl (cs 2, n, .inl f))) {i : Int32} (hi : zf_in i n = true) (hdg : decode cc pc = .ok (.baload, 1))
    (kk : W p l e R s m args below meth c H locs cells slots Q (F0 m (pc + 1) ls (.int (f i.toNatClampNeg) :: rest))) : W p l e R s m args below meth c H locs cells slots Q (F0 m pc ls (.int i :: .ref a :: rest)) := va_zald C.1 C.2.1 w.2.2.2.1 w.1 q0 2 he rfl (zf_vin hi) hdg kk
theorem zr_lald (C : CallFix p m c cc nL s args (c0 :: zw_all) own) (w : zg_W D cs A s ws H locs) {n : Nat} {f : Nat → Int64} (he : ws[q0]? = some (a, .inl (cs 1, n, .inr (.inl f)))) {i : Int32} (hi : zf_in i n = true) (hdg : decode cc pc = .ok (.laload, 1))
    (kk : W p l e R s m args below meth c H locs cells slots Q (F0 m (pc + 1) ls (.long (f i.toNatClampNeg) :: rest))) : W p l e R s m args below meth c H locs cells slots Q (F0 m pc ls (.int i :: .ref a :: rest)) := va_lald C.1 C.2.1 w.2.2.2.1 w.1 q0 1 he rfl (zf_vin hi) hdg kk
theorem zr_iast (C : CallFix p m c cc nL s args (c0 :: zw_all) own) (w : zg_W D cs A s ws H locs) {n : Nat} {f : Nat → Int32} (he : ws[q0]? = some (a, .inl (cs 0, n, .inl f))) {i x : Int32} (hi : zf_in i n = true) (hset : ws.set q0 (a, .inl (cs 0, n, .inl (upd f i.toNatClampNeg x))) = ws') (hdg : decode cc pc = .ok (.iastore, 1))
    (kk : ∀ (H1 : Heap) (locs1 : List Loc), zg_W D cs A s ws' H1 locs1 → W p l e R s m args below meth c H1 locs1 cells slots Q (F0 m (pc + 1) ls rest)) : W p l e R s m args below meth c H locs cells slots Q (F0 m pc ls (.int x :: .int i :: .ref a :: rest)) := by
  refine va_iast C.1 C.2.1 w.2.2.2.1 w.1 w.2.1 w.2.2.1 q0 0 he rfl (zf_vin hi) hdg fun H1 locs1 hP hD hS => ?_
  first | rw [hset] at hP hD | (simp only [vp_nar, vp_nar_int] at hP hD; rw [hset] at hP hD)
  exact kk H1 locs1 ⟨hP, hD, hS, w.2.2.2⟩
theorem zr_bast (C : CallFix p m c cc nL s args (c0 :: zw_all) own) (w : zg_W D cs A s ws H locs) {n : Nat} {f : Nat → Int32} (he : ws[q0]? = some (a, .inl (cs 3, n, .inl f))) {i x : Int32} (hi : zf_in i n = true) (hset : ws.set q0 (a, .inl (cs 3, n, .inl (upd f i.toNatClampNeg (vp_nar .byte x)))) = ws') (hdg : decode cc pc = .ok (.bastore, 1))
    (kk : ∀ (H1 : Heap) (locs1 : List Loc), zg_W D cs A s ws' H1 locs1 → W p l e R s m args below meth c H1 locs1 cells slots Q (F0 m (pc + 1) ls rest)) : W p l e R s m args below meth c H locs cells slots Q (F0 m pc ls (.int x :: .int i :: .ref a :: rest)) := by
  refine va_bast C.1 C.2.1 w.2.2.2.1 w.1 w.2.1 w.2.2.1 q0 3 he rfl (zf_vin hi) hdg fun H1 locs1 hP hD hS => ?_
  rw [hset] at hP hD
  exact kk H1 locs1 ⟨hP, hD, hS, w.2.2.2⟩
theorem zr_zast (C : CallFix p m c cc nL s args (c0 :: zw_all) own) (w : zg_W D cs A s ws H locs) {n : Nat} {f : Nat → Int32} (he : ws[q0]? = some (a, .inl (cs 2, n, .inl f))) {i x : Int32} (hi : zf_in i n = true) (hz : zf_z x = true) (hset : ws.set q0 (a, .inl (cs 2, n, .inl (upd f i.toNatClampNeg x))) = ws') (hdg : decode cc pc = .ok (.bastore, 1))
    (kk : ∀ (H1 : Heap) (locs1 : List Loc), zg_W D cs A s ws' H1 locs1 → W p l e R s m args below meth c H1 locs1 cells slots Q (F0 m (pc + 1) ls rest)) : W p l e R s m args below meth c H locs cells slots Q (F0 m pc ls (.int x :: .int i :: .ref a :: rest)) := by
  refine va_zast C.1 C.2.1 w.2.2.2.1 w.1 w.2.1 w.2.2.1 q0 2 he rfl (zf_vin hi) hdg fun H1 locs1 hP hD hS => ?_
  rw [zf_z_vp hz, hset] at hP hD
  exact kk H1 locs1 ⟨hP, hD, hS, w.2.2.2⟩
theorem zr_last (C : CallFix p m c cc nL s args (c0 :: zw_all) own) (w : zg_W D cs A s ws H locs) {n : Nat} {f : Nat → Int64} (he : ws[q0]? = some (a, .inl (cs 1, n, .inr (.inl f)))) {i : Int32} {x : Int64} (hi : zf_in i n = true) (hset : ws.set q0 (a, .inl (cs 1, n, .inr (.inl (vp_updL f i.toNatClampNeg x)))) = ws') (hdg : decode cc pc = .ok (.lastore, 1))
    (kk : ∀ (H1 : Heap) (locs1 : List Loc), zg_W D cs A s ws' H1 locs1 → W p l e R s m args below meth c H1 locs1 cells slots Q (F0 m (pc + 1) ls rest)) : W p l e R s m args below meth c H locs cells slots Q (F0 m pc ls (.long x :: .int i :: .ref a :: rest)) := by
  refine va_last C.1 C.2.1 w.2.2.2.1 w.1 w.2.1 w.2.2.1 q0 1 he rfl (zf_vin hi) hdg fun H1 locs1 hP hD hS => ?_
  rw [hset] at hP hD
  exact kk H1 locs1 ⟨hP, hD, hS, w.2.2.2⟩
theorem zr_alen (C : CallFix p m c cc nL s args (c0 :: zw_all) own) (w : zg_W D cs A s ws H locs) {n : Nat} {f : Nat → Int32} (he : ws[q0]? = some (a, .inl (cs 0, n, .inl f))) (hdg : decode cc pc = .ok (.arraylength, 1))
    (kk : W p l e R s m args below meth c H locs cells slots Q (F0 m (pc + 1) ls (.int (Int32.ofNat n) :: rest))) : W p l e R s m args below meth c H locs cells slots Q (F0 m pc ls (.ref a :: rest)) := va_alen C.1 C.2.1 w.2.2.2.1 w.1 q0 0 he (ty := .int) rfl rfl hdg kk
def zr_imax (x y : Int32) : Int32 := if x < y then y else x
def zr_imin (x y : Int32) : Int32 := if y < x then y else x
def zr_iabs (x : Int32) : Int32 := if 0 ≤ x then x else 0 - x
/-- Math's own methods are among the words -/
theorem zr_mw : (Cond.static Lib.Math.max.name ∈ zw_all ∧ Cond.static Lib.Math.min.name ∈ zw_all ∧ Cond.static Lib.Math.abs.name ∈ zw_all) ∧ Cond.initialized "java/lang/Math" ∈ zw_all ∧ Cond.code Lib.Math.max.name Lib.Math.max.code 2 (some .int) ∈ zw_all ∧ Cond.code Lib.Math.min.name Lib.Math.min.code 2 (some .int) ∈ zw_all ∧ Cond.code Lib.Math.abs.name Lib.Math.abs.code 1 (some .int) ∈ zw_all := by
  refine ⟨⟨?_, ?_, ?_⟩, ?_, ?_, ?_, ?_⟩ <;> decide +kernel
theorem zr_max (C : CallFix p m c cc nL s args (c0 :: zw_all) own) (hsz : ls.size = nL) (hl : Cond.methodLink own index Lib.Math.max.name ∈ zw_all) (hR : 1 ≤ R.frames ∧ (rest.map fun v => v.category).sum + 13 ≤ R.locals) (hcs : cells ≤ R.cells ∧ slots ≤ R.slots) {x y : Int32} (hdg : decode cc pc = .ok (.invokestatic index, 3))
    (kk : W p l e R s m args below meth c H locs cells slots Q (F0 m (pc + 3) ls (.int (zr_imax x y) :: rest))) : W p l e R s m args below meth c H locs cells slots Q (F0 m pc ls (.int y :: .int x :: rest)) :=
  va_mmax C.1 C.2.1 (C.2.2.1.trans hsz.symm) C.2.2.2.1 (C.2.2.2.2 _ (zw_in hl)) (C.2.2.2.2 _ (zw_in zr_mw.1.1)) (C.2.2.2.2 _ (zw_in zr_mw.2.1)) (C.2.2.2.2 _ (zw_in zr_mw.2.2.1)) hR.1 hR.2 hcs.1 hcs.2 hdg kk
theorem zr_min (C : CallFix p m c cc nL s args (c0 :: zw_all) own) (hsz : ls.size = nL) (hl : Cond.methodLink own index Lib.Math.min.name ∈ zw_all) (hR : 1 ≤ R.frames ∧ (rest.map fun v => v.category).sum + 13 ≤ R.locals) (hcs : cells ≤ R.cells ∧ slots ≤ R.slots) {x y : Int32} (hdg : decode cc pc = .ok (.invokestatic index, 3))
    (kk : W p l e R s m args below meth c H locs cells slots Q (F0 m (pc + 3) ls (.int (zr_imin x y) :: rest))) : W p l e R s m args below meth c H locs cells slots Q (F0 m pc ls (.int y :: .int x :: rest)) :=
  va_mmin C.1 C.2.1 (C.2.2.1.trans hsz.symm) C.2.2.2.1 (C.2.2.2.2 _ (zw_in hl)) (C.2.2.2.2 _ (zw_in zr_mw.1.2.1)) (C.2.2.2.2 _ (zw_in zr_mw.2.1)) (C.2.2.2.2 _ (zw_in zr_mw.2.2.2.1)) hR.1 hR.2 hcs.1 hcs.2 hdg kk
theorem zr_abs (C : CallFix p m c cc nL s args (c0 :: zw_all) own) (hsz : ls.size = nL) (hl : Cond.methodLink own index Lib.Math.abs.name ∈ zw_all) (hR : 1 ≤ R.frames ∧ (rest.map fun v => v.category).sum + 13 ≤ R.locals) (hcs : cells ≤ R.cells ∧ slots ≤ R.slots) {x : Int32} (hdg : decode cc pc = .ok (.invokestatic index, 3))
    (kk : W p l e R s m args below meth c H locs cells slots Q (F0 m (pc + 3) ls (.int (zr_iabs x) :: rest))) : W p l e R s m args below meth c H locs cells slots Q (F0 m pc ls (.int x :: rest)) :=
  va_mabs C.1 C.2.1 (C.2.2.1.trans hsz.symm) C.2.2.2.1 (C.2.2.2.2 _ (zw_in hl)) (C.2.2.2.2 _ (zw_in zr_mw.1.2.2)) (C.2.2.2.2 _ (zw_in zr_mw.2.1)) (C.2.2.2.2 _ (zw_in zr_mw.2.2.2.2)) hR.1 hR.2 hcs.1 hcs.2 hdg kk
/-- System.arraycopy of ints: a test of its three numbers -/
def zf_cp (sp dp n : Int32) (n0 n1 : Nat) : Bool := decide (0 ≤ sp.toInt ∧ 0 ≤ dp.toInt ∧ 0 ≤ n.toInt ∧ sp.toInt + n.toInt ≤ n0 ∧ dp.toInt + n.toInt ≤ n1)
theorem zr_cw : Cond.native arraycopyName ∈ zw_all ∧ Cond.static arraycopyName ∈ zw_all ∧ Cond.initialized "java/lang/System" ∈ zw_all := by
  refine ⟨?_, ?_, ?_⟩ <;> decide +kernel
theorem zf_nn {z : Int32} (h : 0 ≤ z.toInt) : ¬ z < 0 ∧ z.toInt = (z.toNatClampNeg : Int) := by
  refine ⟨fun q => ?_, ?_⟩
  · have := Int32.lt_iff_toInt_lt.mp q
    simp at this
    omega
  · simp only [Int32.toNatClampNeg]
    omega
theorem zr_copy (C : CallFix p m c cc nL s args (c0 :: zw_all) own) (w : zg_W D cs A s ws H locs) (hsz : ls.size = nL) {q1 a0 n0 n1 : Nat} {f g : Nat → Int32} (he0 : ws[q0]? = some (a0, .inl (cs 0, n0, .inl f))) (he1 : ws[q1]? = some (a, .inl (cs 0, n1, .inl g))) (hl : Cond.methodLink own index arraycopyName ∈ zw_all) {sp dp n : Int32} (hcp : zf_cp sp dp n n0 n1 = true) (hR : 1 ≤ R.frames ∧ (rest.map fun v => v.category).sum + (nativeFrameWords "java/lang/System" "arraycopy" 5 + 11) ≤ R.locals) (hset : ws.set q1 (a, .inl (cs 0, n1, .inl (va_cpy f g sp.toNatClampNeg dp.toNatClampNeg n.toNatClampNeg))) = ws') (hdg : decode cc pc = .ok (.invokestatic index, 3))
    (kk : ∀ (H1 : Heap) (locs1 : List Loc), zg_W D cs A s ws' H1 locs1 → W p l e R s m args below meth c H1 locs1 cells slots Q (F0 m (pc + 3) ls rest)) : W p l e R s m args below meth c H locs cells slots Q (F0 m pc ls (.int n :: .int dp :: .ref a :: .int sp :: .ref a0 :: rest)) := by
  obtain ⟨h1, h2, h3, h4, h5⟩ := of_decide_eq_true hcp
  have e1 := zf_nn h1
  have e2 := zf_nn h2
  have e3 := zf_nn h3
  refine va_copyi C.1 C.2.1 (C.2.2.1.trans hsz.symm) C.2.2.2.1 (C.2.2.2.2 _ (zw_in hl)) (C.2.2.2.2 _ (zw_in zr_cw.1)) (C.2.2.2.2 _ (zw_in zr_cw.2.1)) (C.2.2.2.2 _ (zw_in zr_cw.2.2)) w.2.2.2.1 w.1 w.2.1 w.2.2.1 q0 q1 0 0 he0 he1 rfl rfl rfl e1.1 e2.1 e3.1 (by omega) (by omega) (fun i hi => rfl) hR.1 hR.2 hdg fun H1 locs1 hP hD hS => ?_
  rw [hset] at hP hD
  exact kk H1 locs1 ⟨hP, hD, hS, w.2.2.2⟩
theorem zr_ldc (C : CallFix p m c cc nL s args (c0 :: zw_all) own) {v : Int32} (hl : Cond.constant own index v ∈ zw_all) (hdg : decode cc pc = .ok (.ldc index, 2)) (kk : W p l e R s m args below meth c H locs cells slots Q (F0 m (pc + 2) ls (.int v :: rest))) : W p l e R s m args below meth c H locs cells slots Q (F0 m pc ls rest) := lv_ldc C.1 C.2.1 C.2.2.2.1 (C.2.2.2.2 _ (zw_in hl)) hdg kk
theorem zr_ldcw (C : CallFix p m c cc nL s args (c0 :: zw_all) own) {v : Int32} (hl : Cond.constant own index v ∈ zw_all) (hdg : decode cc pc = .ok (.ldc_w index, 3)) (kk : W p l e R s m args below meth c H locs cells slots Q (F0 m (pc + 3) ls (.int v :: rest))) : W p l e R s m args below meth c H locs cells slots Q (F0 m pc ls rest) := lv_ldcw C.1 C.2.1 C.2.2.2.1 (C.2.2.2.2 _ (zw_in hl)) hdg kk
theorem zr_ldc2 (C : CallFix p m c cc nL s args (c0 :: zw_all) own) {v : Int64} (hl : Cond.constantLong own index v ∈ zw_all) (hdg : decode cc pc = .ok (.ldc2_w index, 3)) (kk : W p l e R s m args below meth c H locs cells slots Q (F0 m (pc + 3) ls (.long v :: rest))) : W p l e R s m args below meth c H locs cells slots Q (F0 m pc ls rest) := lv_ldc2 C.1 C.2.1 C.2.2.2.1 (C.2.2.2.2 _ (zw_in hl)) hdg kk
end ZR
end
