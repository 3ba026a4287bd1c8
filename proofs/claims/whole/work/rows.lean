section
-- ===== PART A: goes FIRST, ahead of the names: the tables' words, and 'selects' of the private methods out of them =====
/-- a private method of a class that the tables say can be made, by its rows of tables_1 -/
def lw_okq (q : MethodName × Nat) : Prop := (q.1.cls ≠ "java/lang/invoke/MethodHandle" ∧ q.1.cls ≠ "java/lang/invoke/VarHandle") ∧ Cond.instantiable q.1.cls q.2 ∈ tables_1 ∧ Cond.privateMethod q.1 ∈ tables_1 ∧ Cond.instanceMethod q.1 ∈ tables_1
theorem lw_p0 : lw_okq (⟨"FlockPass$Pasture", "graze", "(I)V"⟩, 8) := ⟨⟨by decide +kernel, by decide +kernel⟩, List.mem_of_getElem? (i := 57) (by decide +kernel), List.mem_of_getElem? (i := 430) (by decide +kernel), List.mem_of_getElem? (i := 431) (by decide +kernel)⟩
theorem lw_p1 : lw_okq (⟨"FlockPass$Register", "putInOrder", "(I)I"⟩, 9) := ⟨⟨by decide +kernel, by decide +kernel⟩, List.mem_of_getElem? (i := 146) (by decide +kernel), List.mem_of_getElem? (i := 447) (by decide +kernel), List.mem_of_getElem? (i := 448) (by decide +kernel)⟩
theorem lw_p2 : lw_okq (⟨"FlockPass$Trace", "begin", "(IZ)V"⟩, 6) := ⟨⟨by decide +kernel, by decide +kernel⟩, List.mem_of_getElem? (i := 199) (by decide +kernel), List.mem_of_getElem? (i := 455) (by decide +kernel), List.mem_of_getElem? (i := 456) (by decide +kernel)⟩
theorem lw_p3 : lw_okq (⟨"FlockPass$Trace", "fits", "(II)Z"⟩, 6) := ⟨⟨by decide +kernel, by decide +kernel⟩, List.mem_of_getElem? (i := 199) (by decide +kernel), List.mem_of_getElem? (i := 460) (by decide +kernel), List.mem_of_getElem? (i := 461) (by decide +kernel)⟩
theorem lw_p4 : lw_okq (⟨"FlockPass$Trace", "tallyBefore", "(I)V"⟩, 6) := ⟨⟨by decide +kernel, by decide +kernel⟩, List.mem_of_getElem? (i := 199) (by decide +kernel), List.mem_of_getElem? (i := 464) (by decide +kernel), List.mem_of_getElem? (i := 465) (by decide +kernel)⟩
theorem lw_p5 : lw_okq (⟨"FlockPass$Trace", "follow", "(II)V"⟩, 6) := ⟨⟨by decide +kernel, by decide +kernel⟩, List.mem_of_getElem? (i := 199) (by decide +kernel), List.mem_of_getElem? (i := 468) (by decide +kernel), List.mem_of_getElem? (i := 469) (by decide +kernel)⟩
theorem lw_p6 : lw_okq (⟨"FlockPass$Register", "takeBack", "(I)V"⟩, 9) := ⟨⟨by decide +kernel, by decide +kernel⟩, List.mem_of_getElem? (i := 146) (by decide +kernel), List.mem_of_getElem? (i := 472) (by decide +kernel), List.mem_of_getElem? (i := 473) (by decide +kernel)⟩
theorem lw_p7 : lw_okq (⟨"FlockPass$Dairy", "divide", "(ILFlockPass$Trace;I)V"⟩, 3) := ⟨⟨by decide +kernel, by decide +kernel⟩, List.mem_of_getElem? (i := 237) (by decide +kernel), List.mem_of_getElem? (i := 500) (by decide +kernel), List.mem_of_getElem? (i := 501) (by decide +kernel)⟩
theorem lw_p8 : lw_okq (⟨"FlockPass$Ledger", "takeTurn", "([I)I"⟩, 7) := ⟨⟨by decide +kernel, by decide +kernel⟩, List.mem_of_getElem? (i := 256) (by decide +kernel), List.mem_of_getElem? (i := 511) (by decide +kernel), List.mem_of_getElem? (i := 512) (by decide +kernel)⟩
theorem lw_p9 : lw_okq (⟨"FlockPass", "beginNextYear", "()V"⟩, 10) := ⟨⟨by decide +kernel, by decide +kernel⟩, List.mem_of_getElem? (i := 15) (by decide +kernel), List.mem_of_getElem? (i := 530) (by decide +kernel), List.mem_of_getElem? (i := 531) (by decide +kernel)⟩
theorem lw_p10 : lw_okq (⟨"FlockPass$Planner", "judge", "(I)V"⟩, 10) := ⟨⟨by decide +kernel, by decide +kernel⟩, List.mem_of_getElem? (i := 107) (by decide +kernel), List.mem_of_getElem? (i := 577) (by decide +kernel), List.mem_of_getElem? (i := 578) (by decide +kernel)⟩
theorem lw_p11 : lw_okq (⟨"FlockPass$Planner", "passDay", "(II)I"⟩, 10) := ⟨⟨by decide +kernel, by decide +kernel⟩, List.mem_of_getElem? (i := 107) (by decide +kernel), List.mem_of_getElem? (i := 584) (by decide +kernel), List.mem_of_getElem? (i := 585) (by decide +kernel)⟩
theorem lw_p12 : lw_okq (⟨"FlockPassModel", "types", "(I)V"⟩, 45) := ⟨⟨by decide +kernel, by decide +kernel⟩, List.mem_of_getElem? (i := 623) (by decide +kernel), List.mem_of_getElem? (i := 770) (by decide +kernel), List.mem_of_getElem? (i := 771) (by decide +kernel)⟩
theorem lw_p13 : lw_okq (⟨"FlockPassModel", "parse", "(I)I"⟩, 45) := ⟨⟨by decide +kernel, by decide +kernel⟩, List.mem_of_getElem? (i := 623) (by decide +kernel), List.mem_of_getElem? (i := 778) (by decide +kernel), List.mem_of_getElem? (i := 779) (by decide +kernel)⟩
theorem lw_p14 : lw_okq (⟨"FlockPassModel", "isDigit", "(II)Z"⟩, 45) := ⟨⟨by decide +kernel, by decide +kernel⟩, List.mem_of_getElem? (i := 623) (by decide +kernel), List.mem_of_getElem? (i := 785) (by decide +kernel), List.mem_of_getElem? (i := 786) (by decide +kernel)⟩
theorem lw_p15 : lw_okq (⟨"FlockPassModel", "isHeight", "(I)Z"⟩, 45) := ⟨⟨by decide +kernel, by decide +kernel⟩, List.mem_of_getElem? (i := 623) (by decide +kernel), List.mem_of_getElem? (i := 801) (by decide +kernel), List.mem_of_getElem? (i := 802) (by decide +kernel)⟩
def lw_privs_1 : List (MethodName × Nat) := [(⟨"FlockPass$Pasture", "graze", "(I)V"⟩, 8), (⟨"FlockPass$Register", "putInOrder", "(I)I"⟩, 9), (⟨"FlockPass$Trace", "begin", "(IZ)V"⟩, 6), (⟨"FlockPass$Trace", "fits", "(II)Z"⟩, 6), (⟨"FlockPass$Trace", "tallyBefore", "(I)V"⟩, 6), (⟨"FlockPass$Trace", "follow", "(II)V"⟩, 6), (⟨"FlockPass$Register", "takeBack", "(I)V"⟩, 9), (⟨"FlockPass$Dairy", "divide", "(ILFlockPass$Trace;I)V"⟩, 3), (⟨"FlockPass$Ledger", "takeTurn", "([I)I"⟩, 7), (⟨"FlockPass", "beginNextYear", "()V"⟩, 10), (⟨"FlockPass$Planner", "judge", "(I)V"⟩, 10), (⟨"FlockPass$Planner", "passDay", "(II)I"⟩, 10), (⟨"FlockPassModel", "types", "(I)V"⟩, 45), (⟨"FlockPassModel", "parse", "(I)I"⟩, 45), (⟨"FlockPassModel", "isDigit", "(II)Z"⟩, 45), (⟨"FlockPassModel", "isHeight", "(I)Z"⟩, 45)]
theorem lw_r1 : ∀ q ∈ lw_privs_1, lw_okq q := List.forall_mem_cons.mpr ⟨lw_p0, List.forall_mem_cons.mpr ⟨lw_p1, List.forall_mem_cons.mpr ⟨lw_p2, List.forall_mem_cons.mpr ⟨lw_p3, List.forall_mem_cons.mpr ⟨lw_p4, List.forall_mem_cons.mpr ⟨lw_p5, List.forall_mem_cons.mpr ⟨lw_p6, List.forall_mem_cons.mpr ⟨lw_p7, List.forall_mem_cons.mpr ⟨lw_p8, List.forall_mem_cons.mpr ⟨lw_p9, List.forall_mem_cons.mpr ⟨lw_p10, List.forall_mem_cons.mpr ⟨lw_p11, List.forall_mem_cons.mpr ⟨lw_p12, List.forall_mem_cons.mpr ⟨lw_p13, List.forall_mem_cons.mpr ⟨lw_p14, List.forall_mem_cons.mpr ⟨lw_p15, fun _ h => absurd h List.not_mem_nil⟩⟩⟩⟩⟩⟩⟩⟩⟩⟩⟩⟩⟩⟩⟩⟩
theorem lw_p16 : lw_okq (⟨"FlockPassModel", "grows", "(I)V"⟩, 45) := ⟨⟨by decide +kernel, by decide +kernel⟩, List.mem_of_getElem? (i := 623) (by decide +kernel), List.mem_of_getElem? (i := 818) (by decide +kernel), List.mem_of_getElem? (i := 819) (by decide +kernel)⟩
theorem lw_p17 : lw_okq (⟨"FlockPassModel", "ups", "(I)I"⟩, 45) := ⟨⟨by decide +kernel, by decide +kernel⟩, List.mem_of_getElem? (i := 623) (by decide +kernel), List.mem_of_getElem? (i := 822) (by decide +kernel), List.mem_of_getElem? (i := 823) (by decide +kernel)⟩
theorem lw_p18 : lw_okq (⟨"FlockPassModel", "asks", "(III)Z"⟩, 45) := ⟨⟨by decide +kernel, by decide +kernel⟩, List.mem_of_getElem? (i := 623) (by decide +kernel), List.mem_of_getElem? (i := 826) (by decide +kernel), List.mem_of_getElem? (i := 827) (by decide +kernel)⟩
theorem lw_p19 : lw_okq (⟨"FlockPassModel", "fitsAct", "(I)Z"⟩, 45) := ⟨⟨by decide +kernel, by decide +kernel⟩, List.mem_of_getElem? (i := 623) (by decide +kernel), List.mem_of_getElem? (i := 830) (by decide +kernel), List.mem_of_getElem? (i := 831) (by decide +kernel)⟩
theorem lw_p20 : lw_okq (⟨"FlockPassModel", "does", "(I)V"⟩, 45) := ⟨⟨by decide +kernel, by decide +kernel⟩, List.mem_of_getElem? (i := 623) (by decide +kernel), List.mem_of_getElem? (i := 834) (by decide +kernel), List.mem_of_getElem? (i := 835) (by decide +kernel)⟩
theorem lw_p21 : lw_okq (⟨"FlockPassModel", "eats", "(II)I"⟩, 45) := ⟨⟨by decide +kernel, by decide +kernel⟩, List.mem_of_getElem? (i := 623) (by decide +kernel), List.mem_of_getElem? (i := 838) (by decide +kernel), List.mem_of_getElem? (i := 839) (by decide +kernel)⟩
theorem lw_p22 : lw_okq (⟨"FlockPassModel", "lays", "(II)Z"⟩, 45) := ⟨⟨by decide +kernel, by decide +kernel⟩, List.mem_of_getElem? (i := 623) (by decide +kernel), List.mem_of_getElem? (i := 846) (by decide +kernel), List.mem_of_getElem? (i := 847) (by decide +kernel)⟩
theorem lw_p23 : lw_okq (⟨"FlockPassModel", "isLess", "(I)Z"⟩, 45) := ⟨⟨by decide +kernel, by decide +kernel⟩, List.mem_of_getElem? (i := 623) (by decide +kernel), List.mem_of_getElem? (i := 850) (by decide +kernel), List.mem_of_getElem? (i := 851) (by decide +kernel)⟩
theorem lw_p24 : lw_okq (⟨"FlockPassModel", "isSheep", "(I)Z"⟩, 45) := ⟨⟨by decide +kernel, by decide +kernel⟩, List.mem_of_getElem? (i := 623) (by decide +kernel), List.mem_of_getElem? (i := 866) (by decide +kernel), List.mem_of_getElem? (i := 867) (by decide +kernel)⟩
theorem lw_p25 : lw_okq (⟨"FlockPassModel", "isKnowing", "(I)Z"⟩, 45) := ⟨⟨by decide +kernel, by decide +kernel⟩, List.mem_of_getElem? (i := 623) (by decide +kernel), List.mem_of_getElem? (i := 878) (by decide +kernel), List.mem_of_getElem? (i := 879) (by decide +kernel)⟩
theorem lw_p26 : lw_okq (⟨"FlockPassModel", "creditOf", "(II)I"⟩, 45) := ⟨⟨by decide +kernel, by decide +kernel⟩, List.mem_of_getElem? (i := 623) (by decide +kernel), List.mem_of_getElem? (i := 894) (by decide +kernel), List.mem_of_getElem? (i := 895) (by decide +kernel)⟩
theorem lw_p27 : lw_okq (⟨"FlockPassModel", "reckons", "(I)V"⟩, 45) := ⟨⟨by decide +kernel, by decide +kernel⟩, List.mem_of_getElem? (i := 623) (by decide +kernel), List.mem_of_getElem? (i := 902) (by decide +kernel), List.mem_of_getElem? (i := 903) (by decide +kernel)⟩
theorem lw_p28 : lw_okq (⟨"FlockPassModel", "all", "()J"⟩, 45) := ⟨⟨by decide +kernel, by decide +kernel⟩, List.mem_of_getElem? (i := 623) (by decide +kernel), List.mem_of_getElem? (i := 910) (by decide +kernel), List.mem_of_getElem? (i := 911) (by decide +kernel)⟩
theorem lw_p29 : lw_okq (⟨"FlockPassModel", "gives", "(II)V"⟩, 45) := ⟨⟨by decide +kernel, by decide +kernel⟩, List.mem_of_getElem? (i := 623) (by decide +kernel), List.mem_of_getElem? (i := 914) (by decide +kernel), List.mem_of_getElem? (i := 915) (by decide +kernel)⟩
theorem lw_p30 : lw_okq (⟨"FlockPassModel", "endsTurn", "(I)V"⟩, 45) := ⟨⟨by decide +kernel, by decide +kernel⟩, List.mem_of_getElem? (i := 623) (by decide +kernel), List.mem_of_getElem? (i := 920) (by decide +kernel), List.mem_of_getElem? (i := 921) (by decide +kernel)⟩
theorem lw_p31 : lw_okq (⟨"FlockPassModel", "pays", "(J)V"⟩, 45) := ⟨⟨by decide +kernel, by decide +kernel⟩, List.mem_of_getElem? (i := 623) (by decide +kernel), List.mem_of_getElem? (i := 924) (by decide +kernel), List.mem_of_getElem? (i := 925) (by decide +kernel)⟩
def lw_privs_2 : List (MethodName × Nat) := [(⟨"FlockPassModel", "grows", "(I)V"⟩, 45), (⟨"FlockPassModel", "ups", "(I)I"⟩, 45), (⟨"FlockPassModel", "asks", "(III)Z"⟩, 45), (⟨"FlockPassModel", "fitsAct", "(I)Z"⟩, 45), (⟨"FlockPassModel", "does", "(I)V"⟩, 45), (⟨"FlockPassModel", "eats", "(II)I"⟩, 45), (⟨"FlockPassModel", "lays", "(II)Z"⟩, 45), (⟨"FlockPassModel", "isLess", "(I)Z"⟩, 45), (⟨"FlockPassModel", "isSheep", "(I)Z"⟩, 45), (⟨"FlockPassModel", "isKnowing", "(I)Z"⟩, 45), (⟨"FlockPassModel", "creditOf", "(II)I"⟩, 45), (⟨"FlockPassModel", "reckons", "(I)V"⟩, 45), (⟨"FlockPassModel", "all", "()J"⟩, 45), (⟨"FlockPassModel", "gives", "(II)V"⟩, 45), (⟨"FlockPassModel", "endsTurn", "(I)V"⟩, 45), (⟨"FlockPassModel", "pays", "(J)V"⟩, 45)]
theorem lw_r2 : ∀ q ∈ lw_privs_2, lw_okq q := List.forall_mem_cons.mpr ⟨lw_p16, List.forall_mem_cons.mpr ⟨lw_p17, List.forall_mem_cons.mpr ⟨lw_p18, List.forall_mem_cons.mpr ⟨lw_p19, List.forall_mem_cons.mpr ⟨lw_p20, List.forall_mem_cons.mpr ⟨lw_p21, List.forall_mem_cons.mpr ⟨lw_p22, List.forall_mem_cons.mpr ⟨lw_p23, List.forall_mem_cons.mpr ⟨lw_p24, List.forall_mem_cons.mpr ⟨lw_p25, List.forall_mem_cons.mpr ⟨lw_p26, List.forall_mem_cons.mpr ⟨lw_p27, List.forall_mem_cons.mpr ⟨lw_p28, List.forall_mem_cons.mpr ⟨lw_p29, List.forall_mem_cons.mpr ⟨lw_p30, List.forall_mem_cons.mpr ⟨lw_p31, fun _ h => absurd h List.not_mem_nil⟩⟩⟩⟩⟩⟩⟩⟩⟩⟩⟩⟩⟩⟩⟩⟩
theorem lw_p32 : lw_okq (⟨"FlockPassModel", "wasUp", "(I)Z"⟩, 45) := ⟨⟨by decide +kernel, by decide +kernel⟩, List.mem_of_getElem? (i := 623) (by decide +kernel), List.mem_of_getElem? (i := 928) (by decide +kernel), List.mem_of_getElem? (i := 929) (by decide +kernel)⟩
theorem lw_p33 : lw_okq (⟨"FlockPassModel", "begins", "()V"⟩, 45) := ⟨⟨by decide +kernel, by decide +kernel⟩, List.mem_of_getElem? (i := 623) (by decide +kernel), List.mem_of_getElem? (i := 932) (by decide +kernel), List.mem_of_getElem? (i := 933) (by decide +kernel)⟩
theorem lw_p34 : lw_okq (⟨"FlockPassModel", "herd", "(I)I"⟩, 45) := ⟨⟨by decide +kernel, by decide +kernel⟩, List.mem_of_getElem? (i := 623) (by decide +kernel), List.mem_of_getElem? (i := 945) (by decide +kernel), List.mem_of_getElem? (i := 946) (by decide +kernel)⟩
def lw_privs_3 : List (MethodName × Nat) := [(⟨"FlockPassModel", "wasUp", "(I)Z"⟩, 45), (⟨"FlockPassModel", "begins", "()V"⟩, 45), (⟨"FlockPassModel", "herd", "(I)I"⟩, 45)]
theorem lw_r3 : ∀ q ∈ lw_privs_3, lw_okq q := List.forall_mem_cons.mpr ⟨lw_p32, List.forall_mem_cons.mpr ⟨lw_p33, List.forall_mem_cons.mpr ⟨lw_p34, fun _ h => absurd h List.not_mem_nil⟩⟩⟩
def lw_privs : List (MethodName × Nat) := lw_privs_1 ++ (lw_privs_2 ++ (lw_privs_3))
def lw_tbl : List Cond := k2_sels lw_privs ++ tables_1
theorem lw_privs_ok : ∀ q ∈ lw_privs, lw_okq q := by
  show ∀ q ∈ lw_privs_1 ++ (lw_privs_2 ++ (lw_privs_3)), lw_okq q
  exact List.forall_mem_append.mpr ⟨lw_r1, List.forall_mem_append.mpr ⟨lw_r2, lw_r3⟩⟩
-- ===== end of PART A; then your names; then what follows =====
end
section
theorem goodIn_r {big : List Cond} (ws : List Cond) (ps : List Nat) (hp : ws = ps.filterMap (fun i => big[i]?)) (h : ws.all goodWord = true) : GoodIn big ws := by
  intro w hw
  have h1 := List.all_eq_true.mp h w hw
  rw [hp] at hw
  obtain ⟨i, -, hi⟩ := List.mem_filterMap.mp hw
  have hm : w ∈ big := by first | exact List.mem_of_getElem? hi | exact List.getElem?_mem hi
  exact ⟨hm, good_of_word h1⟩
theorem goodIn_app {big a b : List Cond} (ha : GoodIn big a) (hb : GoodIn big b) : GoodIn big (a ++ b) := fun w h => (List.mem_append.mp h).elim (ha w) (hb w)
theorem goodIn_ca {big a b : List Cond} {c : Cond} (ha : GoodIn big (c :: a)) (hb : GoodIn big b) : GoodIn big (c :: (a ++ b)) := fun w h => (List.mem_cons.mp h).elim (fun e => ha w (List.mem_cons.mpr (Or.inl e))) (fun h => (List.mem_append.mp h).elim (fun h => ha w (List.mem_cons.mpr (Or.inr h))) (hb w))
theorem goodIn_sub {big ws : List Cond} (hm : ∀ w ∈ ws, w ∈ big) (h : ws.all goodWord = true) : GoodIn big ws := fun w hw => ⟨hm w hw, good_of_word (List.all_eq_true.mp h w hw)⟩
def RX0 : String := "FlockPass$Dairy"
def TX0 : u_T := fun k => match k with
  | 0 => ("FlockPass$Dairy", "milkOf", "[I", true)
  | 1 => ("FlockPass$Dairy", "partOf", "[I", true)
  | _ => ("FlockPass$Dairy", "milkingDay", "I", false)
def tyX0 : Nat → FieldType := fun k => match k with
  | 0 => .array .int
  | 1 => .array .int
  | _ => .int
abbrev wsX00 : List Cond := u_ws RX0 TX0 3
theorem nmX0 : ∀ a, a < 3 → ∀ b, b < 3 → a ≠ b → (TX0 a).2.1 ≠ (TX0 b).2.1 := by decide +kernel
theorem tyX0_ok : ∀ k, k < 3 → parseFieldDescriptor (TX0 k).2.2.1 = some (tyX0 k) := by decide +kernel
abbrev cX0_init : ByteArray := prog_2_method_1_code
def yX0_init : MethodName := ⟨RX0, "<init>", "()V"⟩
abbrev cX0_beginYear : ByteArray := prog_2_method_2_code
def yX0_beginYear : MethodName := ⟨RX0, "beginYear", "()V"⟩
abbrev cX0_creditOf : ByteArray := prog_2_method_3_code
def yX0_creditOf : MethodName := ⟨RX0, "creditOf", "(LFlockPass$Register;LFlockPass$RuleBook;LFlockPass$Trace;III)I"⟩
abbrev cX0_shareOut : ByteArray := prog_2_method_4_code
def yX0_shareOut : MethodName := ⟨RX0, "shareOut", "(LFlockPass$Register;LFlockPass$RuleBook;LFlockPass$Trace;II)V"⟩
abbrev cX0_divide : ByteArray := prog_2_method_5_code
def yX0_divide : MethodName := ⟨RX0, "divide", "(ILFlockPass$Trace;I)V"⟩
def RX1 : String := "FlockPass$Ledger"
def TX1 : u_T := fun k => match k with
  | 0 => ("FlockPass$Ledger", "cheesesOf", "[J", true)
  | 1 => ("FlockPass$Ledger", "latestOf", "[I", true)
  | 2 => ("FlockPass$Ledger", "balanceOf", "[J", true)
  | 3 => ("FlockPass$Ledger", "moneyOf", "[J", true)
  | 4 => ("FlockPass$Ledger", "ownPaid", "J", false)
  | 5 => ("FlockPass$Ledger", "turn", "[I", true)
  | _ => ("FlockPass$Ledger", "paidOut", "J", false)
def tyX1 : Nat → FieldType := fun k => match k with
  | 0 => .array .long
  | 1 => .array .int
  | 2 => .array .long
  | 3 => .array .long
  | 4 => .long
  | 5 => .array .int
  | _ => .long
abbrev wsX10 : List Cond := u_ws RX1 TX1 7
theorem nmX1 : ∀ a, a < 7 → ∀ b, b < 7 → a ≠ b → (TX1 a).2.1 ≠ (TX1 b).2.1 := by decide +kernel
theorem tyX1_ok : ∀ k, k < 7 → parseFieldDescriptor (TX1 k).2.2.1 = some (tyX1 k) := by decide +kernel
abbrev cX1_init : ByteArray := prog_3_method_1_code
def yX1_init : MethodName := ⟨RX1, "<init>", "()V"⟩
abbrev cX1_placeOf : ByteArray := prog_3_method_2_code
def yX1_placeOf : MethodName := ⟨RX1, "placeOf", "(I)I"⟩
abbrev cX1_partCheeses : ByteArray := prog_3_method_3_code
def yX1_partCheeses : MethodName := ⟨RX1, "partCheeses", "([II)I"⟩
abbrev cX1_takeTurn : ByteArray := prog_3_method_4_code
def yX1_takeTurn : MethodName := ⟨RX1, "takeTurn", "([I)I"⟩
abbrev cX1_oweWork : ByteArray := prog_3_method_5_code
def yX1_oweWork : MethodName := ⟨RX1, "oweWork", "([II)V"⟩
abbrev cX1_payLosses : ByteArray := prog_3_method_6_code
def yX1_payLosses : MethodName := ⟨RX1, "payLosses", "(LFlockPass$Register;LFlockPass$Trace;II)V"⟩
abbrev cX1_payIn : ByteArray := prog_3_method_7_code
def yX1_payIn : MethodName := ⟨RX1, "payIn", "([I)V"⟩
abbrev cX1_shareOf : ByteArray := prog_3_method_8_code
def yX1_shareOf : MethodName := ⟨RX1, "shareOf", "(JI[I)J"⟩
def RX2 : String := "FlockPass$Pasture"
def TX2 : u_T := fun k => match k with
  | 0 => ("FlockPass$Pasture", "grassOf", "[I", true)
  | 1 => ("FlockPass$Pasture", "mostOf", "[I", true)
  | 2 => ("FlockPass$Pasture", "growthOf", "[I", true)
  | 3 => ("FlockPass$Pasture", "heights", "I", false)
  | 4 => ("FlockPass$Pasture", "snow", "I", false)
  | 5 => ("FlockPass$Pasture", "flockAt", "I", false)
  | 6 => ("FlockPass$Pasture", "hunger", "I", false)
  | _ => ("FlockPass$Pasture", "eaten", "J", false)
def tyX2 : Nat → FieldType := fun k => match k with
  | 0 => .array .int
  | 1 => .array .int
  | 2 => .array .int
  | 3 => .int
  | 4 => .int
  | 5 => .int
  | 6 => .int
  | _ => .long
abbrev wsX20 : List Cond := u_ws RX2 TX2 8
theorem nmX2 : ∀ a, a < 8 → ∀ b, b < 8 → a ≠ b → (TX2 a).2.1 ≠ (TX2 b).2.1 := by decide +kernel
theorem tyX2_ok : ∀ k, k < 8 → parseFieldDescriptor (TX2 k).2.2.1 = some (tyX2 k) := by decide +kernel
abbrev cX2_init : ByteArray := prog_4_method_1_code
def yX2_init : MethodName := ⟨RX2, "<init>", "()V"⟩
abbrev cX2_makeHeights : ByteArray := prog_4_method_2_code
def yX2_makeHeights : MethodName := ⟨RX2, "makeHeights", "(I)V"⟩
abbrev cX2_has : ByteArray := prog_4_method_3_code
def yX2_has : MethodName := ⟨RX2, "has", "(I)Z"⟩
abbrev cX2_isOpen : ByteArray := prog_4_method_4_code
def yX2_isOpen : MethodName := ⟨RX2, "isOpen", "()Z"⟩
abbrev cX2_canReach : ByteArray := prog_4_method_5_code
def yX2_canReach : MethodName := ⟨RX2, "canReach", "(I)Z"⟩
abbrev cX2_passDay : ByteArray := prog_4_method_6_code
def yX2_passDay : MethodName := ⟨RX2, "passDay", "(III)V"⟩
abbrev cX2_graze : ByteArray := prog_4_method_7_code
def yX2_graze : MethodName := ⟨RX2, "graze", "(I)V"⟩
abbrev cX2_gainOn : ByteArray := prog_4_method_8_code
def yX2_gainOn : MethodName := ⟨RX2, "gainOn", "(II)I"⟩
abbrev cX2_grown : ByteArray := prog_4_method_9_code
def yX2_grown : MethodName := ⟨RX2, "grown", "(III)I"⟩
def RX3 : String := "FlockPass$Planner"
def TX3 : u_T := fun k => match k with
  | 0 => ("FlockPass$Planner", "bestPath", "[I", true)
  | 1 => ("FlockPass$Planner", "length", "I", false)
  | 2 => ("FlockPass$Planner", "path", "[I", true)
  | 3 => ("FlockPass$Planner", "rows", "[I", true)
  | 4 => ("FlockPass$Planner", "mostOf", "[I", true)
  | 5 => ("FlockPass$Planner", "gainOf", "[I", true)
  | 6 => ("FlockPass$Planner", "heights", "I", false)
  | 7 => ("FlockPass$Planner", "wanted", "I", false)
  | 8 => ("FlockPass$Planner", "bestHunger", "I", false)
  | _ => ("FlockPass$Planner", "bestGrass", "I", false)
def tyX3 : Nat → FieldType := fun k => match k with
  | 0 => .array .int
  | 1 => .int
  | 2 => .array .int
  | 3 => .array .int
  | 4 => .array .int
  | 5 => .array .int
  | 6 => .int
  | 7 => .int
  | 8 => .int
  | _ => .int
abbrev wsX30 : List Cond := u_ws RX3 TX3 10
theorem nmX3 : ∀ a, a < 10 → ∀ b, b < 10 → a ≠ b → (TX3 a).2.1 ≠ (TX3 b).2.1 := by decide +kernel
theorem tyX3_ok : ∀ k, k < 10 → parseFieldDescriptor (TX3 k).2.2.1 = some (tyX3 k) := by decide +kernel
abbrev cX3_init : ByteArray := prog_5_method_1_code
def yX3_init : MethodName := ⟨RX3, "<init>", "()V"⟩
abbrev cX3_findBest : ByteArray := prog_5_method_2_code
def yX3_findBest : MethodName := ⟨RX3, "findBest", "(LFlockPass$Pasture;III)I"⟩
abbrev cX3_explore : ByteArray := prog_5_method_3_code
def yX3_explore : MethodName := ⟨RX3, "explore", "(LFlockPass$Planner;III)V"⟩
abbrev cX3_passDay : ByteArray := prog_5_method_4_code
def yX3_passDay : MethodName := ⟨RX3, "passDay", "(II)I"⟩
abbrev cX3_judge : ByteArray := prog_5_method_5_code
def yX3_judge : MethodName := ⟨RX3, "judge", "(I)V"⟩
def RX4 : String := "FlockPass$Register"
def TX4 : u_T := fun k => match k with
  | 0 => ("FlockPass$Register", "firstOwnerOf", "[I", true)
  | 1 => ("FlockPass$Register", "gone", "[Z", true)
  | 2 => ("FlockPass$Register", "size", "I", false)
  | 3 => ("FlockPass$Register", "actOf", "[I", true)
  | 4 => ("FlockPass$Register", "sheepOf", "[I", true)
  | 5 => ("FlockPass$Register", "dayOf", "[I", true)
  | 6 => ("FlockPass$Register", "buyerOf", "[I", true)
  | 7 => ("FlockPass$Register", "order", "[I", true)
  | _ => ("FlockPass$Register", "entries", "I", false)
def tyX4 : Nat → FieldType := fun k => match k with
  | 0 => .array .int
  | 1 => .array .boolean
  | 2 => .int
  | 3 => .array .int
  | 4 => .array .int
  | 5 => .array .int
  | 6 => .array .int
  | 7 => .array .int
  | _ => .int
abbrev wsX40 : List Cond := u_ws RX4 TX4 9
theorem nmX4 : ∀ a, a < 9 → ∀ b, b < 9 → a ≠ b → (TX4 a).2.1 ≠ (TX4 b).2.1 := by decide +kernel
theorem tyX4_ok : ∀ k, k < 9 → parseFieldDescriptor (TX4 k).2.2.1 = some (tyX4 k) := by decide +kernel
abbrev cX4_init : ByteArray := prog_6_method_1_code
def yX4_init : MethodName := ⟨RX4, "<init>", "()V"⟩
abbrev cX4_has : ByteArray := prog_6_method_2_code
def yX4_has : MethodName := ⟨RX4, "has", "(I)Z"⟩
abbrev cX4_isKnowing : ByteArray := prog_6_method_3_code
def yX4_isKnowing : MethodName := ⟨RX4, "isKnowing", "(I)Z"⟩
abbrev cX4_add : ByteArray := prog_6_method_4_code
def yX4_add : MethodName := ⟨RX4, "add", "(I)I"⟩
abbrev cX4_enter : ByteArray := prog_6_method_5_code
def yX4_enter : MethodName := ⟨RX4, "enter", "(IIIILFlockPass$Trace;)I"⟩
abbrev cX4_putInOrder : ByteArray := prog_6_method_6_code
def yX4_putInOrder : MethodName := ⟨RX4, "putInOrder", "(I)I"⟩
abbrev cX4_takeBack : ByteArray := prog_6_method_7_code
def yX4_takeBack : MethodName := ⟨RX4, "takeBack", "(I)V"⟩
abbrev cX4_upOn : ByteArray := prog_6_method_8_code
def yX4_upOn : MethodName := ⟨RX4, "upOn", "(I)I"⟩
abbrev cX4_livingOf : ByteArray := prog_6_method_9_code
def yX4_livingOf : MethodName := ⟨RX4, "livingOf", "(IILFlockPass$Trace;)I"⟩
abbrev cX4_beginYear : ByteArray := prog_6_method_10_code
def yX4_beginYear : MethodName := ⟨RX4, "beginYear", "(ILFlockPass$Trace;)V"⟩
def RX5 : String := "FlockPass$RuleBook"
def TX5 : u_T := fun k => match k with
  | 0 => ("FlockPass$RuleBook", "numbers", "[I", true)
  | _ => ("FlockPass$RuleBook", "draft", "[I", true)
def tyX5 : Nat → FieldType := fun k => match k with
  | 0 => .array .int
  | _ => .array .int
abbrev wsX50 : List Cond := u_ws RX5 TX5 2
theorem nmX5 : ∀ a, a < 2 → ∀ b, b < 2 → a ≠ b → (TX5 a).2.1 ≠ (TX5 b).2.1 := by decide +kernel
theorem tyX5_ok : ∀ k, k < 2 → parseFieldDescriptor (TX5 k).2.2.1 = some (tyX5 k) := by decide +kernel
abbrev cX5_init : ByteArray := prog_7_method_1_code
def yX5_init : MethodName := ⟨RX5, "<init>", "()V"⟩
abbrev cX5_read : ByteArray := prog_7_method_2_code
def yX5_read : MethodName := ⟨RX5, "read", "(LFlockPass$Tape;I)I"⟩
abbrev cX5_setFirst : ByteArray := prog_7_method_3_code
def yX5_setFirst : MethodName := ⟨RX5, "setFirst", "([I)V"⟩
abbrev cX5_fault : ByteArray := prog_7_method_4_code
def yX5_fault : MethodName := ⟨RX5, "fault", "(II)I"⟩
abbrev cX5_letterOf : ByteArray := prog_7_method_5_code
def yX5_letterOf : MethodName := ⟨RX5, "letterOf", "(I)I"⟩
abbrev cX5_isDigit : ByteArray := prog_7_method_6_code
def yX5_isDigit : MethodName := ⟨RX5, "isDigit", "(I)Z"⟩
abbrev cX5_digitsEnd : ByteArray := prog_7_method_7_code
def yX5_digitsEnd : MethodName := ⟨RX5, "digitsEnd", "(LFlockPass$Tape;II)I"⟩
abbrev cX5_numberAt : ByteArray := prog_7_method_8_code
def yX5_numberAt : MethodName := ⟨RX5, "numberAt", "(LFlockPass$Tape;II)I"⟩
def RX6 : String := "FlockPass$Tape"
def TX6 : u_T := fun k => match k with
  | 0 => ("FlockPass$Tape", "bytes", "[I", true)
  | _ => ("FlockPass$Tape", "size", "I", false)
def tyX6 : Nat → FieldType := fun k => match k with
  | 0 => .array .int
  | _ => .int
abbrev wsX60 : List Cond := u_ws RX6 TX6 2
theorem nmX6 : ∀ a, a < 2 → ∀ b, b < 2 → a ≠ b → (TX6 a).2.1 ≠ (TX6 b).2.1 := by decide +kernel
theorem tyX6_ok : ∀ k, k < 2 → parseFieldDescriptor (TX6 k).2.2.1 = some (tyX6 k) := by decide +kernel
abbrev cX6_init : ByteArray := prog_8_method_1_code
def yX6_init : MethodName := ⟨RX6, "<init>", "()V"⟩
abbrev cX6_append : ByteArray := prog_8_method_2_code
def yX6_append : MethodName := ⟨RX6, "append", "(I)V"⟩
def RX7 : String := "FlockPass$Trace"
def TX7 : u_T := fun k => match k with
  | 0 => ("FlockPass$Trace", "owner", "I", false)
  | 1 => ("FlockPass$Trace", "up", "Z", false)
  | 2 => ("FlockPass$Trace", "dead", "Z", false)
  | 3 => ("FlockPass$Trace", "daysUp", "I", false)
  | 4 => ("FlockPass$Trace", "daysHad", "[I", true)
  | _ => ("FlockPass$Trace", "firstUntold", "I", false)
def tyX7 : Nat → FieldType := fun k => match k with
  | 0 => .int
  | 1 => .boolean
  | 2 => .boolean
  | 3 => .int
  | 4 => .array .int
  | _ => .int
abbrev wsX70 : List Cond := u_ws RX7 TX7 6
theorem nmX7 : ∀ a, a < 6 → ∀ b, b < 6 → a ≠ b → (TX7 a).2.1 ≠ (TX7 b).2.1 := by decide +kernel
theorem tyX7_ok : ∀ k, k < 6 → parseFieldDescriptor (TX7 k).2.2.1 = some (tyX7 k) := by decide +kernel
abbrev cX7_init : ByteArray := prog_9_method_1_code
def yX7_init : MethodName := ⟨RX7, "<init>", "()V"⟩
abbrev cX7_replay : ByteArray := prog_9_method_2_code
def yX7_replay : MethodName := ⟨RX7, "replay", "(LFlockPass$Register;III)Z"⟩
abbrev cX7_begin : ByteArray := prog_9_method_3_code
def yX7_begin : MethodName := ⟨RX7, "begin", "(IZ)V"⟩
abbrev cX7_fits : ByteArray := prog_9_method_4_code
def yX7_fits : MethodName := ⟨RX7, "fits", "(II)Z"⟩
abbrev cX7_follow : ByteArray := prog_9_method_5_code
def yX7_follow : MethodName := ⟨RX7, "follow", "(II)V"⟩
abbrev cX7_tallyBefore : ByteArray := prog_9_method_6_code
def yX7_tallyBefore : MethodName := ⟨RX7, "tallyBefore", "(I)V"⟩
def RX8 : String := "FlockPass"
def TX8 : u_T := fun k => match k with
  | 0 => ("FlockPass", "tape", "LFlockPass$Tape;", true)
  | 1 => ("FlockPass", "book", "LFlockPass$RuleBook;", true)
  | 2 => ("FlockPass", "pasture", "LFlockPass$Pasture;", true)
  | 3 => ("FlockPass", "planner", "LFlockPass$Planner;", true)
  | 4 => ("FlockPass", "register", "LFlockPass$Register;", true)
  | 5 => ("FlockPass", "trace", "LFlockPass$Trace;", true)
  | 6 => ("FlockPass", "dairy", "LFlockPass$Dairy;", true)
  | 7 => ("FlockPass", "ledger", "LFlockPass$Ledger;", true)
  | 8 => ("FlockPass", "year", "I", false)
  | _ => ("FlockPass", "today", "I", false)
def tyX8 : Nat → FieldType := fun k => match k with
  | 0 => .object "FlockPass$Tape"
  | 1 => .object "FlockPass$RuleBook"
  | 2 => .object "FlockPass$Pasture"
  | 3 => .object "FlockPass$Planner"
  | 4 => .object "FlockPass$Register"
  | 5 => .object "FlockPass$Trace"
  | 6 => .object "FlockPass$Dairy"
  | 7 => .object "FlockPass$Ledger"
  | 8 => .int
  | _ => .int
abbrev wsX80 : List Cond := u_ws RX8 TX8 10
theorem nmX8 : ∀ a, a < 10 → ∀ b, b < 10 → a ≠ b → (TX8 a).2.1 ≠ (TX8 b).2.1 := by decide +kernel
theorem tyX8_ok : ∀ k, k < 10 → parseFieldDescriptor (TX8 k).2.2.1 = some (tyX8 k) := by decide +kernel
abbrev cX8_init : ByteArray := prog_1_method_1_code
def yX8_init : MethodName := ⟨RX8, "<init>", "()V"⟩
abbrev cX8_feed : ByteArray := prog_1_method_2_code
def yX8_feed : MethodName := ⟨RX8, "feed", "(IIIII)I"⟩
abbrev cX8_rules : ByteArray := prog_1_method_3_code
def yX8_rules : MethodName := ⟨RX8, "rules", "(I)I"⟩
abbrev cX8_alp : ByteArray := prog_1_method_4_code
def yX8_alp : MethodName := ⟨RX8, "alp", "(I)Z"⟩
abbrev cX8_height : ByteArray := prog_1_method_5_code
def yX8_height : MethodName := ⟨RX8, "height", "(IIII)Z"⟩
abbrev cX8_sheep : ByteArray := prog_1_method_6_code
def yX8_sheep : MethodName := ⟨RX8, "sheep", "(I)I"⟩
abbrev cX8_move : ByteArray := prog_1_method_7_code
def yX8_move : MethodName := ⟨RX8, "move", "(I)Z"⟩
abbrev cX8_day : ByteArray := prog_1_method_8_code
def yX8_day : MethodName := ⟨RX8, "day", "(II)I"⟩
abbrev cX8_act : ByteArray := prog_1_method_9_code
def yX8_act : MethodName := ⟨RX8, "act", "(IIII)I"⟩
abbrev cX8_milking : ByteArray := prog_1_method_10_code
def yX8_milking : MethodName := ⟨RX8, "milking", "(I)Z"⟩
abbrev cX8_milk : ByteArray := prog_1_method_11_code
def yX8_milk : MethodName := ⟨RX8, "milk", "(II)Z"⟩
abbrev cX8_close : ByteArray := prog_1_method_12_code
def yX8_close : MethodName := ⟨RX8, "close", "(I)I"⟩
abbrev cX8_work : ByteArray := prog_1_method_13_code
def yX8_work : MethodName := ⟨RX8, "work", "(II)Z"⟩
abbrev cX8_look : ByteArray := prog_1_method_14_code
def yX8_look : MethodName := ⟨RX8, "look", "(IIII)I"⟩
abbrev cX8_credit : ByteArray := prog_1_method_15_code
def yX8_credit : MethodName := ⟨RX8, "credit", "(II)I"⟩
abbrev cX8_part : ByteArray := prog_1_method_16_code
def yX8_part : MethodName := ⟨RX8, "part", "(II)I"⟩
abbrev cX8_way : ByteArray := prog_1_method_17_code
def yX8_way : MethodName := ⟨RX8, "way", "(II)I"⟩
abbrev cX8_step : ByteArray := prog_1_method_18_code
def yX8_step : MethodName := ⟨RX8, "step", "(I)I"⟩
abbrev cX8_grass : ByteArray := prog_1_method_19_code
def yX8_grass : MethodName := ⟨RX8, "grass", "(II)I"⟩
abbrev cX8_told : ByteArray := prog_1_method_20_code
def yX8_told : MethodName := ⟨RX8, "told", "(II)J"⟩
abbrev cX8_entry : ByteArray := prog_1_method_21_code
def yX8_entry : MethodName := ⟨RX8, "entry", "(II)I"⟩
abbrev cX8_rule : ByteArray := prog_1_method_22_code
def yX8_rule : MethodName := ⟨RX8, "rule", "(I)I"⟩
abbrev cX8_count : ByteArray := prog_1_method_23_code
def yX8_count : MethodName := ⟨RX8, "count", "(I)J"⟩
abbrev cX8_beginNextYear : ByteArray := prog_1_method_24_code
def yX8_beginNextYear : MethodName := ⟨RX8, "beginNextYear", "()V"⟩
abbrev cX8_within : ByteArray := prog_1_method_25_code
def yX8_within : MethodName := ⟨RX8, "within", "(III)Z"⟩
abbrev cX8_isOwner : ByteArray := prog_1_method_26_code
def yX8_isOwner : MethodName := ⟨RX8, "isOwner", "(I)Z"⟩
abbrev cX8_isWarmth : ByteArray := prog_1_method_27_code
def yX8_isWarmth : MethodName := ⟨RX8, "isWarmth", "(I)Z"⟩
def RX9 : String := "FlockPassModel"
def TX9 : u_T := fun k => match k with
  | 0 => ("FlockPassModel", "tape", "[B", true)
  | 1 => ("FlockPassModel", "taped", "I", false)
  | 2 => ("FlockPassModel", "fault", "I", false)
  | 3 => ("FlockPassModel", "ruleL", "I", false)
  | 4 => ("FlockPassModel", "ruleM", "I", false)
  | 5 => ("FlockPassModel", "ruleW", "I", false)
  | 6 => ("FlockPassModel", "ruleV", "I", false)
  | 7 => ("FlockPassModel", "said", "[I", true)
  | 8 => ("FlockPassModel", "heights", "I", false)
  | 9 => ("FlockPassModel", "flock", "I", false)
  | 10 => ("FlockPassModel", "snow", "I", false)
  | 11 => ("FlockPassModel", "year", "I", false)
  | 12 => ("FlockPassModel", "days", "I", false)
  | 13 => ("FlockPassModel", "hunger", "I", false)
  | 14 => ("FlockPassModel", "grass", "[I", true)
  | 15 => ("FlockPassModel", "most", "[I", true)
  | 16 => ("FlockPassModel", "growth", "[I", true)
  | 17 => ("FlockPassModel", "eaten", "J", false)
  | 18 => ("FlockPassModel", "was", "[I", true)
  | 19 => ("FlockPassModel", "way", "[I", true)
  | 20 => ("FlockPassModel", "bestWay", "[I", true)
  | 21 => ("FlockPassModel", "ways", "I", false)
  | 22 => ("FlockPassModel", "bestHunger", "I", false)
  | 23 => ("FlockPassModel", "bestGrass", "I", false)
  | 24 => ("FlockPassModel", "sheep", "I", false)
  | 25 => ("FlockPassModel", "entries", "I", false)
  | 26 => ("FlockPassModel", "milkingDay", "I", false)
  | 27 => ("FlockPassModel", "owner", "[I", true)
  | 28 => ("FlockPassModel", "milk", "[I", true)
  | 29 => ("FlockPassModel", "wasDead", "[Z", true)
  | 30 => ("FlockPassModel", "what", "[I", true)
  | 31 => ("FlockPassModel", "of", "[I", true)
  | 32 => ("FlockPassModel", "on", "[I", true)
  | 33 => ("FlockPassModel", "to", "[I", true)
  | 34 => ("FlockPassModel", "isUp", "Z", false)
  | 35 => ("FlockPassModel", "isDead", "Z", false)
  | 36 => ("FlockPassModel", "has", "I", false)
  | 37 => ("FlockPassModel", "daysOf", "[I", true)
  | 38 => ("FlockPassModel", "parts", "[I", true)
  | 39 => ("FlockPassModel", "turn", "[I", true)
  | 40 => ("FlockPassModel", "cheeses", "[I", true)
  | 41 => ("FlockPassModel", "latest", "[I", true)
  | 42 => ("FlockPassModel", "balance", "[J", true)
  | 43 => ("FlockPassModel", "money", "[J", true)
  | _ => ("FlockPassModel", "own", "J", false)
def tyX9 : Nat → FieldType := fun k => match k with
  | 0 => .array .byte
  | 1 => .int
  | 2 => .int
  | 3 => .int
  | 4 => .int
  | 5 => .int
  | 6 => .int
  | 7 => .array .int
  | 8 => .int
  | 9 => .int
  | 10 => .int
  | 11 => .int
  | 12 => .int
  | 13 => .int
  | 14 => .array .int
  | 15 => .array .int
  | 16 => .array .int
  | 17 => .long
  | 18 => .array .int
  | 19 => .array .int
  | 20 => .array .int
  | 21 => .int
  | 22 => .int
  | 23 => .int
  | 24 => .int
  | 25 => .int
  | 26 => .int
  | 27 => .array .int
  | 28 => .array .int
  | 29 => .array .boolean
  | 30 => .array .int
  | 31 => .array .int
  | 32 => .array .int
  | 33 => .array .int
  | 34 => .boolean
  | 35 => .boolean
  | 36 => .int
  | 37 => .array .int
  | 38 => .array .int
  | 39 => .array .int
  | 40 => .array .int
  | 41 => .array .int
  | 42 => .array .long
  | 43 => .array .long
  | _ => .long
abbrev wsX90 : List Cond := u_ws RX9 TX9 45
theorem nmX9 : ∀ a, a < 45 → ∀ b, b < 45 → a ≠ b → (TX9 a).2.1 ≠ (TX9 b).2.1 := by decide +kernel
theorem tyX9_ok : ∀ k, k < 45 → parseFieldDescriptor (TX9 k).2.2.1 = some (tyX9 k) := by decide +kernel
abbrev cX9_init : ByteArray := prog_11_method_1_code
def yX9_init : MethodName := ⟨RX9, "<init>", "()V"⟩
abbrev cX9_types : ByteArray := prog_11_method_2_code
def yX9_types : MethodName := ⟨RX9, "types", "(I)V"⟩
abbrev cX9_feed : ByteArray := prog_11_method_3_code
def yX9_feed : MethodName := ⟨RX9, "feed", "(IIIII)I"⟩
abbrev cX9_letterOf : ByteArray := prog_11_method_4_code
def yX9_letterOf : MethodName := ⟨RX9, "letterOf", "(I)I"⟩
abbrev cX9_isDigit : ByteArray := prog_11_method_5_code
def yX9_isDigit : MethodName := ⟨RX9, "isDigit", "(II)Z"⟩
abbrev cX9_parse : ByteArray := prog_11_method_6_code
def yX9_parse : MethodName := ⟨RX9, "parse", "(I)I"⟩
abbrev cX9_rules : ByteArray := prog_11_method_7_code
def yX9_rules : MethodName := ⟨RX9, "rules", "(I)I"⟩
abbrev cX9_rule : ByteArray := prog_11_method_8_code
def yX9_rule : MethodName := ⟨RX9, "rule", "(I)I"⟩
abbrev cX9_alp : ByteArray := prog_11_method_9_code
def yX9_alp : MethodName := ⟨RX9, "alp", "(I)Z"⟩
abbrev cX9_isHeight : ByteArray := prog_11_method_10_code
def yX9_isHeight : MethodName := ⟨RX9, "isHeight", "(I)Z"⟩
abbrev cX9_height : ByteArray := prog_11_method_11_code
def yX9_height : MethodName := ⟨RX9, "height", "(IIII)Z"⟩
abbrev cX9_grass : ByteArray := prog_11_method_12_code
def yX9_grass : MethodName := ⟨RX9, "grass", "(II)I"⟩
abbrev cX9_move : ByteArray := prog_11_method_13_code
def yX9_move : MethodName := ⟨RX9, "move", "(I)Z"⟩
abbrev cX9_grows : ByteArray := prog_11_method_14_code
def yX9_grows : MethodName := ⟨RX9, "grows", "(I)V"⟩
abbrev cX9_eats : ByteArray := prog_11_method_15_code
def yX9_eats : MethodName := ⟨RX9, "eats", "(II)I"⟩
abbrev cX9_day : ByteArray := prog_11_method_16_code
def yX9_day : MethodName := ⟨RX9, "day", "(II)I"⟩
abbrev cX9_lays : ByteArray := prog_11_method_17_code
def yX9_lays : MethodName := ⟨RX9, "lays", "(II)Z"⟩
abbrev cX9_isLess : ByteArray := prog_11_method_18_code
def yX9_isLess : MethodName := ⟨RX9, "isLess", "(I)Z"⟩
abbrev cX9_way : ByteArray := prog_11_method_19_code
def yX9_way : MethodName := ⟨RX9, "way", "(II)I"⟩
abbrev cX9_step : ByteArray := prog_11_method_20_code
def yX9_step : MethodName := ⟨RX9, "step", "(I)I"⟩
abbrev cX9_sheep : ByteArray := prog_11_method_21_code
def yX9_sheep : MethodName := ⟨RX9, "sheep", "(I)I"⟩
abbrev cX9_isSheep : ByteArray := prog_11_method_22_code
def yX9_isSheep : MethodName := ⟨RX9, "isSheep", "(I)Z"⟩
abbrev cX9_fitsAct : ByteArray := prog_11_method_23_code
def yX9_fitsAct : MethodName := ⟨RX9, "fitsAct", "(I)Z"⟩
abbrev cX9_does : ByteArray := prog_11_method_24_code
def yX9_does : MethodName := ⟨RX9, "does", "(I)V"⟩
abbrev cX9_asks : ByteArray := prog_11_method_25_code
def yX9_asks : MethodName := ⟨RX9, "asks", "(III)Z"⟩
abbrev cX9_ups : ByteArray := prog_11_method_26_code
def yX9_ups : MethodName := ⟨RX9, "ups", "(I)I"⟩
abbrev cX9_act : ByteArray := prog_11_method_27_code
def yX9_act : MethodName := ⟨RX9, "act", "(IIII)I"⟩
abbrev cX9_entry : ByteArray := prog_11_method_28_code
def yX9_entry : MethodName := ⟨RX9, "entry", "(II)I"⟩
abbrev cX9_isKnowing : ByteArray := prog_11_method_29_code
def yX9_isKnowing : MethodName := ⟨RX9, "isKnowing", "(I)Z"⟩
abbrev cX9_look : ByteArray := prog_11_method_30_code
def yX9_look : MethodName := ⟨RX9, "look", "(IIII)I"⟩
abbrev cX9_milking : ByteArray := prog_11_method_31_code
def yX9_milking : MethodName := ⟨RX9, "milking", "(I)Z"⟩
abbrev cX9_milk : ByteArray := prog_11_method_32_code
def yX9_milk : MethodName := ⟨RX9, "milk", "(II)Z"⟩
abbrev cX9_creditOf : ByteArray := prog_11_method_33_code
def yX9_creditOf : MethodName := ⟨RX9, "creditOf", "(II)I"⟩
abbrev cX9_credit : ByteArray := prog_11_method_34_code
def yX9_credit : MethodName := ⟨RX9, "credit", "(II)I"⟩
abbrev cX9_reckons : ByteArray := prog_11_method_35_code
def yX9_reckons : MethodName := ⟨RX9, "reckons", "(I)V"⟩
abbrev cX9_part : ByteArray := prog_11_method_36_code
def yX9_part : MethodName := ⟨RX9, "part", "(II)I"⟩
abbrev cX9_all : ByteArray := prog_11_method_37_code
def yX9_all : MethodName := ⟨RX9, "all", "()J"⟩
abbrev cX9_gives : ByteArray := prog_11_method_38_code
def yX9_gives : MethodName := ⟨RX9, "gives", "(II)V"⟩
abbrev cX9_endsTurn : ByteArray := prog_11_method_39_code
def yX9_endsTurn : MethodName := ⟨RX9, "endsTurn", "(I)V"⟩
abbrev cX9_wasUp : ByteArray := prog_11_method_40_code
def yX9_wasUp : MethodName := ⟨RX9, "wasUp", "(I)Z"⟩
abbrev cX9_close : ByteArray := prog_11_method_41_code
def yX9_close : MethodName := ⟨RX9, "close", "(I)I"⟩
abbrev cX9_pays : ByteArray := prog_11_method_42_code
def yX9_pays : MethodName := ⟨RX9, "pays", "(J)V"⟩
abbrev cX9_begins : ByteArray := prog_11_method_43_code
def yX9_begins : MethodName := ⟨RX9, "begins", "()V"⟩
abbrev cX9_work : ByteArray := prog_11_method_44_code
def yX9_work : MethodName := ⟨RX9, "work", "(II)Z"⟩
abbrev cX9_herd : ByteArray := prog_11_method_45_code
def yX9_herd : MethodName := ⟨RX9, "herd", "(I)I"⟩
abbrev cX9_told : ByteArray := prog_11_method_46_code
def yX9_told : MethodName := ⟨RX9, "told", "(II)J"⟩
abbrev cX9_count : ByteArray := prog_11_method_47_code
def yX9_count : MethodName := ⟨RX9, "count", "(I)J"⟩
def RL : String := "FlockPassLaw"
abbrev cL_law : ByteArray := code
def yL_law : MethodName := ⟨RL, "law", "([I)Z"⟩
abbrev vwCl : List vw_C := [(RX0, TX0, 3), (RX1, TX1, 7), (RX2, TX2, 8), (RX3, TX3, 10), (RX4, TX4, 9), (RX5, TX5, 2), (RX6, TX6, 2), (RX7, TX7, 6), (RX8, TX8, 10), (RX9, TX9, 45)]
end
section
/-! My own layer over the kit: one list of words for all methods, a state as numbers and rows, contracts by functions that answer an Option. -/
def zw_all : List Cond := lw_tbl.filter goodWord
theorem zw_good : ∀ w ∈ zw_all, goodWord w = true := fun _ h => (List.mem_filter.mp h).2
theorem zw_tbl : ∀ w ∈ zw_all, w ∈ lw_tbl := fun _ h => (List.mem_filter.mp h).1
theorem zw_in {c0 : Cond} {w : Cond} (h : w ∈ zw_all) : w ∈ c0 :: zw_all := List.mem_cons_of_mem _ h
theorem zw_goodIn {big : List Cond} (hb : ∀ w ∈ zw_all, w ∈ big) {c1 : Cond} (h : c1 ∈ zw_all) : GoodIn big (c1 :: zw_all) := by
  intro w hw
  rcases List.mem_cons.mp hw with e | e
  · rw [e]; exact ⟨hb _ h, good_of_word (zw_good _ h)⟩
  · exact ⟨hb _ e, good_of_word (zw_good _ e)⟩
/-- the words of nest mates, which no list of good words holds -/
def zn_all : List (String × Nat × MethodName × String) := [("FlockPass", 9, ⟨"FlockPass$Tape", "<init>", "()V"⟩, "FlockPass"), ("FlockPass", 32, ⟨"FlockPass$Planner", "<init>", "()V"⟩, "FlockPass"), ("FlockPass", 39, ⟨"FlockPass$Register", "<init>", "()V"⟩, "FlockPass"), ("FlockPass", 46, ⟨"FlockPass$Trace", "<init>", "()V"⟩, "FlockPass"), ("FlockPass", 53, ⟨"FlockPass$Dairy", "<init>", "()V"⟩, "FlockPass"), ("FlockPass$RuleBook", 52, ⟨"FlockPass", "within", "(III)Z"⟩, "FlockPass"), ("FlockPass$Pasture", 48, ⟨"FlockPass", "within", "(III)Z"⟩, "FlockPass"), ("FlockPass$Register", 41, ⟨"FlockPass", "within", "(III)Z"⟩, "FlockPass")]
-- the state
abbrev zs_T : Type := (Nat → Int32) × (Nat → Int64) × (Nat → Nat → Int32) × (Nat → Nat → Int64)
def zs_i (u : zs_T) (k : Nat) : Int32 := u.1 k
def zs_l (u : zs_T) (k : Nat) : Int64 := u.2.1 k
def zs_a (u : zs_T) (k : Nat) : Nat → Int32 := u.2.2.1 k
def zs_b (u : zs_T) (k : Nat) : Nat → Int64 := u.2.2.2 k
def zs_si (u : zs_T) (k : Nat) (v : Int32) : zs_T := (upd u.1 k v, u.2)
def zs_sl (u : zs_T) (k : Nat) (v : Int64) : zs_T := (u.1, vp_updL u.2.1 k v, u.2.2)
def zs_sa (u : zs_T) (k : Nat) (f : Nat → Int32) : zs_T := (u.1, u.2.1, va_up u.2.2.1 k f, u.2.2.2)
def zs_sb (u : zs_T) (k : Nat) (f : Nat → Int64) : zs_T := (u.1, u.2.1, u.2.2.1, va_up u.2.2.2 k f)
def zs_0 : zs_T := (fun _ => 0, fun _ => 0, fun _ _ => 0, fun _ _ => 0)
-- functions that may fail
def zf_bi {ρ : Type} (x : Option (Int32 × zs_T)) (f : Int32 → zs_T → Option ρ) : Option ρ := match x with
  | none => none
  | some (r, u) => f r u
def zf_bl {ρ : Type} (x : Option (Int64 × zs_T)) (f : Int64 → zs_T → Option ρ) : Option ρ := match x with
  | none => none
  | some (r, u) => f r u
def zf_bv {ρ : Type} (x : Option zs_T) (f : zs_T → Option ρ) : Option ρ := match x with
  | none => none
  | some u => f u
theorem zf_bi_ex {ρ : Type} {x : Option (Int32 × zs_T)} {f : Int32 → zs_T → Option ρ} {z : ρ} (h : zf_bi x f = some z) : ∃ r u, x = some (r, u) ∧ f r u = some z := by
  match x, h with
  | some (r, u), h => exact ⟨r, u, rfl, h⟩
theorem zf_bl_ex {ρ : Type} {x : Option (Int64 × zs_T)} {f : Int64 → zs_T → Option ρ} {z : ρ} (h : zf_bl x f = some z) : ∃ r u, x = some (r, u) ∧ f r u = some z := by
  match x, h with
  | some (r, u), h => exact ⟨r, u, rfl, h⟩
theorem zf_bv_ex {ρ : Type} {x : Option zs_T} {f : zs_T → Option ρ} {z : ρ} (h : zf_bv x f = some z) : ∃ u, x = some u ∧ f u = some z := by
  match x, h with
  | some u, h => exact ⟨u, rfl, h⟩
theorem zf_gd {ρ : Type} {c : Prop} [Decidable c] {x : Option ρ} {z : ρ} (h : (if c then x else none) = some z) : c ∧ x = some z := by
  by_cases hc : c
  · rw [if_pos hc] at h; exact ⟨hc, h⟩
  · rw [if_neg hc] at h; cases h
theorem zf_t {ρ : Type} {c : Prop} [Decidable c] {x y z : ρ} (hc : c) (h : (if c then x else y) = z) : x = z := by rw [if_pos hc] at h; exact h
theorem zf_f {ρ : Type} {c : Prop} [Decidable c] {x y z : ρ} (hc : ¬ c) (h : (if c then x else y) = z) : y = z := by rw [if_neg hc] at h; exact h
/-- an index is in a row of n -/
def zf_in (i : Int32) (n : Nat) : Bool := decide (0 ≤ i.toInt ∧ i.toInt < n)
theorem zf_vin {i : Int32} {n : Nat} (h : zf_in i n = true) : vp_in i n := vp_in_iff.mpr (of_decide_eq_true h)
/-- a truth value -/
def zf_z (x : Int32) : Bool := x == 0 || x == 1
theorem zf_z_nar {x : Int32} (h : zf_z x = true) : narrow .boolean (.int x) = .int x := by
  simp only [zf_z, Bool.or_eq_true, beq_iff_eq] at h
  rcases h with rfl | rfl <;> rfl
theorem zf_z_fit {x : Int32} (h : zf_z x = true) : fits .boolean (.int x) = true := by
  simp only [zf_z, Bool.or_eq_true, beq_iff_eq] at h
  rcases h with rfl | rfl <;> rfl
theorem zf_z_vp {x : Int32} (h : zf_z x = true) : vp_nar .boolean x = x := by
  simp only [zf_z, Bool.or_eq_true, beq_iff_eq] at h
  rcases h with rfl | rfl <;> rfl
/-- a loop: its body is given what comes behind one turn -/
def zf_loop {σ ρ : Type} (body : (σ → Option ρ) → σ → Option ρ) : Nat → σ → Option ρ
  | 0, _ => none
  | n + 1, s => body (zf_loop body n) s
theorem zf_loop_W {σ ρ : Type} {body : (σ → Option ρ) → σ → Option ρ} {z : ρ} (Wp : σ → Prop) (hs : ∀ (again : σ → Option ρ) (s : σ), (∀ s', again s' = some z → Wp s') → body again s = some z → Wp s) : ∀ (n : Nat) (s : σ), zf_loop body n s = some z → Wp s
  | 0, _, h => by cases h
  | n + 1, s, h => hs (zf_loop body n) s (fun s' h' => zf_loop_W Wp hs n s' h') h
theorem zf_ne {x y : Int32} (h : ¬ x = y) : x.toInt ≠ y.toInt := fun e => h (Int32.toInt_inj.mp e)
-- worlds
def zg_ty (cs : Nat → ClassId) : List (ClassId × FieldType) := [(cs 0, .int), (cs 1, .long), (cs 2, .boolean), (cs 3, .byte)]
def zg_N (U : State) : Prop := ∀ q ∈ zn_all, va_Nw (.methodLinkNest q.1 q.2.1 q.2.2.1 q.2.2.2) U
def zg_W (D : va_G) (cs : Nat → ClassId) (A : Nat → Prop) (s : State) (ws : va_W) (H : Heap) (locs : List Loc) : Prop := va_P D vwCl ws H ∧ va_D A ws ∧ va_S A s.heap H locs ∧ va_K D vwCl (zg_ty cs) s ∧ zg_N s ∧ ∀ a, s.heap.size ≤ a → A a
def zg_A (Wf : zs_T → va_W) (sz : Nat) : Nat → Prop := va_A (Wf zs_0) sz
def zg_Pre (D : va_G) (cs : Nat → ClassId) (Wf : zs_T → va_W) (sz : Nat) (u : zs_T) (U : State) : Prop := U.heap.size = sz ∧ va_P D vwCl (Wf u) U.heap ∧ va_K D vwCl (zg_ty cs) U ∧ va_D (fun _ => True) (Wf u) ∧ zg_N U
def zg_Post (D : va_G) (Wf : zs_T → va_W) (A : Nat → Prop) (u : zs_T) (t : State) : Prop := va_P D vwCl (Wf u) t.heap ∧ va_D A (Wf u)
def zg_rm (n : Nat) : Room := { frames := n, cells := 0, slots := 0, locals := 40 * n }
def zg_Ad (Wf : zs_T → va_W) : Prop := ∀ u v, (Wf u).map Prod.fst = (Wf v).map Prod.fst
def zg_Ci (l : Launch) (y : MethodName) (b : ByteArray) (mL : Nat) (ret : Option FieldType) (n : Nat) (D : va_G) (cs : Nat → ClassId) (Wf : zs_T → va_W) (u : zs_T) (av : List Value) (r : Int32) (u' : zs_T) : Prop :=
  ∀ sz, Met l y (.code y b mL ret :: zw_all) (zg_rm n) (va_Pc av (zg_Pre D cs Wf sz u)) (va_Qi (fun r' v => r' = r ∧ v = u') (zg_Post D Wf (zg_A Wf sz)) (zg_A Wf sz)) 0 0 (zg_A Wf sz)
def zg_Cl (l : Launch) (y : MethodName) (b : ByteArray) (mL : Nat) (ret : Option FieldType) (n : Nat) (D : va_G) (cs : Nat → ClassId) (Wf : zs_T → va_W) (u : zs_T) (av : List Value) (r : Int64) (u' : zs_T) : Prop :=
  ∀ sz, Met l y (.code y b mL ret :: zw_all) (zg_rm n) (va_Pc av (zg_Pre D cs Wf sz u)) (va_Ql (fun r' v => r' = r ∧ v = u') (zg_Post D Wf (zg_A Wf sz)) (zg_A Wf sz)) 0 0 (zg_A Wf sz)
def zg_Cv (l : Launch) (y : MethodName) (b : ByteArray) (mL : Nat) (ret : Option FieldType) (n : Nat) (D : va_G) (cs : Nat → ClassId) (Wf : zs_T → va_W) (u : zs_T) (av : List Value) (u' : zs_T) : Prop :=
  ∀ sz, Met l y (.code y b mL ret :: zw_all) (zg_rm n) (va_Pc av (zg_Pre D cs Wf sz u)) (va_Qv (fun v => v = u') (zg_Post D Wf (zg_A Wf sz)) (zg_A Wf sz)) 0 0 (zg_A Wf sz)
theorem zg_AD {Wf : zs_T → va_W} (ha : zg_Ad Wf) {u : zs_T} {sz : Nat} {B : Nat → Prop} (h : va_D B (Wf u)) : va_D (zg_A Wf sz) (Wf u) := by
  refine ⟨h.1, fun k q hk => ?_⟩
  have h1 : ((Wf u).map Prod.fst)[k]? = some q.1 := by rw [List.getElem?_map, hk]; rfl
  rw [ha u zs_0, List.getElem?_map] at h1
  cases h2 : (Wf zs_0)[k]? with
  | none => rw [h2] at h1; cases h1
  | some p =>
    rw [h2] at h1
    have h3 : p.1 = q.1 := Option.some.inj h1
    exact Or.inl ⟨k, p.2, by rw [h2, ← h3]⟩
theorem zg_A_of {Wf : zs_T → va_W} (ha : zg_Ad Wf) {u : zs_T} {sz : Nat} {A : Nat → Prop} (h : va_D A (Wf u)) (hA : ∀ a, sz ≤ a → A a) {a : Nat} (hq : zg_A Wf sz a) : A a := by
  rcases hq with ⟨k, e, h1⟩ | h1
  · have h2 : ((Wf zs_0).map Prod.fst)[k]? = some a := by rw [List.getElem?_map, h1]; rfl
    rw [ha zs_0 u, List.getElem?_map] at h2
    cases h3 : (Wf u)[k]? with
    | none => rw [h3] at h2; cases h2
    | some p =>
      rw [h3] at h2
      have h4 : p.1 = a := Option.some.inj h2
      rw [← h4]; exact h.2 k p h3
  · exact hA a h1
end
section
section ZE
variable {l : Launch} {y : MethodName} {b : ByteArray} {mL n : Nat} {D : va_G} {cs : Nat → ClassId} {Wf : zs_T → va_W} {u u' : zs_T} {av : List Value} {own : String}
theorem zg_start {ret : Option FieldType} {Qc : Nat → Array Value → State → Outcome → State → Prop} {fr : Nat → Addr → Prop} (hy : plainName y.cls = true) (ho : y.cls = own) (ha : zg_Ad Wf)
    (body : ∀ (p : Program) (e : Env) (s : State) (m : MethodId) (below : List Frame) (meth : Method) (c : Code), CallFix p m c b mL s av.toArray (.code y b mL ret :: zw_all) own → meth.sig.returnType = ret → meth.locks = false → zg_W D cs (zg_A Wf s.heap.size) s (Wf u) s.heap [] → W p l e (zg_rm n) s m av.toArray below meth c s.heap [] 0 0 (MQ below (Qc s.heap.size) av.toArray s 0 0 (fr s.heap.size)) (entryFrame m av.toArray mL)) :
    ∀ sz, Met l y (.code y b mL ret :: zw_all) (zg_rm n) (va_Pc av (zg_Pre D cs Wf sz u)) (Qc sz) 0 0 (fr sz) := by
  intro sz
  refine Met.ofW (cc := b) (maxL := mL) (ret := ret) hy rfl ?_
  intro p e s m args below meth c s₁ B hml hv
  obtain ⟨rfl, hsz, hP, hK, hD, hN⟩ := hv
  subst hsz
  refine body p e s m below meth c ⟨B.exec, B.bytes, hml, ?_, atoms_spec (ws := .code y b mL ret :: zw_all) B.pre⟩ B.returns B.notSynchronized ⟨hP, zg_AD ha hD, va_S.rf, hK, hN, fun a h => Or.inr h⟩
  rw [← ho]
  exact findClass_of_methodNamed B.named
theorem zg_Ci_of {r : Int32} (hy : plainName y.cls = true) (ho : y.cls = own) (ha : zg_Ad Wf) (hlv : (lg_sl av).length ≤ mL)
    (body : ∀ (p : Program) (e : Env) (s : State) (m : MethodId) (below : List Frame) (meth : Method) (c : Code) (A : Nat → Prop) (Q : State → Prop), CallFix p m c b mL s av.toArray (.code y b mL (some .int) :: zw_all) own →
      (∀ (H : Heap) (locs : List Loc) (pc : Nat) (ls : Array Slot) (a : Int32) (v : zs_T), some (a, v) = some (r, u') → zg_W D cs A s (Wf v) H locs → decode b pc = .ok (.ireturn, 1) → W p l e (zg_rm n) s m av.toArray below meth c H locs 0 0 Q (F0 m pc ls [.int a])) →
      zg_W D cs A s (Wf u) s.heap [] → ∀ ls, lv_has ls mL (lv_args 0 av) → W p l e (zg_rm n) s m av.toArray below meth c s.heap [] 0 0 Q (F0 m 0 ls [])) : zg_Ci l y b mL (some .int) n D cs Wf u av r u' := by
  refine zg_start hy ho ha fun p e s m below meth c C hr hlocks w => ?_
  rw [lg_entry_eq]
  refine body p e s m below meth c _ _ C ?_ w _ (lv_entry av hlv)
  intro H locs pc ls a v hf w hd
  cases hf
  exact W.iret C.1 C.2.1 hr (fun t ht _ => ⟨⟨_, _, rfl, ⟨rfl, rfl⟩, by rw [ht]; exact w.1, w.2.1⟩, w.2.2.1.F ht⟩) w.2.2.1.2.2 hd hlocks
theorem zg_Cz_of {r : Int32} (hy : plainName y.cls = true) (ho : y.cls = own) (ha : zg_Ad Wf) (hlv : (lg_sl av).length ≤ mL)
    (body : ∀ (p : Program) (e : Env) (s : State) (m : MethodId) (below : List Frame) (meth : Method) (c : Code) (A : Nat → Prop) (Q : State → Prop), CallFix p m c b mL s av.toArray (.code y b mL (some .boolean) :: zw_all) own →
      (∀ (H : Heap) (locs : List Loc) (pc : Nat) (ls : Array Slot) (a : Int32) (v : zs_T), zf_z a = true → some (a, v) = some (r, u') → zg_W D cs A s (Wf v) H locs → decode b pc = .ok (.ireturn, 1) → W p l e (zg_rm n) s m av.toArray below meth c H locs 0 0 Q (F0 m pc ls [.int a])) →
      zg_W D cs A s (Wf u) s.heap [] → ∀ ls, lv_has ls mL (lv_args 0 av) → W p l e (zg_rm n) s m av.toArray below meth c s.heap [] 0 0 Q (F0 m 0 ls [])) : zg_Ci l y b mL (some .boolean) n D cs Wf u av r u' := by
  refine zg_start hy ho ha fun p e s m below meth c C hr hlocks w => ?_
  rw [lg_entry_eq]
  refine body p e s m below meth c _ _ C ?_ w _ (lv_entry av hlv)
  intro H locs pc ls a v hz hf w hd
  cases hf
  exact W.zret C.1 C.2.1 hr (zf_z_nar hz) (fun t ht _ => ⟨⟨_, _, rfl, ⟨rfl, rfl⟩, by rw [ht]; exact w.1, w.2.1⟩, w.2.2.1.F ht⟩) w.2.2.1.2.2 hd hlocks
theorem zg_Cl_of {r : Int64} (hy : plainName y.cls = true) (ho : y.cls = own) (ha : zg_Ad Wf) (hlv : (lg_sl av).length ≤ mL)
    (body : ∀ (p : Program) (e : Env) (s : State) (m : MethodId) (below : List Frame) (meth : Method) (c : Code) (A : Nat → Prop) (Q : State → Prop), CallFix p m c b mL s av.toArray (.code y b mL (some .long) :: zw_all) own →
      (∀ (H : Heap) (locs : List Loc) (pc : Nat) (ls : Array Slot) (a : Int64) (v : zs_T), some (a, v) = some (r, u') → zg_W D cs A s (Wf v) H locs → decode b pc = .ok (.lreturn, 1) → W p l e (zg_rm n) s m av.toArray below meth c H locs 0 0 Q (F0 m pc ls [.long a])) →
      zg_W D cs A s (Wf u) s.heap [] → ∀ ls, lv_has ls mL (lv_args 0 av) → W p l e (zg_rm n) s m av.toArray below meth c s.heap [] 0 0 Q (F0 m 0 ls [])) : zg_Cl l y b mL (some .long) n D cs Wf u av r u' := by
  refine zg_start hy ho ha fun p e s m below meth c C hr hlocks w => ?_
  rw [lg_entry_eq]
  refine body p e s m below meth c _ _ C ?_ w _ (lv_entry av hlv)
  intro H locs pc ls a v hf w hd
  cases hf
  exact W.lret C.1 C.2.1 hr (fun t ht _ => ⟨⟨_, _, rfl, ⟨rfl, rfl⟩, by rw [ht]; exact w.1, w.2.1⟩, w.2.2.1.F ht⟩) w.2.2.1.2.2 hd hlocks
theorem zg_Cv_of (hy : plainName y.cls = true) (ho : y.cls = own) (ha : zg_Ad Wf) (hlv : (lg_sl av).length ≤ mL)
    (body : ∀ (p : Program) (e : Env) (s : State) (m : MethodId) (below : List Frame) (meth : Method) (c : Code) (A : Nat → Prop) (Q : State → Prop), CallFix p m c b mL s av.toArray (.code y b mL none :: zw_all) own →
      (∀ (H : Heap) (locs : List Loc) (pc : Nat) (ls : Array Slot) (v : zs_T), some v = some u' → zg_W D cs A s (Wf v) H locs → decode b pc = .ok (.return_, 1) → W p l e (zg_rm n) s m av.toArray below meth c H locs 0 0 Q (F0 m pc ls [])) →
      zg_W D cs A s (Wf u) s.heap [] → ∀ ls, lv_has ls mL (lv_args 0 av) → W p l e (zg_rm n) s m av.toArray below meth c s.heap [] 0 0 Q (F0 m 0 ls [])) : zg_Cv l y b mL none n D cs Wf u av u' := by
  refine zg_start hy ho ha fun p e s m below meth c C hr hlocks w => ?_
  rw [lg_entry_eq]
  refine body p e s m below meth c _ _ C ?_ w _ (lv_entry av hlv)
  intro H locs pc ls v hf w hd
  cases hf
  exact W.vret C.1 C.2.1 hr (fun t ht _ => ⟨⟨_, rfl, rfl, by rw [ht]; exact w.1, w.2.1⟩, w.2.2.1.F ht⟩) w.2.2.1.2.2 hd hlocks
end ZE
/-- what a call asks of its callee's name -/
def zc_f (y : MethodName) (b : ByteArray) (mL : Nat) (ret : Option FieldType) (na : Nat) : Prop := Cond.code y b mL ret ∈ zw_all ∧ Cond.initialized y.cls ∈ zw_all ∧ y.cls ≠ "java/lang/invoke/MethodHandle" ∧ y.cls ≠ "java/lang/invoke/VarHandle" ∧ (parseMethodDescriptor y.desc).map (fun d => d.parameters.length) = some na
section ZC
variable {p : Program} {l : Launch} {e : Env} {R : Room} {s : State} {m : MethodId} {args : Array Value} {below : List Frame} {meth : Method} {c : Code} {H : Heap} {locs : List Loc} {cells slots : Nat} {Q : State → Prop}
variable {cc : ByteArray} {nL pc index : Nat} {ls : Array Slot} {rest stk : List Value} {c0 : Cond} {own : String}
variable {y : MethodName} {b : ByteArray} {mL k : Nat} {D : va_G} {cs : Nat → ClassId} {A : Nat → Prop} {Wf : zs_T → va_W} {u u' : zs_T} {As : List Value} {ret : Option FieldType}
theorem zc_B (C : CallFix p m c cc nL s args (c0 :: zw_all) own) {na : Nat} (hf : zc_f y b mL ret na) (hl : Cond.methodLink own index y ∈ zw_all) (hR : k + 1 ≤ R.frames ∧ 8 + (mL + 11) + 40 * k ≤ R.locals) : CallB R s args own index y b mL ret (.code y b mL ret :: zw_all) (zg_rm k) 0 0 na := by
  obtain ⟨h1, h2, h3, h4, h5⟩ := hf
  exact callB_of na C.2.2.2.2 (zw_goodIn (fun _ h => zw_in h) h1) rfl rfl rfl (C.2.2.2.2 _ (zw_in h2)) (C.2.2.2.2 _ (zw_in hl)) ⟨h3, h4, h5⟩ hR
theorem zc_pre (w : zg_W D cs A s (Wf u) H locs) (av : List Value) : FrameBlind (va_Pc av (zg_Pre D cs Wf H.size u)) ∧ ∀ U : State, U.heap = H → s.WarmedH U.vm → va_Pc av (zg_Pre D cs Wf H.size u) av.toArray U := by
  obtain ⟨hP, hD, hS, hK, hN, hA⟩ := w
  refine ⟨fun a U g mk q => ?_, fun U hU hW => ⟨rfl, by rw [hU], by rw [hU]; exact hP, va_K.moved hW.alike hK, hD.weaken (fun _ _ _ _ => trivial), fun q hq => va_Nw.warmM hW (hN q hq)⟩⟩
  obtain ⟨q0, q1, qP, qK, qD, qN⟩ := q
  exact ⟨q0, q1, qP, va_K.moved (u := U) (U := U.calling g mk a) (Vm.Alike.refl U.vm) qK, qD, fun x hx => va_Nw.same rfl rfl (qN x hx)⟩
theorem zc_back (ha : zg_Ad Wf) (w : zg_W D cs A s (Wf u) H locs) {t : State} {H1 : Heap} {locs1 : List Loc} (ht : t.heap = H1) (hB : zg_Post D Wf (zg_A Wf H.size) u' t) (hS : va_S A s.heap H1 locs1) : zg_W D cs A s (Wf u') H1 locs1 := by
  obtain ⟨hP, hD, hS0, hK, hN, hA⟩ := w
  obtain ⟨hP1, hD1⟩ := hB
  rw [ht] at hP1
  exact ⟨hP1, hD1.weaken (fun _ _ _ h => zg_A_of ha hD (fun a h1 => hA a (Nat.le_trans hS0.1 h1)) h), hS, hK, hN, hA⟩
theorem zc_fr (ha : zg_Ad Wf) (w : zg_W D cs A s (Wf u) H locs) : ∀ q, zg_A Wf H.size q → A q := fun _ h => zg_A_of ha w.2.1 (fun a h1 => w.2.2.2.2.2 a (Nat.le_trans w.2.2.1.1 h1)) h
/-- the receiver's cell -/
def zc_rc (Wf : zs_T → va_W) (u : zs_T) (a : Nat) (C : String) : Prop := ∃ (q0 ci : Nat) (fs : List Value) (q : vw_C), (Wf u)[q0]? = some (a, .inr (ci, fs)) ∧ vwCl[ci]? = some q ∧ q.1 = C
theorem zc_V (C : CallFix p m c cc nL s args (c0 :: zw_all) own) (w : zg_W D cs A s (Wf u) H locs) {a : Nat} {Qc : Array Value → State → Outcome → State → Prop} {fr : Addr → Prop} (hM : Met l y (.code y b mL ret :: zw_all) (zg_rm k) (va_Pc (.ref a :: As) (zg_Pre D cs Wf H.size u)) Qc 0 0 fr) (hf : zc_f y b mL ret As.length) (hi : Cond.instanceMethod y ∈ zw_all ∧ Cond.selects y.cls y y ∈ zw_all) (hl : Cond.methodLink own index y ∈ zw_all) (hrc : zc_rc Wf u a y.cls) (hR : k + 1 ≤ R.frames ∧ 8 + (mL + 11) + 40 * k ≤ R.locals) (hsz : ls.size = nL) (hst : stk = As.reverse ++ .ref a :: rest) (hro : (rest.map fun v => v.category).sum ≤ 8) (hdg : decode cc pc = .ok (.invokevirtual index, 3)) (hcs : cells ≤ R.cells ∧ slots ≤ R.slots) :
    va_Run p l e R s m args below meth c H locs cells slots 0 0 (F0 m pc ls stk) rest (Qc (Value.ref a :: As).toArray) fr := by
  obtain ⟨q0, ci, fs, q, h1, h2, h3⟩ := hrc
  have hp := zc_pre w (.ref a :: As)
  have hrec := va_recv w.2.2.2.1 w.1 h2 h1
  rw [h3] at hrec
  exact va_runV C hM ⟨zc_B C hf hl hR, C.2.2.2.2 _ (zw_in hi.1), C.2.2.2.2 _ (zw_in hi.2)⟩ ⟨hp.1, hrec, hp.2⟩ rfl rfl hsz hst (lv_room hro) hdg hcs
theorem zc_S (C : CallFix p m c cc nL s args (c0 :: zw_all) own) (w : zg_W D cs A s (Wf u) H locs) {Qc : Array Value → State → Outcome → State → Prop} {fr : Addr → Prop} (hM : Met l y (.code y b mL ret :: zw_all) (zg_rm k) (va_Pc As (zg_Pre D cs Wf H.size u)) Qc 0 0 fr) (hf : zc_f y b mL ret As.length) (hi : Cond.static y ∈ zw_all) (hl : Cond.methodLink own index y ∈ zw_all) (hR : k + 1 ≤ R.frames ∧ 8 + (mL + 11) + 40 * k ≤ R.locals) (hsz : ls.size = nL) (hst : stk = As.reverse ++ rest) (hro : (rest.map fun v => v.category).sum ≤ 8) (hdg : decode cc pc = .ok (.invokestatic index, 3)) (hcs : cells ≤ R.cells ∧ slots ≤ R.slots) :
    va_Run p l e R s m args below meth c H locs cells slots 0 0 (F0 m pc ls stk) rest (Qc As.toArray) fr :=
  va_runS C hM ⟨zc_B C hf hl hR, C.2.2.2.2 _ (zw_in hi)⟩ (zc_pre w As) rfl rfl hsz hst (lv_room hro) hdg hcs
theorem zc_SN (C : CallFix p m c cc nL s args (c0 :: zw_all) own) (w : zg_W D cs A s (Wf u) H locs) {Qc : Array Value → State → Outcome → State → Prop} {fr : Addr → Prop} {host : String} (hM : Met l y (.code y b mL ret :: zw_all) (zg_rm k) (va_Pc As (zg_Pre D cs Wf H.size u)) Qc 0 0 fr) (hf : zc_f y b mL ret As.length) (hi : Cond.static y ∈ zw_all) (hl : (own, index, y, host) ∈ zn_all) (hR : k + 1 ≤ R.frames ∧ 8 + (mL + 11) + 40 * k ≤ R.locals) (hsz : ls.size = nL) (hst : stk = As.reverse ++ rest) (hro : (rest.map fun v => v.category).sum ≤ 8) (hdg : decode cc pc = .ok (.invokestatic index, 3)) (hcs : cells ≤ R.cells ∧ slots ≤ R.slots) :
    va_Run p l e R s m args below meth c H locs cells slots 0 0 (F0 m pc ls stk) rest (Qc As.toArray) fr := by
  obtain ⟨h1, h2, h3, h4, h5⟩ := hf
  exact va_runSN C hM ⟨va_cnB As.length C.2.2.2.2 (zw_goodIn (fun _ h => zw_in h) h1) rfl rfl rfl (w.2.2.2.2.1 _ hl) (C.2.2.2.2 _ (zw_in h2)) ⟨h3, h4, h5⟩ hR, C.2.2.2.2 _ (zw_in hi), trivial⟩ (zc_pre w As) rfl rfl hsz hst (lv_room hro) hdg hcs
theorem zc_ri (ha : zg_Ad Wf) (w : zg_W D cs A s (Wf u) H locs) {r : Int32} {av : Array Value} (hr : va_Run p l e R s m args below meth c H locs cells slots 0 0 (F0 m pc ls stk) rest (va_Qi (fun r' v => r' = r ∧ v = u') (zg_Post D Wf (zg_A Wf H.size)) (zg_A Wf H.size) av) (zg_A Wf H.size))
    (kk : ∀ (H1 : Heap) (locs1 : List Loc), zg_W D cs A s (Wf u') H1 locs1 → W p l e R s m args below meth c H1 locs1 cells slots Q (F0 m (pc + 3) ls (.int r :: rest))) : W p l e R s m args below meth c H locs cells slots Q (F0 m pc ls stk) := by
  refine va_calli hr w.2.2.1 (fun q _ h => zc_fr ha w q h) (zc_fr ha w) fun r' v t H1 locs1 ht _ hw hB _ _ hS => ?_
  obtain ⟨rfl, rfl⟩ := hw
  exact kk H1 locs1 (zc_back ha w ht hB hS)
theorem zc_rl (ha : zg_Ad Wf) (w : zg_W D cs A s (Wf u) H locs) {r : Int64} {av : Array Value} (hr : va_Run p l e R s m args below meth c H locs cells slots 0 0 (F0 m pc ls stk) rest (va_Ql (fun r' v => r' = r ∧ v = u') (zg_Post D Wf (zg_A Wf H.size)) (zg_A Wf H.size) av) (zg_A Wf H.size))
    (kk : ∀ (H1 : Heap) (locs1 : List Loc), zg_W D cs A s (Wf u') H1 locs1 → W p l e R s m args below meth c H1 locs1 cells slots Q (F0 m (pc + 3) ls (.long r :: rest))) : W p l e R s m args below meth c H locs cells slots Q (F0 m pc ls stk) := by
  refine va_calll hr w.2.2.1 (fun q _ h => zc_fr ha w q h) (zc_fr ha w) fun r' v t H1 locs1 ht _ hw hB _ _ hS => ?_
  obtain ⟨rfl, rfl⟩ := hw
  exact kk H1 locs1 (zc_back ha w ht hB hS)
theorem zc_rv (ha : zg_Ad Wf) (w : zg_W D cs A s (Wf u) H locs) {av : Array Value} (hr : va_Run p l e R s m args below meth c H locs cells slots 0 0 (F0 m pc ls stk) rest (va_Qv (fun v => v = u') (zg_Post D Wf (zg_A Wf H.size)) (zg_A Wf H.size) av) (zg_A Wf H.size))
    (kk : ∀ (H1 : Heap) (locs1 : List Loc), zg_W D cs A s (Wf u') H1 locs1 → W p l e R s m args below meth c H1 locs1 cells slots Q (F0 m (pc + 3) ls rest)) : W p l e R s m args below meth c H locs cells slots Q (F0 m pc ls stk) := by
  refine va_callv hr w.2.2.1 (fun q _ h => zc_fr ha w q h) (zc_fr ha w) fun v t H1 locs1 ht _ hw hB _ _ hS => ?_
  subst hw
  exact kk H1 locs1 (zc_back ha w ht hB hS)
end ZC
end
section
section ZR
variable {p : Program} {l : Launch} {e : Env} {R : Room} {s : State} {m : MethodId} {args : Array Value} {below : List Frame} {meth : Method} {c : Code} {H : Heap} {locs : List Loc} {cells slots : Nat} {Q : State → Prop}
variable {cc : ByteArray} {nL pc index : Nat} {ls : Array Slot} {rest : List Value} {c0 : Cond} {own : String}
variable {D : va_G} {cs : Nat → ClassId} {A : Nat → Prop} {ws ws' : va_W} {a q0 ci N k : Nat} {fs : List Value} {Cn : String} {T : u_T}
theorem zr_get (C : CallFix p m c cc nL s args (c0 :: zw_all) own) (w : zg_W D cs A s ws H locs) (he : ws[q0]? = some (a, .inr (ci, fs))) (hc : vwCl[ci]? = some (Cn, T, N)) (hin : ∀ w ∈ u_ws Cn T N, w ∈ zw_all) (hk : k < N) (hl : Cond.fieldLink own index Cn (T k).2.1 (T k).2.2.1 ∈ zw_all) (hd : (T k).1 = Cn) {v : Value} (hv : fs[k]? = some v) (hdg : decode cc pc = .ok (.getfield index, 3))
    (kk : W p l e R s m args below meth c H locs cells slots Q (F0 m (pc + 3) ls (v :: rest))) : W p l e R s m args below meth c H locs cells slots Q (F0 m pc ls (.ref a :: rest)) :=
  va_get C.1 C.2.1 C.2.2.2.2 (fun w h => zw_in (hin w h)) C.2.2.2.1 w.2.2.2.1 w.1 q0 he hc k hk (C.2.2.2.2 _ (zw_in hl)) (fun x h => by rw [hd] at h; exact h) hv hdg kk
theorem zr_put (C : CallFix p m c cc nL s args (c0 :: zw_all) own) (w : zg_W D cs A s ws H locs) (he : ws[q0]? = some (a, .inr (ci, fs))) (hc : vwCl[ci]? = some (Cn, T, N)) (hin : ∀ w ∈ u_ws Cn T N, w ∈ zw_all) (ty0 : Nat → FieldType) (hty : ∀ k, k < N → parseFieldDescriptor (T k).2.2.1 = some (ty0 k)) (hnm : ∀ a, a < N → ∀ b, b < N → a ≠ b → (T a).2.1 ≠ (T b).2.1) (hk : k < N) (hl : Cond.fieldLink own index Cn (T k).2.1 (T k).2.2.1 ∈ zw_all) (hd : (T k).1 = Cn) (hfin : (T k).2.2.2 = false) {ty : FieldType} {v : Value} (hpd : parseFieldDescriptor (T k).2.2.1 = some ty) (hn : narrow ty v = v) (hfit : fits ty v = true) (hlen : k < fs.length) (hset : ws.set q0 (a, .inr (ci, fs.set k v)) = ws') (hdg : decode cc pc = .ok (.putfield index, 3))
    (kk : ∀ (H1 : Heap) (locs1 : List Loc), zg_W D cs A s ws' H1 locs1 → W p l e R s m args below meth c H1 locs1 cells slots Q (F0 m (pc + 3) ls rest)) : W p l e R s m args below meth c H locs cells slots Q (F0 m pc ls (v :: .ref a :: rest)) := by
  refine va_put C.1 C.2.1 C.2.2.2.2 (fun w h => zw_in (hin w h)) ty0 hty hnm C.2.2.2.1 w.2.2.2.1 w.1 w.2.1 w.2.2.1 q0 he hc k hk (C.2.2.2.2 _ (zw_in hl)) (fun x h => by rw [hd] at h; exact h) hfin hpd hn hfit hlen hdg fun H1 locs1 hP hD hS => ?_
  rw [hset] at hP hD
  exact kk H1 locs1 ⟨hP, hD, hS, w.2.2.2⟩
theorem zr_iald (C : CallFix p m c cc nL s args (c0 :: zw_all) own) (w : zg_W D cs A s ws H locs) {n : Nat} {f : Nat → Int32} (he : ws[q0]? = some (a, .inl (cs 0, n, .inl f))) {i : Int32} (hi : zf_in i n = true) (hdg : decode cc pc = .ok (.iaload, 1))
    (kk : W p l e R s m args below meth c H locs cells slots Q (F0 m (pc + 1) ls (.int (f i.toNatClampNeg) :: rest))) : W p l e R s m args below meth c H locs cells slots Q (F0 m pc ls (.int i :: .ref a :: rest)) := va_iald C.1 C.2.1 w.2.2.2.1 w.1 q0 0 he rfl (zf_vin hi) hdg kk
theorem zr_bald (C : CallFix p m c cc nL s args (c0 :: zw_all) own) (w : zg_W D cs A s ws H locs) {n : Nat} {f : Nat → Int32} (he : ws[q0]? = some (a, .inl (cs 3, n, .inl f))) {i : Int32} (hi : zf_in i n = true) (hdg : decode cc pc = .ok (.baload, 1))
    (kk : W p l e R s m args below meth c H locs cells slots Q (F0 m (pc + 1) ls (.int (f i.toNatClampNeg) :: rest))) : W p l e R s m args below meth c H locs cells slots Q (F0 m pc ls (.int i :: .ref a :: rest)) := va_bald C.1 C.2.1 w.2.2.2.1 w.1 q0 3 he rfl (zf_vin hi) hdg kk
theorem zr_zald (C : CallFix p m c cc nL s args (c0 :: zw_all) own) (w : zg_W D cs A s ws H locs) {n : Nat} {f : Nat → Int32} (he : ws[q0]? = some (a, .inl (cs 2, n, .inl f))) {i : Int32} (hi : zf_in i n = true) (hdg : decode cc pc = .ok (.baload, 1))
    (kk : W p l e R s m args below meth c H locs cells slots Q (F0 m (pc + 1) ls (.int (f i.toNatClampNeg) :: rest))) : W p l e R s m args below meth c H locs cells slots Q (F0 m pc ls (.int i :: .ref a :: rest)) := va_zald C.1 C.2.1 w.2.2.2.1 w.1 q0 2 he rfl (zf_vin hi) hdg kk
theorem zr_lald (C : CallFix p m c cc nL s args (c0 :: zw_all) own) (w : zg_W D cs A s ws H locs) {n : Nat} {f : Nat → Int64} (he : ws[q0]? = some (a, .inl (cs 1, n, .inr (.inl f)))) {i : Int32} (hi : zf_in i n = true) (hdg : decode cc pc = .ok (.laload, 1))
    (kk : W p l e R s m args below meth c H locs cells slots Q (F0 m (pc + 1) ls (.long (f i.toNatClampNeg) :: rest))) : W p l e R s m args below meth c H locs cells slots Q (F0 m pc ls (.int i :: .ref a :: rest)) := va_lald C.1 C.2.1 w.2.2.2.1 w.1 q0 1 he rfl (zf_vin hi) hdg kk
theorem zr_iast (C : CallFix p m c cc nL s args (c0 :: zw_all) own) (w : zg_W D cs A s ws H locs) {n : Nat} {f : Nat → Int32} (he : ws[q0]? = some (a, .inl (cs 0, n, .inl f))) {i x : Int32} (hi : zf_in i n = true) (hset : ws.set q0 (a, .inl (cs 0, n, .inl (upd f i.toNatClampNeg x))) = ws') (hdg : decode cc pc = .ok (.iastore, 1))
    (kk : ∀ (H1 : Heap) (locs1 : List Loc), zg_W D cs A s ws' H1 locs1 → W p l e R s m args below meth c H1 locs1 cells slots Q (F0 m (pc + 1) ls rest)) : W p l e R s m args below meth c H locs cells slots Q (F0 m pc ls (.int x :: .int i :: .ref a :: rest)) := by
  refine va_iast C.1 C.2.1 w.2.2.2.1 w.1 w.2.1 w.2.2.1 q0 0 he rfl (zf_vin hi) hdg fun H1 locs1 hP hD hS => ?_
  first | rw [hset] at hP hD | (simp only [vp_nar, vp_nar_int] at hP hD; rw [hset] at hP hD)
  exact kk H1 locs1 ⟨hP, hD, hS, w.2.2.2⟩
theorem zr_bast (C : CallFix p m c cc nL s args (c0 :: zw_all) own) (w : zg_W D cs A s ws H locs) {n : Nat} {f : Nat → Int32} (he : ws[q0]? = some (a, .inl (cs 3, n, .inl f))) {i x : Int32} (hi : zf_in i n = true) (hset : ws.set q0 (a, .inl (cs 3, n, .inl (upd f i.toNatClampNeg (vp_nar .byte x)))) = ws') (hdg : decode cc pc = .ok (.bastore, 1))
    (kk : ∀ (H1 : Heap) (locs1 : List Loc), zg_W D cs A s ws' H1 locs1 → W p l e R s m args below meth c H1 locs1 cells slots Q (F0 m (pc + 1) ls rest)) : W p l e R s m args below meth c H locs cells slots Q (F0 m pc ls (.int x :: .int i :: .ref a :: rest)) := by
  refine va_bast C.1 C.2.1 w.2.2.2.1 w.1 w.2.1 w.2.2.1 q0 3 he rfl (zf_vin hi) hdg fun H1 locs1 hP hD hS => ?_
  rw [hset] at hP hD
  exact kk H1 locs1 ⟨hP, hD, hS, w.2.2.2⟩
theorem zr_zast (C : CallFix p m c cc nL s args (c0 :: zw_all) own) (w : zg_W D cs A s ws H locs) {n : Nat} {f : Nat → Int32} (he : ws[q0]? = some (a, .inl (cs 2, n, .inl f))) {i x : Int32} (hi : zf_in i n = true) (hz : zf_z x = true) (hset : ws.set q0 (a, .inl (cs 2, n, .inl (upd f i.toNatClampNeg x))) = ws') (hdg : decode cc pc = .ok (.bastore, 1))
    (kk : ∀ (H1 : Heap) (locs1 : List Loc), zg_W D cs A s ws' H1 locs1 → W p l e R s m args below meth c H1 locs1 cells slots Q (F0 m (pc + 1) ls rest)) : W p l e R s m args below meth c H locs cells slots Q (F0 m pc ls (.int x :: .int i :: .ref a :: rest)) := by
  refine va_zast C.1 C.2.1 w.2.2.2.1 w.1 w.2.1 w.2.2.1 q0 2 he rfl (zf_vin hi) hdg fun H1 locs1 hP hD hS => ?_
  rw [zf_z_vp hz, hset] at hP hD
  exact kk H1 locs1 ⟨hP, hD, hS, w.2.2.2⟩
theorem zr_last (C : CallFix p m c cc nL s args (c0 :: zw_all) own) (w : zg_W D cs A s ws H locs) {n : Nat} {f : Nat → Int64} (he : ws[q0]? = some (a, .inl (cs 1, n, .inr (.inl f)))) {i : Int32} {x : Int64} (hi : zf_in i n = true) (hset : ws.set q0 (a, .inl (cs 1, n, .inr (.inl (vp_updL f i.toNatClampNeg x)))) = ws') (hdg : decode cc pc = .ok (.lastore, 1))
    (kk : ∀ (H1 : Heap) (locs1 : List Loc), zg_W D cs A s ws' H1 locs1 → W p l e R s m args below meth c H1 locs1 cells slots Q (F0 m (pc + 1) ls rest)) : W p l e R s m args below meth c H locs cells slots Q (F0 m pc ls (.long x :: .int i :: .ref a :: rest)) := by
  refine va_last C.1 C.2.1 w.2.2.2.1 w.1 w.2.1 w.2.2.1 q0 1 he rfl (zf_vin hi) hdg fun H1 locs1 hP hD hS => ?_
  rw [hset] at hP hD
  exact kk H1 locs1 ⟨hP, hD, hS, w.2.2.2⟩
theorem zr_alen (C : CallFix p m c cc nL s args (c0 :: zw_all) own) (w : zg_W D cs A s ws H locs) {n : Nat} {f : Nat → Int32} (he : ws[q0]? = some (a, .inl (cs 0, n, .inl f))) (hdg : decode cc pc = .ok (.arraylength, 1))
    (kk : W p l e R s m args below meth c H locs cells slots Q (F0 m (pc + 1) ls (.int (Int32.ofNat n) :: rest))) : W p l e R s m args below meth c H locs cells slots Q (F0 m pc ls (.ref a :: rest)) := va_alen C.1 C.2.1 w.2.2.2.1 w.1 q0 0 he (ty := .int) rfl rfl hdg kk
def zr_imax (x y : Int32) : Int32 := if x < y then y else x
def zr_imin (x y : Int32) : Int32 := if y < x then y else x
def zr_iabs (x : Int32) : Int32 := if 0 ≤ x then x else 0 - x
/-- Math's own methods are among the words -/
theorem zr_mw : (Cond.static Lib.Math.max.name ∈ zw_all ∧ Cond.static Lib.Math.min.name ∈ zw_all ∧ Cond.static Lib.Math.abs.name ∈ zw_all) ∧ Cond.initialized "java/lang/Math" ∈ zw_all ∧ Cond.code Lib.Math.max.name Lib.Math.max.code 2 (some .int) ∈ zw_all ∧ Cond.code Lib.Math.min.name Lib.Math.min.code 2 (some .int) ∈ zw_all ∧ Cond.code Lib.Math.abs.name Lib.Math.abs.code 1 (some .int) ∈ zw_all := by
  refine ⟨⟨?_, ?_, ?_⟩, ?_, ?_, ?_, ?_⟩ <;> decide +kernel
theorem zr_max (C : CallFix p m c cc nL s args (c0 :: zw_all) own) (hsz : ls.size = nL) (hl : Cond.methodLink own index Lib.Math.max.name ∈ zw_all) (hR : 1 ≤ R.frames ∧ (rest.map fun v => v.category).sum + 13 ≤ R.locals) (hcs : cells ≤ R.cells ∧ slots ≤ R.slots) {x y : Int32} (hdg : decode cc pc = .ok (.invokestatic index, 3))
    (kk : W p l e R s m args below meth c H locs cells slots Q (F0 m (pc + 3) ls (.int (zr_imax x y) :: rest))) : W p l e R s m args below meth c H locs cells slots Q (F0 m pc ls (.int y :: .int x :: rest)) :=
  va_mmax C.1 C.2.1 (C.2.2.1.trans hsz.symm) C.2.2.2.1 (C.2.2.2.2 _ (zw_in hl)) (C.2.2.2.2 _ (zw_in zr_mw.1.1)) (C.2.2.2.2 _ (zw_in zr_mw.2.1)) (C.2.2.2.2 _ (zw_in zr_mw.2.2.1)) hR.1 hR.2 hcs.1 hcs.2 hdg kk
theorem zr_min (C : CallFix p m c cc nL s args (c0 :: zw_all) own) (hsz : ls.size = nL) (hl : Cond.methodLink own index Lib.Math.min.name ∈ zw_all) (hR : 1 ≤ R.frames ∧ (rest.map fun v => v.category).sum + 13 ≤ R.locals) (hcs : cells ≤ R.cells ∧ slots ≤ R.slots) {x y : Int32} (hdg : decode cc pc = .ok (.invokestatic index, 3))
    (kk : W p l e R s m args below meth c H locs cells slots Q (F0 m (pc + 3) ls (.int (zr_imin x y) :: rest))) : W p l e R s m args below meth c H locs cells slots Q (F0 m pc ls (.int y :: .int x :: rest)) :=
  va_mmin C.1 C.2.1 (C.2.2.1.trans hsz.symm) C.2.2.2.1 (C.2.2.2.2 _ (zw_in hl)) (C.2.2.2.2 _ (zw_in zr_mw.1.2.1)) (C.2.2.2.2 _ (zw_in zr_mw.2.1)) (C.2.2.2.2 _ (zw_in zr_mw.2.2.2.1)) hR.1 hR.2 hcs.1 hcs.2 hdg kk
theorem zr_abs (C : CallFix p m c cc nL s args (c0 :: zw_all) own) (hsz : ls.size = nL) (hl : Cond.methodLink own index Lib.Math.abs.name ∈ zw_all) (hR : 1 ≤ R.frames ∧ (rest.map fun v => v.category).sum + 13 ≤ R.locals) (hcs : cells ≤ R.cells ∧ slots ≤ R.slots) {x : Int32} (hdg : decode cc pc = .ok (.invokestatic index, 3))
    (kk : W p l e R s m args below meth c H locs cells slots Q (F0 m (pc + 3) ls (.int (zr_iabs x) :: rest))) : W p l e R s m args below meth c H locs cells slots Q (F0 m pc ls (.int x :: rest)) :=
  va_mabs C.1 C.2.1 (C.2.2.1.trans hsz.symm) C.2.2.2.1 (C.2.2.2.2 _ (zw_in hl)) (C.2.2.2.2 _ (zw_in zr_mw.1.2.2)) (C.2.2.2.2 _ (zw_in zr_mw.2.1)) (C.2.2.2.2 _ (zw_in zr_mw.2.2.2.2)) hR.1 hR.2 hcs.1 hcs.2 hdg kk
/-- System.arraycopy of ints: a test of its three numbers -/
def zf_cp (sp dp n : Int32) (n0 n1 : Nat) : Bool := decide (0 ≤ sp.toInt ∧ 0 ≤ dp.toInt ∧ 0 ≤ n.toInt ∧ sp.toInt + n.toInt ≤ n0 ∧ dp.toInt + n.toInt ≤ n1)
theorem zr_cw : Cond.native arraycopyName ∈ zw_all ∧ Cond.static arraycopyName ∈ zw_all ∧ Cond.initialized "java/lang/System" ∈ zw_all := by
  refine ⟨?_, ?_, ?_⟩ <;> decide +kernel
theorem zf_nn {z : Int32} (h : 0 ≤ z.toInt) : ¬ z < 0 ∧ z.toInt = (z.toNatClampNeg : Int) := by
  refine ⟨fun q => ?_, ?_⟩
  · have := Int32.lt_iff_toInt_lt.mp q
    simp at this
    omega
  · simp only [Int32.toNatClampNeg]
    omega
theorem zr_copy (C : CallFix p m c cc nL s args (c0 :: zw_all) own) (w : zg_W D cs A s ws H locs) (hsz : ls.size = nL) {q1 a0 n0 n1 : Nat} {f g : Nat → Int32} (he0 : ws[q0]? = some (a0, .inl (cs 0, n0, .inl f))) (he1 : ws[q1]? = some (a, .inl (cs 0, n1, .inl g))) (hl : Cond.methodLink own index arraycopyName ∈ zw_all) {sp dp n : Int32} (hcp : zf_cp sp dp n n0 n1 = true) (hR : 1 ≤ R.frames ∧ (rest.map fun v => v.category).sum + (nativeFrameWords "java/lang/System" "arraycopy" 5 + 11) ≤ R.locals) (hset : ws.set q1 (a, .inl (cs 0, n1, .inl (va_cpy f g sp.toNatClampNeg dp.toNatClampNeg n.toNatClampNeg))) = ws') (hdg : decode cc pc = .ok (.invokestatic index, 3))
    (kk : ∀ (H1 : Heap) (locs1 : List Loc), zg_W D cs A s ws' H1 locs1 → W p l e R s m args below meth c H1 locs1 cells slots Q (F0 m (pc + 3) ls rest)) : W p l e R s m args below meth c H locs cells slots Q (F0 m pc ls (.int n :: .int dp :: .ref a :: .int sp :: .ref a0 :: rest)) := by
  obtain ⟨h1, h2, h3, h4, h5⟩ := of_decide_eq_true hcp
  have e1 := zf_nn h1
  have e2 := zf_nn h2
  have e3 := zf_nn h3
  refine va_copyi C.1 C.2.1 (C.2.2.1.trans hsz.symm) C.2.2.2.1 (C.2.2.2.2 _ (zw_in hl)) (C.2.2.2.2 _ (zw_in zr_cw.1)) (C.2.2.2.2 _ (zw_in zr_cw.2.1)) (C.2.2.2.2 _ (zw_in zr_cw.2.2)) w.2.2.2.1 w.1 w.2.1 w.2.2.1 q0 q1 0 0 he0 he1 rfl rfl rfl e1.1 e2.1 e3.1 (by omega) (by omega) (fun i hi => rfl) hR.1 hR.2 hdg fun H1 locs1 hP hD hS => ?_
  rw [hset] at hP hD
  exact kk H1 locs1 ⟨hP, hD, hS, w.2.2.2⟩
theorem zr_ldc (C : CallFix p m c cc nL s args (c0 :: zw_all) own) {v : Int32} (hl : Cond.constant own index v ∈ zw_all) (hdg : decode cc pc = .ok (.ldc index, 2)) (kk : W p l e R s m args below meth c H locs cells slots Q (F0 m (pc + 2) ls (.int v :: rest))) : W p l e R s m args below meth c H locs cells slots Q (F0 m pc ls rest) := lv_ldc C.1 C.2.1 C.2.2.2.1 (C.2.2.2.2 _ (zw_in hl)) hdg kk
theorem zr_ldcw (C : CallFix p m c cc nL s args (c0 :: zw_all) own) {v : Int32} (hl : Cond.constant own index v ∈ zw_all) (hdg : decode cc pc = .ok (.ldc_w index, 3)) (kk : W p l e R s m args below meth c H locs cells slots Q (F0 m (pc + 3) ls (.int v :: rest))) : W p l e R s m args below meth c H locs cells slots Q (F0 m pc ls rest) := lv_ldcw C.1 C.2.1 C.2.2.2.1 (C.2.2.2.2 _ (zw_in hl)) hdg kk
theorem zr_ldc2 (C : CallFix p m c cc nL s args (c0 :: zw_all) own) {v : Int64} (hl : Cond.constantLong own index v ∈ zw_all) (hdg : decode cc pc = .ok (.ldc2_w index, 3)) (kk : W p l e R s m args below meth c H locs cells slots Q (F0 m (pc + 3) ls (.long v :: rest))) : W p l e R s m args below meth c H locs cells slots Q (F0 m pc ls rest) := lv_ldc2 C.1 C.2.1 C.2.2.2.1 (C.2.2.2.2 _ (zw_in hl)) hdg kk
end ZR
end
section
theorem inz0 : ∀ w ∈ wsX00, w ∈ zw_all := by decide +kernel
theorem inz1 : ∀ w ∈ wsX10, w ∈ zw_all := by decide +kernel
theorem inz2 : ∀ w ∈ wsX20, w ∈ zw_all := by decide +kernel
theorem inz3 : ∀ w ∈ wsX30, w ∈ zw_all := by decide +kernel
theorem inz4 : ∀ w ∈ wsX40, w ∈ zw_all := by decide +kernel
theorem inz5 : ∀ w ∈ wsX50, w ∈ zw_all := by decide +kernel
theorem inz6 : ∀ w ∈ wsX60, w ∈ zw_all := by decide +kernel
theorem inz7 : ∀ w ∈ wsX70, w ∈ zw_all := by decide +kernel
theorem inz8 : ∀ w ∈ wsX80, w ∈ zw_all := by decide +kernel
theorem inz9 : ∀ w ∈ wsX90, w ∈ zw_all := by decide +kernel
end
section
/-! the world of FlockPass: cells and numbers
cell 0: object of FlockPass: tape=cell 1, book=cell 2, pasture=cell 3, planner=cell 4, register=cell 5, trace=cell 6, dairy=cell 7, ledger=cell 8, year=i0, today=i1
cell 1: object of FlockPass$Tape: bytes=cell 9, size=i2
cell 2: object of FlockPass$RuleBook: numbers=cell 10, draft=cell 11
cell 3: object of FlockPass$Pasture: grassOf=cell 12, mostOf=cell 13, growthOf=cell 14, heights=i3, snow=i4, flockAt=i5, hunger=i6, eaten=l0
cell 4: object of FlockPass$Planner: bestPath=cell 15, length=i7, path=cell 16, rows=cell 17, mostOf=cell 18, gainOf=cell 19, heights=i8, wanted=i9, bestHunger=i10, bestGrass=i11
cell 5: object of FlockPass$Register: firstOwnerOf=cell 20, gone=cell 21, size=i12, actOf=cell 22, sheepOf=cell 23, dayOf=cell 24, buyerOf=cell 25, order=cell 26, entries=i13
cell 6: object of FlockPass$Trace: owner=i14, up=i15, dead=i16, daysUp=i17, daysHad=cell 27, firstUntold=i18
cell 7: object of FlockPass$Dairy: milkOf=cell 28, partOf=cell 29, milkingDay=i19
cell 8: object of FlockPass$Ledger: cheesesOf=cell 30, latestOf=cell 31, balanceOf=cell 32, moneyOf=cell 33, ownPaid=l1, turn=cell 34, paidOut=l2
cell 9: row a0 of 40: FlockPass$Tape.bytes
cell 10: row a1 of 4: FlockPass$RuleBook.numbers
cell 11: row a2 of 4: FlockPass$RuleBook.draft
cell 12: row a3 of 6: FlockPass$Pasture.grassOf
cell 13: row a4 of 6: FlockPass$Pasture.mostOf
cell 14: row a5 of 6: FlockPass$Pasture.growthOf
cell 15: row a6 of 8: FlockPass$Planner.bestPath
cell 16: row a7 of 8: FlockPass$Planner.path
cell 17: row a8 of 54: FlockPass$Planner.rows
cell 18: row a9 of 6: FlockPass$Planner.mostOf
cell 19: row a10 of 6: FlockPass$Planner.gainOf
cell 20: row a11 of 80: FlockPass$Register.firstOwnerOf
cell 21: row a12 of 80: FlockPass$Register.gone
cell 22: row a13 of 100: FlockPass$Register.actOf
cell 23: row a14 of 100: FlockPass$Register.sheepOf
cell 24: row a15 of 100: FlockPass$Register.dayOf
cell 25: row a16 of 100: FlockPass$Register.buyerOf
cell 26: row a17 of 100: FlockPass$Register.order
cell 27: row a18 of 12: FlockPass$Trace.daysHad
cell 28: row a19 of 80: FlockPass$Dairy.milkOf
cell 29: row a20 of 12: FlockPass$Dairy.partOf
cell 30: row b0 of 12: FlockPass$Ledger.cheesesOf
cell 31: row a21 of 12: FlockPass$Ledger.latestOf
cell 32: row b1 of 12: FlockPass$Ledger.balanceOf
cell 33: row b2 of 12: FlockPass$Ledger.moneyOf
cell 34: row a22 of 12: FlockPass$Ledger.turn
-/
def oX0 (q : Nat → Nat) (u : zs_T) : List Value := [.ref (q 1), .ref (q 2), .ref (q 3), .ref (q 4), .ref (q 5), .ref (q 6), .ref (q 7), .ref (q 8), .int (zs_i u 0), .int (zs_i u 1)]
def oX1 (q : Nat → Nat) (u : zs_T) : List Value := [.ref (q 9), .int (zs_i u 2)]
def oX2 (q : Nat → Nat) (u : zs_T) : List Value := [.ref (q 10), .ref (q 11)]
def oX3 (q : Nat → Nat) (u : zs_T) : List Value := [.ref (q 12), .ref (q 13), .ref (q 14), .int (zs_i u 3), .int (zs_i u 4), .int (zs_i u 5), .int (zs_i u 6), .long (zs_l u 0)]
def oX4 (q : Nat → Nat) (u : zs_T) : List Value := [.ref (q 15), .int (zs_i u 7), .ref (q 16), .ref (q 17), .ref (q 18), .ref (q 19), .int (zs_i u 8), .int (zs_i u 9), .int (zs_i u 10), .int (zs_i u 11)]
def oX5 (q : Nat → Nat) (u : zs_T) : List Value := [.ref (q 20), .ref (q 21), .int (zs_i u 12), .ref (q 22), .ref (q 23), .ref (q 24), .ref (q 25), .ref (q 26), .int (zs_i u 13)]
def oX6 (q : Nat → Nat) (u : zs_T) : List Value := [.int (zs_i u 14), .int (zs_i u 15), .int (zs_i u 16), .int (zs_i u 17), .ref (q 27), .int (zs_i u 18)]
def oX7 (q : Nat → Nat) (u : zs_T) : List Value := [.ref (q 28), .ref (q 29), .int (zs_i u 19)]
def oX8 (q : Nat → Nat) (u : zs_T) : List Value := [.ref (q 30), .ref (q 31), .ref (q 32), .ref (q 33), .long (zs_l u 1), .ref (q 34), .long (zs_l u 2)]
def wX (q : Nat → Nat) (cs : Nat → ClassId) (u : zs_T) : va_W := [(q 0, .inr (8, oX0 q u)), (q 1, .inr (6, oX1 q u)), (q 2, .inr (5, oX2 q u)), (q 3, .inr (2, oX3 q u)), (q 4, .inr (3, oX4 q u)), (q 5, .inr (4, oX5 q u)), (q 6, .inr (7, oX6 q u)), (q 7, .inr (0, oX7 q u)), (q 8, .inr (1, oX8 q u)), (q 9, .inl (cs 0, 40, .inl (zs_a u 0))), (q 10, .inl (cs 0, 4, .inl (zs_a u 1))), (q 11, .inl (cs 0, 4, .inl (zs_a u 2))), (q 12, .inl (cs 0, 6, .inl (zs_a u 3))), (q 13, .inl (cs 0, 6, .inl (zs_a u 4))), (q 14, .inl (cs 0, 6, .inl (zs_a u 5))), (q 15, .inl (cs 0, 8, .inl (zs_a u 6))), (q 16, .inl (cs 0, 8, .inl (zs_a u 7))), (q 17, .inl (cs 0, 54, .inl (zs_a u 8))), (q 18, .inl (cs 0, 6, .inl (zs_a u 9))), (q 19, .inl (cs 0, 6, .inl (zs_a u 10))), (q 20, .inl (cs 0, 80, .inl (zs_a u 11))), (q 21, .inl (cs 2, 80, .inl (zs_a u 12))), (q 22, .inl (cs 0, 100, .inl (zs_a u 13))), (q 23, .inl (cs 0, 100, .inl (zs_a u 14))), (q 24, .inl (cs 0, 100, .inl (zs_a u 15))), (q 25, .inl (cs 0, 100, .inl (zs_a u 16))), (q 26, .inl (cs 0, 100, .inl (zs_a u 17))), (q 27, .inl (cs 0, 12, .inl (zs_a u 18))), (q 28, .inl (cs 0, 80, .inl (zs_a u 19))), (q 29, .inl (cs 0, 12, .inl (zs_a u 20))), (q 30, .inl (cs 1, 12, .inr (.inl (zs_b u 0)))), (q 31, .inl (cs 0, 12, .inl (zs_a u 21))), (q 32, .inl (cs 1, 12, .inr (.inl (zs_b u 1)))), (q 33, .inl (cs 1, 12, .inr (.inl (zs_b u 2)))), (q 34, .inl (cs 0, 12, .inl (zs_a u 22)))]
theorem wX_ad {q : Nat → Nat} {cs : Nat → ClassId} : zg_Ad (wX q cs) := fun _ _ => rfl
theorem wX_c0 {q : Nat → Nat} {cs : Nat → ClassId} {u : zs_T} : (wX q cs u)[0]? = some (q 0, .inr (8, oX0 q u)) := rfl
theorem wX_c1 {q : Nat → Nat} {cs : Nat → ClassId} {u : zs_T} : (wX q cs u)[1]? = some (q 1, .inr (6, oX1 q u)) := rfl
theorem wX_c2 {q : Nat → Nat} {cs : Nat → ClassId} {u : zs_T} : (wX q cs u)[2]? = some (q 2, .inr (5, oX2 q u)) := rfl
theorem wX_c3 {q : Nat → Nat} {cs : Nat → ClassId} {u : zs_T} : (wX q cs u)[3]? = some (q 3, .inr (2, oX3 q u)) := rfl
theorem wX_c4 {q : Nat → Nat} {cs : Nat → ClassId} {u : zs_T} : (wX q cs u)[4]? = some (q 4, .inr (3, oX4 q u)) := rfl
theorem wX_c5 {q : Nat → Nat} {cs : Nat → ClassId} {u : zs_T} : (wX q cs u)[5]? = some (q 5, .inr (4, oX5 q u)) := rfl
theorem wX_c6 {q : Nat → Nat} {cs : Nat → ClassId} {u : zs_T} : (wX q cs u)[6]? = some (q 6, .inr (7, oX6 q u)) := rfl
theorem wX_c7 {q : Nat → Nat} {cs : Nat → ClassId} {u : zs_T} : (wX q cs u)[7]? = some (q 7, .inr (0, oX7 q u)) := rfl
theorem wX_c8 {q : Nat → Nat} {cs : Nat → ClassId} {u : zs_T} : (wX q cs u)[8]? = some (q 8, .inr (1, oX8 q u)) := rfl
theorem wX_c9 {q : Nat → Nat} {cs : Nat → ClassId} {u : zs_T} : (wX q cs u)[9]? = some (q 9, .inl (cs 0, 40, .inl (zs_a u 0))) := rfl
theorem wX_c10 {q : Nat → Nat} {cs : Nat → ClassId} {u : zs_T} : (wX q cs u)[10]? = some (q 10, .inl (cs 0, 4, .inl (zs_a u 1))) := rfl
theorem wX_c11 {q : Nat → Nat} {cs : Nat → ClassId} {u : zs_T} : (wX q cs u)[11]? = some (q 11, .inl (cs 0, 4, .inl (zs_a u 2))) := rfl
theorem wX_c12 {q : Nat → Nat} {cs : Nat → ClassId} {u : zs_T} : (wX q cs u)[12]? = some (q 12, .inl (cs 0, 6, .inl (zs_a u 3))) := rfl
theorem wX_c13 {q : Nat → Nat} {cs : Nat → ClassId} {u : zs_T} : (wX q cs u)[13]? = some (q 13, .inl (cs 0, 6, .inl (zs_a u 4))) := rfl
theorem wX_c14 {q : Nat → Nat} {cs : Nat → ClassId} {u : zs_T} : (wX q cs u)[14]? = some (q 14, .inl (cs 0, 6, .inl (zs_a u 5))) := rfl
theorem wX_c15 {q : Nat → Nat} {cs : Nat → ClassId} {u : zs_T} : (wX q cs u)[15]? = some (q 15, .inl (cs 0, 8, .inl (zs_a u 6))) := rfl
theorem wX_c16 {q : Nat → Nat} {cs : Nat → ClassId} {u : zs_T} : (wX q cs u)[16]? = some (q 16, .inl (cs 0, 8, .inl (zs_a u 7))) := rfl
theorem wX_c17 {q : Nat → Nat} {cs : Nat → ClassId} {u : zs_T} : (wX q cs u)[17]? = some (q 17, .inl (cs 0, 54, .inl (zs_a u 8))) := rfl
theorem wX_c18 {q : Nat → Nat} {cs : Nat → ClassId} {u : zs_T} : (wX q cs u)[18]? = some (q 18, .inl (cs 0, 6, .inl (zs_a u 9))) := rfl
theorem wX_c19 {q : Nat → Nat} {cs : Nat → ClassId} {u : zs_T} : (wX q cs u)[19]? = some (q 19, .inl (cs 0, 6, .inl (zs_a u 10))) := rfl
theorem wX_c20 {q : Nat → Nat} {cs : Nat → ClassId} {u : zs_T} : (wX q cs u)[20]? = some (q 20, .inl (cs 0, 80, .inl (zs_a u 11))) := rfl
theorem wX_c21 {q : Nat → Nat} {cs : Nat → ClassId} {u : zs_T} : (wX q cs u)[21]? = some (q 21, .inl (cs 2, 80, .inl (zs_a u 12))) := rfl
theorem wX_c22 {q : Nat → Nat} {cs : Nat → ClassId} {u : zs_T} : (wX q cs u)[22]? = some (q 22, .inl (cs 0, 100, .inl (zs_a u 13))) := rfl
theorem wX_c23 {q : Nat → Nat} {cs : Nat → ClassId} {u : zs_T} : (wX q cs u)[23]? = some (q 23, .inl (cs 0, 100, .inl (zs_a u 14))) := rfl
theorem wX_c24 {q : Nat → Nat} {cs : Nat → ClassId} {u : zs_T} : (wX q cs u)[24]? = some (q 24, .inl (cs 0, 100, .inl (zs_a u 15))) := rfl
theorem wX_c25 {q : Nat → Nat} {cs : Nat → ClassId} {u : zs_T} : (wX q cs u)[25]? = some (q 25, .inl (cs 0, 100, .inl (zs_a u 16))) := rfl
theorem wX_c26 {q : Nat → Nat} {cs : Nat → ClassId} {u : zs_T} : (wX q cs u)[26]? = some (q 26, .inl (cs 0, 100, .inl (zs_a u 17))) := rfl
theorem wX_c27 {q : Nat → Nat} {cs : Nat → ClassId} {u : zs_T} : (wX q cs u)[27]? = some (q 27, .inl (cs 0, 12, .inl (zs_a u 18))) := rfl
theorem wX_c28 {q : Nat → Nat} {cs : Nat → ClassId} {u : zs_T} : (wX q cs u)[28]? = some (q 28, .inl (cs 0, 80, .inl (zs_a u 19))) := rfl
theorem wX_c29 {q : Nat → Nat} {cs : Nat → ClassId} {u : zs_T} : (wX q cs u)[29]? = some (q 29, .inl (cs 0, 12, .inl (zs_a u 20))) := rfl
theorem wX_c30 {q : Nat → Nat} {cs : Nat → ClassId} {u : zs_T} : (wX q cs u)[30]? = some (q 30, .inl (cs 1, 12, .inr (.inl (zs_b u 0)))) := rfl
theorem wX_c31 {q : Nat → Nat} {cs : Nat → ClassId} {u : zs_T} : (wX q cs u)[31]? = some (q 31, .inl (cs 0, 12, .inl (zs_a u 21))) := rfl
theorem wX_c32 {q : Nat → Nat} {cs : Nat → ClassId} {u : zs_T} : (wX q cs u)[32]? = some (q 32, .inl (cs 1, 12, .inr (.inl (zs_b u 1)))) := rfl
theorem wX_c33 {q : Nat → Nat} {cs : Nat → ClassId} {u : zs_T} : (wX q cs u)[33]? = some (q 33, .inl (cs 1, 12, .inr (.inl (zs_b u 2)))) := rfl
theorem wX_c34 {q : Nat → Nat} {cs : Nat → ClassId} {u : zs_T} : (wX q cs u)[34]? = some (q 34, .inl (cs 0, 12, .inl (zs_a u 22))) := rfl
section ZWX
variable {p : Program} {l : Launch} {e : Env} {R : Room} {s : State} {m : MethodId} {args : Array Value} {below : List Frame} {meth : Method} {c : Code} {H : Heap} {locs : List Loc} {cells slots : Nat} {Q : State → Prop}
variable {cc : ByteArray} {nL pc index : Nat} {ls : Array Slot} {rest : List Value} {c0 : Cond} {own : String}
variable {D : va_G} {cs : Nat → ClassId} {A : Nat → Prop} {q : Nat → Nat} {u : zs_T}
theorem rcX_0 : zc_rc (wX q cs) u (q 0) RX8 := ⟨0, 8, _, _, wX_c0, rfl, rfl⟩
theorem xg_0_0 (C : CallFix p m c cc nL s args (c0 :: zw_all) own) (w : zg_W D cs A s (wX q cs u) H locs) (hl : Cond.fieldLink own index RX8 "tape" "LFlockPass$Tape;" ∈ zw_all) (hdg : decode cc pc = .ok (.getfield index, 3)) (kk : W p l e R s m args below meth c H locs cells slots Q (F0 m (pc + 3) ls (.ref (q 1) :: rest))) : W p l e R s m args below meth c H locs cells slots Q (F0 m pc ls (.ref (q 0) :: rest)) := zr_get (k := 0) C w wX_c0 rfl inz8 (by decide) hl rfl rfl hdg kk
theorem xg_0_1 (C : CallFix p m c cc nL s args (c0 :: zw_all) own) (w : zg_W D cs A s (wX q cs u) H locs) (hl : Cond.fieldLink own index RX8 "book" "LFlockPass$RuleBook;" ∈ zw_all) (hdg : decode cc pc = .ok (.getfield index, 3)) (kk : W p l e R s m args below meth c H locs cells slots Q (F0 m (pc + 3) ls (.ref (q 2) :: rest))) : W p l e R s m args below meth c H locs cells slots Q (F0 m pc ls (.ref (q 0) :: rest)) := zr_get (k := 1) C w wX_c0 rfl inz8 (by decide) hl rfl rfl hdg kk
theorem xg_0_2 (C : CallFix p m c cc nL s args (c0 :: zw_all) own) (w : zg_W D cs A s (wX q cs u) H locs) (hl : Cond.fieldLink own index RX8 "pasture" "LFlockPass$Pasture;" ∈ zw_all) (hdg : decode cc pc = .ok (.getfield index, 3)) (kk : W p l e R s m args below meth c H locs cells slots Q (F0 m (pc + 3) ls (.ref (q 3) :: rest))) : W p l e R s m args below meth c H locs cells slots Q (F0 m pc ls (.ref (q 0) :: rest)) := zr_get (k := 2) C w wX_c0 rfl inz8 (by decide) hl rfl rfl hdg kk
theorem xg_0_3 (C : CallFix p m c cc nL s args (c0 :: zw_all) own) (w : zg_W D cs A s (wX q cs u) H locs) (hl : Cond.fieldLink own index RX8 "planner" "LFlockPass$Planner;" ∈ zw_all) (hdg : decode cc pc = .ok (.getfield index, 3)) (kk : W p l e R s m args below meth c H locs cells slots Q (F0 m (pc + 3) ls (.ref (q 4) :: rest))) : W p l e R s m args below meth c H locs cells slots Q (F0 m pc ls (.ref (q 0) :: rest)) := zr_get (k := 3) C w wX_c0 rfl inz8 (by decide) hl rfl rfl hdg kk
theorem xg_0_4 (C : CallFix p m c cc nL s args (c0 :: zw_all) own) (w : zg_W D cs A s (wX q cs u) H locs) (hl : Cond.fieldLink own index RX8 "register" "LFlockPass$Register;" ∈ zw_all) (hdg : decode cc pc = .ok (.getfield index, 3)) (kk : W p l e R s m args below meth c H locs cells slots Q (F0 m (pc + 3) ls (.ref (q 5) :: rest))) : W p l e R s m args below meth c H locs cells slots Q (F0 m pc ls (.ref (q 0) :: rest)) := zr_get (k := 4) C w wX_c0 rfl inz8 (by decide) hl rfl rfl hdg kk
theorem xg_0_5 (C : CallFix p m c cc nL s args (c0 :: zw_all) own) (w : zg_W D cs A s (wX q cs u) H locs) (hl : Cond.fieldLink own index RX8 "trace" "LFlockPass$Trace;" ∈ zw_all) (hdg : decode cc pc = .ok (.getfield index, 3)) (kk : W p l e R s m args below meth c H locs cells slots Q (F0 m (pc + 3) ls (.ref (q 6) :: rest))) : W p l e R s m args below meth c H locs cells slots Q (F0 m pc ls (.ref (q 0) :: rest)) := zr_get (k := 5) C w wX_c0 rfl inz8 (by decide) hl rfl rfl hdg kk
theorem xg_0_6 (C : CallFix p m c cc nL s args (c0 :: zw_all) own) (w : zg_W D cs A s (wX q cs u) H locs) (hl : Cond.fieldLink own index RX8 "dairy" "LFlockPass$Dairy;" ∈ zw_all) (hdg : decode cc pc = .ok (.getfield index, 3)) (kk : W p l e R s m args below meth c H locs cells slots Q (F0 m (pc + 3) ls (.ref (q 7) :: rest))) : W p l e R s m args below meth c H locs cells slots Q (F0 m pc ls (.ref (q 0) :: rest)) := zr_get (k := 6) C w wX_c0 rfl inz8 (by decide) hl rfl rfl hdg kk
theorem xg_0_7 (C : CallFix p m c cc nL s args (c0 :: zw_all) own) (w : zg_W D cs A s (wX q cs u) H locs) (hl : Cond.fieldLink own index RX8 "ledger" "LFlockPass$Ledger;" ∈ zw_all) (hdg : decode cc pc = .ok (.getfield index, 3)) (kk : W p l e R s m args below meth c H locs cells slots Q (F0 m (pc + 3) ls (.ref (q 8) :: rest))) : W p l e R s m args below meth c H locs cells slots Q (F0 m pc ls (.ref (q 0) :: rest)) := zr_get (k := 7) C w wX_c0 rfl inz8 (by decide) hl rfl rfl hdg kk
theorem xg_0_8 (C : CallFix p m c cc nL s args (c0 :: zw_all) own) (w : zg_W D cs A s (wX q cs u) H locs) (hl : Cond.fieldLink own index RX8 "year" "I" ∈ zw_all) (hdg : decode cc pc = .ok (.getfield index, 3)) (kk : W p l e R s m args below meth c H locs cells slots Q (F0 m (pc + 3) ls (.int (zs_i u 0) :: rest))) : W p l e R s m args below meth c H locs cells slots Q (F0 m pc ls (.ref (q 0) :: rest)) := zr_get (k := 8) C w wX_c0 rfl inz8 (by decide) hl rfl rfl hdg kk
theorem xp_0_8 (C : CallFix p m c cc nL s args (c0 :: zw_all) own) (w : zg_W D cs A s (wX q cs u) H locs) {v : Int32} (hl : Cond.fieldLink own index RX8 "year" "I" ∈ zw_all) (hdg : decode cc pc = .ok (.putfield index, 3)) (kk : ∀ (H1 : Heap) (locs1 : List Loc), zg_W D cs A s (wX q cs (zs_si u 0 v)) H1 locs1 → W p l e R s m args below meth c H1 locs1 cells slots Q (F0 m (pc + 3) ls rest)) : W p l e R s m args below meth c H locs cells slots Q (F0 m pc ls (.int v :: .ref (q 0) :: rest)) := zr_put (k := 8) (ty := .int) C w wX_c0 rfl inz8 tyX8 tyX8_ok nmX8 (by decide) hl rfl rfl (by decide +kernel) rfl rfl (Nat.le_of_ble_eq_true rfl) rfl hdg kk
theorem xg_0_9 (C : CallFix p m c cc nL s args (c0 :: zw_all) own) (w : zg_W D cs A s (wX q cs u) H locs) (hl : Cond.fieldLink own index RX8 "today" "I" ∈ zw_all) (hdg : decode cc pc = .ok (.getfield index, 3)) (kk : W p l e R s m args below meth c H locs cells slots Q (F0 m (pc + 3) ls (.int (zs_i u 1) :: rest))) : W p l e R s m args below meth c H locs cells slots Q (F0 m pc ls (.ref (q 0) :: rest)) := zr_get (k := 9) C w wX_c0 rfl inz8 (by decide) hl rfl rfl hdg kk
theorem xp_0_9 (C : CallFix p m c cc nL s args (c0 :: zw_all) own) (w : zg_W D cs A s (wX q cs u) H locs) {v : Int32} (hl : Cond.fieldLink own index RX8 "today" "I" ∈ zw_all) (hdg : decode cc pc = .ok (.putfield index, 3)) (kk : ∀ (H1 : Heap) (locs1 : List Loc), zg_W D cs A s (wX q cs (zs_si u 1 v)) H1 locs1 → W p l e R s m args below meth c H1 locs1 cells slots Q (F0 m (pc + 3) ls rest)) : W p l e R s m args below meth c H locs cells slots Q (F0 m pc ls (.int v :: .ref (q 0) :: rest)) := zr_put (k := 9) (ty := .int) C w wX_c0 rfl inz8 tyX8 tyX8_ok nmX8 (by decide) hl rfl rfl (by decide +kernel) rfl rfl (Nat.le_of_ble_eq_true rfl) rfl hdg kk
theorem rcX_1 : zc_rc (wX q cs) u (q 1) RX6 := ⟨1, 6, _, _, wX_c1, rfl, rfl⟩
theorem xg_1_0 (C : CallFix p m c cc nL s args (c0 :: zw_all) own) (w : zg_W D cs A s (wX q cs u) H locs) (hl : Cond.fieldLink own index RX6 "bytes" "[I" ∈ zw_all) (hdg : decode cc pc = .ok (.getfield index, 3)) (kk : W p l e R s m args below meth c H locs cells slots Q (F0 m (pc + 3) ls (.ref (q 9) :: rest))) : W p l e R s m args below meth c H locs cells slots Q (F0 m pc ls (.ref (q 1) :: rest)) := zr_get (k := 0) C w wX_c1 rfl inz6 (by decide) hl rfl rfl hdg kk
theorem xg_1_1 (C : CallFix p m c cc nL s args (c0 :: zw_all) own) (w : zg_W D cs A s (wX q cs u) H locs) (hl : Cond.fieldLink own index RX6 "size" "I" ∈ zw_all) (hdg : decode cc pc = .ok (.getfield index, 3)) (kk : W p l e R s m args below meth c H locs cells slots Q (F0 m (pc + 3) ls (.int (zs_i u 2) :: rest))) : W p l e R s m args below meth c H locs cells slots Q (F0 m pc ls (.ref (q 1) :: rest)) := zr_get (k := 1) C w wX_c1 rfl inz6 (by decide) hl rfl rfl hdg kk
theorem xp_1_1 (C : CallFix p m c cc nL s args (c0 :: zw_all) own) (w : zg_W D cs A s (wX q cs u) H locs) {v : Int32} (hl : Cond.fieldLink own index RX6 "size" "I" ∈ zw_all) (hdg : decode cc pc = .ok (.putfield index, 3)) (kk : ∀ (H1 : Heap) (locs1 : List Loc), zg_W D cs A s (wX q cs (zs_si u 2 v)) H1 locs1 → W p l e R s m args below meth c H1 locs1 cells slots Q (F0 m (pc + 3) ls rest)) : W p l e R s m args below meth c H locs cells slots Q (F0 m pc ls (.int v :: .ref (q 1) :: rest)) := zr_put (k := 1) (ty := .int) C w wX_c1 rfl inz6 tyX6 tyX6_ok nmX6 (by decide) hl rfl rfl (by decide +kernel) rfl rfl (Nat.le_of_ble_eq_true rfl) rfl hdg kk
theorem rcX_2 : zc_rc (wX q cs) u (q 2) RX5 := ⟨2, 5, _, _, wX_c2, rfl, rfl⟩
theorem xg_2_0 (C : CallFix p m c cc nL s args (c0 :: zw_all) own) (w : zg_W D cs A s (wX q cs u) H locs) (hl : Cond.fieldLink own index RX5 "numbers" "[I" ∈ zw_all) (hdg : decode cc pc = .ok (.getfield index, 3)) (kk : W p l e R s m args below meth c H locs cells slots Q (F0 m (pc + 3) ls (.ref (q 10) :: rest))) : W p l e R s m args below meth c H locs cells slots Q (F0 m pc ls (.ref (q 2) :: rest)) := zr_get (k := 0) C w wX_c2 rfl inz5 (by decide) hl rfl rfl hdg kk
theorem xg_2_1 (C : CallFix p m c cc nL s args (c0 :: zw_all) own) (w : zg_W D cs A s (wX q cs u) H locs) (hl : Cond.fieldLink own index RX5 "draft" "[I" ∈ zw_all) (hdg : decode cc pc = .ok (.getfield index, 3)) (kk : W p l e R s m args below meth c H locs cells slots Q (F0 m (pc + 3) ls (.ref (q 11) :: rest))) : W p l e R s m args below meth c H locs cells slots Q (F0 m pc ls (.ref (q 2) :: rest)) := zr_get (k := 1) C w wX_c2 rfl inz5 (by decide) hl rfl rfl hdg kk
theorem rcX_3 : zc_rc (wX q cs) u (q 3) RX2 := ⟨3, 2, _, _, wX_c3, rfl, rfl⟩
theorem xg_3_0 (C : CallFix p m c cc nL s args (c0 :: zw_all) own) (w : zg_W D cs A s (wX q cs u) H locs) (hl : Cond.fieldLink own index RX2 "grassOf" "[I" ∈ zw_all) (hdg : decode cc pc = .ok (.getfield index, 3)) (kk : W p l e R s m args below meth c H locs cells slots Q (F0 m (pc + 3) ls (.ref (q 12) :: rest))) : W p l e R s m args below meth c H locs cells slots Q (F0 m pc ls (.ref (q 3) :: rest)) := zr_get (k := 0) C w wX_c3 rfl inz2 (by decide) hl rfl rfl hdg kk
theorem xg_3_1 (C : CallFix p m c cc nL s args (c0 :: zw_all) own) (w : zg_W D cs A s (wX q cs u) H locs) (hl : Cond.fieldLink own index RX2 "mostOf" "[I" ∈ zw_all) (hdg : decode cc pc = .ok (.getfield index, 3)) (kk : W p l e R s m args below meth c H locs cells slots Q (F0 m (pc + 3) ls (.ref (q 13) :: rest))) : W p l e R s m args below meth c H locs cells slots Q (F0 m pc ls (.ref (q 3) :: rest)) := zr_get (k := 1) C w wX_c3 rfl inz2 (by decide) hl rfl rfl hdg kk
theorem xg_3_2 (C : CallFix p m c cc nL s args (c0 :: zw_all) own) (w : zg_W D cs A s (wX q cs u) H locs) (hl : Cond.fieldLink own index RX2 "growthOf" "[I" ∈ zw_all) (hdg : decode cc pc = .ok (.getfield index, 3)) (kk : W p l e R s m args below meth c H locs cells slots Q (F0 m (pc + 3) ls (.ref (q 14) :: rest))) : W p l e R s m args below meth c H locs cells slots Q (F0 m pc ls (.ref (q 3) :: rest)) := zr_get (k := 2) C w wX_c3 rfl inz2 (by decide) hl rfl rfl hdg kk
theorem xg_3_3 (C : CallFix p m c cc nL s args (c0 :: zw_all) own) (w : zg_W D cs A s (wX q cs u) H locs) (hl : Cond.fieldLink own index RX2 "heights" "I" ∈ zw_all) (hdg : decode cc pc = .ok (.getfield index, 3)) (kk : W p l e R s m args below meth c H locs cells slots Q (F0 m (pc + 3) ls (.int (zs_i u 3) :: rest))) : W p l e R s m args below meth c H locs cells slots Q (F0 m pc ls (.ref (q 3) :: rest)) := zr_get (k := 3) C w wX_c3 rfl inz2 (by decide) hl rfl rfl hdg kk
theorem xp_3_3 (C : CallFix p m c cc nL s args (c0 :: zw_all) own) (w : zg_W D cs A s (wX q cs u) H locs) {v : Int32} (hl : Cond.fieldLink own index RX2 "heights" "I" ∈ zw_all) (hdg : decode cc pc = .ok (.putfield index, 3)) (kk : ∀ (H1 : Heap) (locs1 : List Loc), zg_W D cs A s (wX q cs (zs_si u 3 v)) H1 locs1 → W p l e R s m args below meth c H1 locs1 cells slots Q (F0 m (pc + 3) ls rest)) : W p l e R s m args below meth c H locs cells slots Q (F0 m pc ls (.int v :: .ref (q 3) :: rest)) := zr_put (k := 3) (ty := .int) C w wX_c3 rfl inz2 tyX2 tyX2_ok nmX2 (by decide) hl rfl rfl (by decide +kernel) rfl rfl (Nat.le_of_ble_eq_true rfl) rfl hdg kk
theorem xg_3_4 (C : CallFix p m c cc nL s args (c0 :: zw_all) own) (w : zg_W D cs A s (wX q cs u) H locs) (hl : Cond.fieldLink own index RX2 "snow" "I" ∈ zw_all) (hdg : decode cc pc = .ok (.getfield index, 3)) (kk : W p l e R s m args below meth c H locs cells slots Q (F0 m (pc + 3) ls (.int (zs_i u 4) :: rest))) : W p l e R s m args below meth c H locs cells slots Q (F0 m pc ls (.ref (q 3) :: rest)) := zr_get (k := 4) C w wX_c3 rfl inz2 (by decide) hl rfl rfl hdg kk
theorem xp_3_4 (C : CallFix p m c cc nL s args (c0 :: zw_all) own) (w : zg_W D cs A s (wX q cs u) H locs) {v : Int32} (hl : Cond.fieldLink own index RX2 "snow" "I" ∈ zw_all) (hdg : decode cc pc = .ok (.putfield index, 3)) (kk : ∀ (H1 : Heap) (locs1 : List Loc), zg_W D cs A s (wX q cs (zs_si u 4 v)) H1 locs1 → W p l e R s m args below meth c H1 locs1 cells slots Q (F0 m (pc + 3) ls rest)) : W p l e R s m args below meth c H locs cells slots Q (F0 m pc ls (.int v :: .ref (q 3) :: rest)) := zr_put (k := 4) (ty := .int) C w wX_c3 rfl inz2 tyX2 tyX2_ok nmX2 (by decide) hl rfl rfl (by decide +kernel) rfl rfl (Nat.le_of_ble_eq_true rfl) rfl hdg kk
theorem xg_3_5 (C : CallFix p m c cc nL s args (c0 :: zw_all) own) (w : zg_W D cs A s (wX q cs u) H locs) (hl : Cond.fieldLink own index RX2 "flockAt" "I" ∈ zw_all) (hdg : decode cc pc = .ok (.getfield index, 3)) (kk : W p l e R s m args below meth c H locs cells slots Q (F0 m (pc + 3) ls (.int (zs_i u 5) :: rest))) : W p l e R s m args below meth c H locs cells slots Q (F0 m pc ls (.ref (q 3) :: rest)) := zr_get (k := 5) C w wX_c3 rfl inz2 (by decide) hl rfl rfl hdg kk
theorem xp_3_5 (C : CallFix p m c cc nL s args (c0 :: zw_all) own) (w : zg_W D cs A s (wX q cs u) H locs) {v : Int32} (hl : Cond.fieldLink own index RX2 "flockAt" "I" ∈ zw_all) (hdg : decode cc pc = .ok (.putfield index, 3)) (kk : ∀ (H1 : Heap) (locs1 : List Loc), zg_W D cs A s (wX q cs (zs_si u 5 v)) H1 locs1 → W p l e R s m args below meth c H1 locs1 cells slots Q (F0 m (pc + 3) ls rest)) : W p l e R s m args below meth c H locs cells slots Q (F0 m pc ls (.int v :: .ref (q 3) :: rest)) := zr_put (k := 5) (ty := .int) C w wX_c3 rfl inz2 tyX2 tyX2_ok nmX2 (by decide) hl rfl rfl (by decide +kernel) rfl rfl (Nat.le_of_ble_eq_true rfl) rfl hdg kk
theorem xg_3_6 (C : CallFix p m c cc nL s args (c0 :: zw_all) own) (w : zg_W D cs A s (wX q cs u) H locs) (hl : Cond.fieldLink own index RX2 "hunger" "I" ∈ zw_all) (hdg : decode cc pc = .ok (.getfield index, 3)) (kk : W p l e R s m args below meth c H locs cells slots Q (F0 m (pc + 3) ls (.int (zs_i u 6) :: rest))) : W p l e R s m args below meth c H locs cells slots Q (F0 m pc ls (.ref (q 3) :: rest)) := zr_get (k := 6) C w wX_c3 rfl inz2 (by decide) hl rfl rfl hdg kk
theorem xp_3_6 (C : CallFix p m c cc nL s args (c0 :: zw_all) own) (w : zg_W D cs A s (wX q cs u) H locs) {v : Int32} (hl : Cond.fieldLink own index RX2 "hunger" "I" ∈ zw_all) (hdg : decode cc pc = .ok (.putfield index, 3)) (kk : ∀ (H1 : Heap) (locs1 : List Loc), zg_W D cs A s (wX q cs (zs_si u 6 v)) H1 locs1 → W p l e R s m args below meth c H1 locs1 cells slots Q (F0 m (pc + 3) ls rest)) : W p l e R s m args below meth c H locs cells slots Q (F0 m pc ls (.int v :: .ref (q 3) :: rest)) := zr_put (k := 6) (ty := .int) C w wX_c3 rfl inz2 tyX2 tyX2_ok nmX2 (by decide) hl rfl rfl (by decide +kernel) rfl rfl (Nat.le_of_ble_eq_true rfl) rfl hdg kk
theorem xg_3_7 (C : CallFix p m c cc nL s args (c0 :: zw_all) own) (w : zg_W D cs A s (wX q cs u) H locs) (hl : Cond.fieldLink own index RX2 "eaten" "J" ∈ zw_all) (hdg : decode cc pc = .ok (.getfield index, 3)) (kk : W p l e R s m args below meth c H locs cells slots Q (F0 m (pc + 3) ls (.long (zs_l u 0) :: rest))) : W p l e R s m args below meth c H locs cells slots Q (F0 m pc ls (.ref (q 3) :: rest)) := zr_get (k := 7) C w wX_c3 rfl inz2 (by decide) hl rfl rfl hdg kk
theorem xp_3_7 (C : CallFix p m c cc nL s args (c0 :: zw_all) own) (w : zg_W D cs A s (wX q cs u) H locs) {v : Int64} (hl : Cond.fieldLink own index RX2 "eaten" "J" ∈ zw_all) (hdg : decode cc pc = .ok (.putfield index, 3)) (kk : ∀ (H1 : Heap) (locs1 : List Loc), zg_W D cs A s (wX q cs (zs_sl u 0 v)) H1 locs1 → W p l e R s m args below meth c H1 locs1 cells slots Q (F0 m (pc + 3) ls rest)) : W p l e R s m args below meth c H locs cells slots Q (F0 m pc ls (.long v :: .ref (q 3) :: rest)) := zr_put (k := 7) (ty := .long) C w wX_c3 rfl inz2 tyX2 tyX2_ok nmX2 (by decide) hl rfl rfl (by decide +kernel) rfl rfl (Nat.le_of_ble_eq_true rfl) rfl hdg kk
theorem rcX_4 : zc_rc (wX q cs) u (q 4) RX3 := ⟨4, 3, _, _, wX_c4, rfl, rfl⟩
theorem xg_4_0 (C : CallFix p m c cc nL s args (c0 :: zw_all) own) (w : zg_W D cs A s (wX q cs u) H locs) (hl : Cond.fieldLink own index RX3 "bestPath" "[I" ∈ zw_all) (hdg : decode cc pc = .ok (.getfield index, 3)) (kk : W p l e R s m args below meth c H locs cells slots Q (F0 m (pc + 3) ls (.ref (q 15) :: rest))) : W p l e R s m args below meth c H locs cells slots Q (F0 m pc ls (.ref (q 4) :: rest)) := zr_get (k := 0) C w wX_c4 rfl inz3 (by decide) hl rfl rfl hdg kk
theorem xg_4_1 (C : CallFix p m c cc nL s args (c0 :: zw_all) own) (w : zg_W D cs A s (wX q cs u) H locs) (hl : Cond.fieldLink own index RX3 "length" "I" ∈ zw_all) (hdg : decode cc pc = .ok (.getfield index, 3)) (kk : W p l e R s m args below meth c H locs cells slots Q (F0 m (pc + 3) ls (.int (zs_i u 7) :: rest))) : W p l e R s m args below meth c H locs cells slots Q (F0 m pc ls (.ref (q 4) :: rest)) := zr_get (k := 1) C w wX_c4 rfl inz3 (by decide) hl rfl rfl hdg kk
theorem xp_4_1 (C : CallFix p m c cc nL s args (c0 :: zw_all) own) (w : zg_W D cs A s (wX q cs u) H locs) {v : Int32} (hl : Cond.fieldLink own index RX3 "length" "I" ∈ zw_all) (hdg : decode cc pc = .ok (.putfield index, 3)) (kk : ∀ (H1 : Heap) (locs1 : List Loc), zg_W D cs A s (wX q cs (zs_si u 7 v)) H1 locs1 → W p l e R s m args below meth c H1 locs1 cells slots Q (F0 m (pc + 3) ls rest)) : W p l e R s m args below meth c H locs cells slots Q (F0 m pc ls (.int v :: .ref (q 4) :: rest)) := zr_put (k := 1) (ty := .int) C w wX_c4 rfl inz3 tyX3 tyX3_ok nmX3 (by decide) hl rfl rfl (by decide +kernel) rfl rfl (Nat.le_of_ble_eq_true rfl) rfl hdg kk
theorem xg_4_2 (C : CallFix p m c cc nL s args (c0 :: zw_all) own) (w : zg_W D cs A s (wX q cs u) H locs) (hl : Cond.fieldLink own index RX3 "path" "[I" ∈ zw_all) (hdg : decode cc pc = .ok (.getfield index, 3)) (kk : W p l e R s m args below meth c H locs cells slots Q (F0 m (pc + 3) ls (.ref (q 16) :: rest))) : W p l e R s m args below meth c H locs cells slots Q (F0 m pc ls (.ref (q 4) :: rest)) := zr_get (k := 2) C w wX_c4 rfl inz3 (by decide) hl rfl rfl hdg kk
theorem xg_4_3 (C : CallFix p m c cc nL s args (c0 :: zw_all) own) (w : zg_W D cs A s (wX q cs u) H locs) (hl : Cond.fieldLink own index RX3 "rows" "[I" ∈ zw_all) (hdg : decode cc pc = .ok (.getfield index, 3)) (kk : W p l e R s m args below meth c H locs cells slots Q (F0 m (pc + 3) ls (.ref (q 17) :: rest))) : W p l e R s m args below meth c H locs cells slots Q (F0 m pc ls (.ref (q 4) :: rest)) := zr_get (k := 3) C w wX_c4 rfl inz3 (by decide) hl rfl rfl hdg kk
theorem xg_4_4 (C : CallFix p m c cc nL s args (c0 :: zw_all) own) (w : zg_W D cs A s (wX q cs u) H locs) (hl : Cond.fieldLink own index RX3 "mostOf" "[I" ∈ zw_all) (hdg : decode cc pc = .ok (.getfield index, 3)) (kk : W p l e R s m args below meth c H locs cells slots Q (F0 m (pc + 3) ls (.ref (q 18) :: rest))) : W p l e R s m args below meth c H locs cells slots Q (F0 m pc ls (.ref (q 4) :: rest)) := zr_get (k := 4) C w wX_c4 rfl inz3 (by decide) hl rfl rfl hdg kk
theorem xg_4_5 (C : CallFix p m c cc nL s args (c0 :: zw_all) own) (w : zg_W D cs A s (wX q cs u) H locs) (hl : Cond.fieldLink own index RX3 "gainOf" "[I" ∈ zw_all) (hdg : decode cc pc = .ok (.getfield index, 3)) (kk : W p l e R s m args below meth c H locs cells slots Q (F0 m (pc + 3) ls (.ref (q 19) :: rest))) : W p l e R s m args below meth c H locs cells slots Q (F0 m pc ls (.ref (q 4) :: rest)) := zr_get (k := 5) C w wX_c4 rfl inz3 (by decide) hl rfl rfl hdg kk
theorem xg_4_6 (C : CallFix p m c cc nL s args (c0 :: zw_all) own) (w : zg_W D cs A s (wX q cs u) H locs) (hl : Cond.fieldLink own index RX3 "heights" "I" ∈ zw_all) (hdg : decode cc pc = .ok (.getfield index, 3)) (kk : W p l e R s m args below meth c H locs cells slots Q (F0 m (pc + 3) ls (.int (zs_i u 8) :: rest))) : W p l e R s m args below meth c H locs cells slots Q (F0 m pc ls (.ref (q 4) :: rest)) := zr_get (k := 6) C w wX_c4 rfl inz3 (by decide) hl rfl rfl hdg kk
theorem xp_4_6 (C : CallFix p m c cc nL s args (c0 :: zw_all) own) (w : zg_W D cs A s (wX q cs u) H locs) {v : Int32} (hl : Cond.fieldLink own index RX3 "heights" "I" ∈ zw_all) (hdg : decode cc pc = .ok (.putfield index, 3)) (kk : ∀ (H1 : Heap) (locs1 : List Loc), zg_W D cs A s (wX q cs (zs_si u 8 v)) H1 locs1 → W p l e R s m args below meth c H1 locs1 cells slots Q (F0 m (pc + 3) ls rest)) : W p l e R s m args below meth c H locs cells slots Q (F0 m pc ls (.int v :: .ref (q 4) :: rest)) := zr_put (k := 6) (ty := .int) C w wX_c4 rfl inz3 tyX3 tyX3_ok nmX3 (by decide) hl rfl rfl (by decide +kernel) rfl rfl (Nat.le_of_ble_eq_true rfl) rfl hdg kk
theorem xg_4_7 (C : CallFix p m c cc nL s args (c0 :: zw_all) own) (w : zg_W D cs A s (wX q cs u) H locs) (hl : Cond.fieldLink own index RX3 "wanted" "I" ∈ zw_all) (hdg : decode cc pc = .ok (.getfield index, 3)) (kk : W p l e R s m args below meth c H locs cells slots Q (F0 m (pc + 3) ls (.int (zs_i u 9) :: rest))) : W p l e R s m args below meth c H locs cells slots Q (F0 m pc ls (.ref (q 4) :: rest)) := zr_get (k := 7) C w wX_c4 rfl inz3 (by decide) hl rfl rfl hdg kk
theorem xp_4_7 (C : CallFix p m c cc nL s args (c0 :: zw_all) own) (w : zg_W D cs A s (wX q cs u) H locs) {v : Int32} (hl : Cond.fieldLink own index RX3 "wanted" "I" ∈ zw_all) (hdg : decode cc pc = .ok (.putfield index, 3)) (kk : ∀ (H1 : Heap) (locs1 : List Loc), zg_W D cs A s (wX q cs (zs_si u 9 v)) H1 locs1 → W p l e R s m args below meth c H1 locs1 cells slots Q (F0 m (pc + 3) ls rest)) : W p l e R s m args below meth c H locs cells slots Q (F0 m pc ls (.int v :: .ref (q 4) :: rest)) := zr_put (k := 7) (ty := .int) C w wX_c4 rfl inz3 tyX3 tyX3_ok nmX3 (by decide) hl rfl rfl (by decide +kernel) rfl rfl (Nat.le_of_ble_eq_true rfl) rfl hdg kk
theorem xg_4_8 (C : CallFix p m c cc nL s args (c0 :: zw_all) own) (w : zg_W D cs A s (wX q cs u) H locs) (hl : Cond.fieldLink own index RX3 "bestHunger" "I" ∈ zw_all) (hdg : decode cc pc = .ok (.getfield index, 3)) (kk : W p l e R s m args below meth c H locs cells slots Q (F0 m (pc + 3) ls (.int (zs_i u 10) :: rest))) : W p l e R s m args below meth c H locs cells slots Q (F0 m pc ls (.ref (q 4) :: rest)) := zr_get (k := 8) C w wX_c4 rfl inz3 (by decide) hl rfl rfl hdg kk
theorem xp_4_8 (C : CallFix p m c cc nL s args (c0 :: zw_all) own) (w : zg_W D cs A s (wX q cs u) H locs) {v : Int32} (hl : Cond.fieldLink own index RX3 "bestHunger" "I" ∈ zw_all) (hdg : decode cc pc = .ok (.putfield index, 3)) (kk : ∀ (H1 : Heap) (locs1 : List Loc), zg_W D cs A s (wX q cs (zs_si u 10 v)) H1 locs1 → W p l e R s m args below meth c H1 locs1 cells slots Q (F0 m (pc + 3) ls rest)) : W p l e R s m args below meth c H locs cells slots Q (F0 m pc ls (.int v :: .ref (q 4) :: rest)) := zr_put (k := 8) (ty := .int) C w wX_c4 rfl inz3 tyX3 tyX3_ok nmX3 (by decide) hl rfl rfl (by decide +kernel) rfl rfl (Nat.le_of_ble_eq_true rfl) rfl hdg kk
theorem xg_4_9 (C : CallFix p m c cc nL s args (c0 :: zw_all) own) (w : zg_W D cs A s (wX q cs u) H locs) (hl : Cond.fieldLink own index RX3 "bestGrass" "I" ∈ zw_all) (hdg : decode cc pc = .ok (.getfield index, 3)) (kk : W p l e R s m args below meth c H locs cells slots Q (F0 m (pc + 3) ls (.int (zs_i u 11) :: rest))) : W p l e R s m args below meth c H locs cells slots Q (F0 m pc ls (.ref (q 4) :: rest)) := zr_get (k := 9) C w wX_c4 rfl inz3 (by decide) hl rfl rfl hdg kk
theorem xp_4_9 (C : CallFix p m c cc nL s args (c0 :: zw_all) own) (w : zg_W D cs A s (wX q cs u) H locs) {v : Int32} (hl : Cond.fieldLink own index RX3 "bestGrass" "I" ∈ zw_all) (hdg : decode cc pc = .ok (.putfield index, 3)) (kk : ∀ (H1 : Heap) (locs1 : List Loc), zg_W D cs A s (wX q cs (zs_si u 11 v)) H1 locs1 → W p l e R s m args below meth c H1 locs1 cells slots Q (F0 m (pc + 3) ls rest)) : W p l e R s m args below meth c H locs cells slots Q (F0 m pc ls (.int v :: .ref (q 4) :: rest)) := zr_put (k := 9) (ty := .int) C w wX_c4 rfl inz3 tyX3 tyX3_ok nmX3 (by decide) hl rfl rfl (by decide +kernel) rfl rfl (Nat.le_of_ble_eq_true rfl) rfl hdg kk
theorem rcX_5 : zc_rc (wX q cs) u (q 5) RX4 := ⟨5, 4, _, _, wX_c5, rfl, rfl⟩
theorem xg_5_0 (C : CallFix p m c cc nL s args (c0 :: zw_all) own) (w : zg_W D cs A s (wX q cs u) H locs) (hl : Cond.fieldLink own index RX4 "firstOwnerOf" "[I" ∈ zw_all) (hdg : decode cc pc = .ok (.getfield index, 3)) (kk : W p l e R s m args below meth c H locs cells slots Q (F0 m (pc + 3) ls (.ref (q 20) :: rest))) : W p l e R s m args below meth c H locs cells slots Q (F0 m pc ls (.ref (q 5) :: rest)) := zr_get (k := 0) C w wX_c5 rfl inz4 (by decide) hl rfl rfl hdg kk
theorem xg_5_1 (C : CallFix p m c cc nL s args (c0 :: zw_all) own) (w : zg_W D cs A s (wX q cs u) H locs) (hl : Cond.fieldLink own index RX4 "gone" "[Z" ∈ zw_all) (hdg : decode cc pc = .ok (.getfield index, 3)) (kk : W p l e R s m args below meth c H locs cells slots Q (F0 m (pc + 3) ls (.ref (q 21) :: rest))) : W p l e R s m args below meth c H locs cells slots Q (F0 m pc ls (.ref (q 5) :: rest)) := zr_get (k := 1) C w wX_c5 rfl inz4 (by decide) hl rfl rfl hdg kk
theorem xg_5_2 (C : CallFix p m c cc nL s args (c0 :: zw_all) own) (w : zg_W D cs A s (wX q cs u) H locs) (hl : Cond.fieldLink own index RX4 "size" "I" ∈ zw_all) (hdg : decode cc pc = .ok (.getfield index, 3)) (kk : W p l e R s m args below meth c H locs cells slots Q (F0 m (pc + 3) ls (.int (zs_i u 12) :: rest))) : W p l e R s m args below meth c H locs cells slots Q (F0 m pc ls (.ref (q 5) :: rest)) := zr_get (k := 2) C w wX_c5 rfl inz4 (by decide) hl rfl rfl hdg kk
theorem xp_5_2 (C : CallFix p m c cc nL s args (c0 :: zw_all) own) (w : zg_W D cs A s (wX q cs u) H locs) {v : Int32} (hl : Cond.fieldLink own index RX4 "size" "I" ∈ zw_all) (hdg : decode cc pc = .ok (.putfield index, 3)) (kk : ∀ (H1 : Heap) (locs1 : List Loc), zg_W D cs A s (wX q cs (zs_si u 12 v)) H1 locs1 → W p l e R s m args below meth c H1 locs1 cells slots Q (F0 m (pc + 3) ls rest)) : W p l e R s m args below meth c H locs cells slots Q (F0 m pc ls (.int v :: .ref (q 5) :: rest)) := zr_put (k := 2) (ty := .int) C w wX_c5 rfl inz4 tyX4 tyX4_ok nmX4 (by decide) hl rfl rfl (by decide +kernel) rfl rfl (Nat.le_of_ble_eq_true rfl) rfl hdg kk
theorem xg_5_3 (C : CallFix p m c cc nL s args (c0 :: zw_all) own) (w : zg_W D cs A s (wX q cs u) H locs) (hl : Cond.fieldLink own index RX4 "actOf" "[I" ∈ zw_all) (hdg : decode cc pc = .ok (.getfield index, 3)) (kk : W p l e R s m args below meth c H locs cells slots Q (F0 m (pc + 3) ls (.ref (q 22) :: rest))) : W p l e R s m args below meth c H locs cells slots Q (F0 m pc ls (.ref (q 5) :: rest)) := zr_get (k := 3) C w wX_c5 rfl inz4 (by decide) hl rfl rfl hdg kk
theorem xg_5_4 (C : CallFix p m c cc nL s args (c0 :: zw_all) own) (w : zg_W D cs A s (wX q cs u) H locs) (hl : Cond.fieldLink own index RX4 "sheepOf" "[I" ∈ zw_all) (hdg : decode cc pc = .ok (.getfield index, 3)) (kk : W p l e R s m args below meth c H locs cells slots Q (F0 m (pc + 3) ls (.ref (q 23) :: rest))) : W p l e R s m args below meth c H locs cells slots Q (F0 m pc ls (.ref (q 5) :: rest)) := zr_get (k := 4) C w wX_c5 rfl inz4 (by decide) hl rfl rfl hdg kk
theorem xg_5_5 (C : CallFix p m c cc nL s args (c0 :: zw_all) own) (w : zg_W D cs A s (wX q cs u) H locs) (hl : Cond.fieldLink own index RX4 "dayOf" "[I" ∈ zw_all) (hdg : decode cc pc = .ok (.getfield index, 3)) (kk : W p l e R s m args below meth c H locs cells slots Q (F0 m (pc + 3) ls (.ref (q 24) :: rest))) : W p l e R s m args below meth c H locs cells slots Q (F0 m pc ls (.ref (q 5) :: rest)) := zr_get (k := 5) C w wX_c5 rfl inz4 (by decide) hl rfl rfl hdg kk
theorem xg_5_6 (C : CallFix p m c cc nL s args (c0 :: zw_all) own) (w : zg_W D cs A s (wX q cs u) H locs) (hl : Cond.fieldLink own index RX4 "buyerOf" "[I" ∈ zw_all) (hdg : decode cc pc = .ok (.getfield index, 3)) (kk : W p l e R s m args below meth c H locs cells slots Q (F0 m (pc + 3) ls (.ref (q 25) :: rest))) : W p l e R s m args below meth c H locs cells slots Q (F0 m pc ls (.ref (q 5) :: rest)) := zr_get (k := 6) C w wX_c5 rfl inz4 (by decide) hl rfl rfl hdg kk
theorem xg_5_7 (C : CallFix p m c cc nL s args (c0 :: zw_all) own) (w : zg_W D cs A s (wX q cs u) H locs) (hl : Cond.fieldLink own index RX4 "order" "[I" ∈ zw_all) (hdg : decode cc pc = .ok (.getfield index, 3)) (kk : W p l e R s m args below meth c H locs cells slots Q (F0 m (pc + 3) ls (.ref (q 26) :: rest))) : W p l e R s m args below meth c H locs cells slots Q (F0 m pc ls (.ref (q 5) :: rest)) := zr_get (k := 7) C w wX_c5 rfl inz4 (by decide) hl rfl rfl hdg kk
theorem xg_5_8 (C : CallFix p m c cc nL s args (c0 :: zw_all) own) (w : zg_W D cs A s (wX q cs u) H locs) (hl : Cond.fieldLink own index RX4 "entries" "I" ∈ zw_all) (hdg : decode cc pc = .ok (.getfield index, 3)) (kk : W p l e R s m args below meth c H locs cells slots Q (F0 m (pc + 3) ls (.int (zs_i u 13) :: rest))) : W p l e R s m args below meth c H locs cells slots Q (F0 m pc ls (.ref (q 5) :: rest)) := zr_get (k := 8) C w wX_c5 rfl inz4 (by decide) hl rfl rfl hdg kk
theorem xp_5_8 (C : CallFix p m c cc nL s args (c0 :: zw_all) own) (w : zg_W D cs A s (wX q cs u) H locs) {v : Int32} (hl : Cond.fieldLink own index RX4 "entries" "I" ∈ zw_all) (hdg : decode cc pc = .ok (.putfield index, 3)) (kk : ∀ (H1 : Heap) (locs1 : List Loc), zg_W D cs A s (wX q cs (zs_si u 13 v)) H1 locs1 → W p l e R s m args below meth c H1 locs1 cells slots Q (F0 m (pc + 3) ls rest)) : W p l e R s m args below meth c H locs cells slots Q (F0 m pc ls (.int v :: .ref (q 5) :: rest)) := zr_put (k := 8) (ty := .int) C w wX_c5 rfl inz4 tyX4 tyX4_ok nmX4 (by decide) hl rfl rfl (by decide +kernel) rfl rfl (Nat.le_of_ble_eq_true rfl) rfl hdg kk
theorem rcX_6 : zc_rc (wX q cs) u (q 6) RX7 := ⟨6, 7, _, _, wX_c6, rfl, rfl⟩
theorem xg_6_0 (C : CallFix p m c cc nL s args (c0 :: zw_all) own) (w : zg_W D cs A s (wX q cs u) H locs) (hl : Cond.fieldLink own index RX7 "owner" "I" ∈ zw_all) (hdg : decode cc pc = .ok (.getfield index, 3)) (kk : W p l e R s m args below meth c H locs cells slots Q (F0 m (pc + 3) ls (.int (zs_i u 14) :: rest))) : W p l e R s m args below meth c H locs cells slots Q (F0 m pc ls (.ref (q 6) :: rest)) := zr_get (k := 0) C w wX_c6 rfl inz7 (by decide) hl rfl rfl hdg kk
theorem xp_6_0 (C : CallFix p m c cc nL s args (c0 :: zw_all) own) (w : zg_W D cs A s (wX q cs u) H locs) {v : Int32} (hl : Cond.fieldLink own index RX7 "owner" "I" ∈ zw_all) (hdg : decode cc pc = .ok (.putfield index, 3)) (kk : ∀ (H1 : Heap) (locs1 : List Loc), zg_W D cs A s (wX q cs (zs_si u 14 v)) H1 locs1 → W p l e R s m args below meth c H1 locs1 cells slots Q (F0 m (pc + 3) ls rest)) : W p l e R s m args below meth c H locs cells slots Q (F0 m pc ls (.int v :: .ref (q 6) :: rest)) := zr_put (k := 0) (ty := .int) C w wX_c6 rfl inz7 tyX7 tyX7_ok nmX7 (by decide) hl rfl rfl (by decide +kernel) rfl rfl (Nat.le_of_ble_eq_true rfl) rfl hdg kk
theorem xg_6_1 (C : CallFix p m c cc nL s args (c0 :: zw_all) own) (w : zg_W D cs A s (wX q cs u) H locs) (hl : Cond.fieldLink own index RX7 "up" "Z" ∈ zw_all) (hdg : decode cc pc = .ok (.getfield index, 3)) (kk : W p l e R s m args below meth c H locs cells slots Q (F0 m (pc + 3) ls (.int (zs_i u 15) :: rest))) : W p l e R s m args below meth c H locs cells slots Q (F0 m pc ls (.ref (q 6) :: rest)) := zr_get (k := 1) C w wX_c6 rfl inz7 (by decide) hl rfl rfl hdg kk
theorem xp_6_1 (C : CallFix p m c cc nL s args (c0 :: zw_all) own) (w : zg_W D cs A s (wX q cs u) H locs) {v : Int32} (hz : zf_z v = true) (hl : Cond.fieldLink own index RX7 "up" "Z" ∈ zw_all) (hdg : decode cc pc = .ok (.putfield index, 3)) (kk : ∀ (H1 : Heap) (locs1 : List Loc), zg_W D cs A s (wX q cs (zs_si u 15 v)) H1 locs1 → W p l e R s m args below meth c H1 locs1 cells slots Q (F0 m (pc + 3) ls rest)) : W p l e R s m args below meth c H locs cells slots Q (F0 m pc ls (.int v :: .ref (q 6) :: rest)) := zr_put (k := 1) (ty := .boolean) C w wX_c6 rfl inz7 tyX7 tyX7_ok nmX7 (by decide) hl rfl rfl (by decide +kernel) (zf_z_nar hz) (zf_z_fit hz) (Nat.le_of_ble_eq_true rfl) rfl hdg kk
theorem xg_6_2 (C : CallFix p m c cc nL s args (c0 :: zw_all) own) (w : zg_W D cs A s (wX q cs u) H locs) (hl : Cond.fieldLink own index RX7 "dead" "Z" ∈ zw_all) (hdg : decode cc pc = .ok (.getfield index, 3)) (kk : W p l e R s m args below meth c H locs cells slots Q (F0 m (pc + 3) ls (.int (zs_i u 16) :: rest))) : W p l e R s m args below meth c H locs cells slots Q (F0 m pc ls (.ref (q 6) :: rest)) := zr_get (k := 2) C w wX_c6 rfl inz7 (by decide) hl rfl rfl hdg kk
theorem xp_6_2 (C : CallFix p m c cc nL s args (c0 :: zw_all) own) (w : zg_W D cs A s (wX q cs u) H locs) {v : Int32} (hz : zf_z v = true) (hl : Cond.fieldLink own index RX7 "dead" "Z" ∈ zw_all) (hdg : decode cc pc = .ok (.putfield index, 3)) (kk : ∀ (H1 : Heap) (locs1 : List Loc), zg_W D cs A s (wX q cs (zs_si u 16 v)) H1 locs1 → W p l e R s m args below meth c H1 locs1 cells slots Q (F0 m (pc + 3) ls rest)) : W p l e R s m args below meth c H locs cells slots Q (F0 m pc ls (.int v :: .ref (q 6) :: rest)) := zr_put (k := 2) (ty := .boolean) C w wX_c6 rfl inz7 tyX7 tyX7_ok nmX7 (by decide) hl rfl rfl (by decide +kernel) (zf_z_nar hz) (zf_z_fit hz) (Nat.le_of_ble_eq_true rfl) rfl hdg kk
theorem xg_6_3 (C : CallFix p m c cc nL s args (c0 :: zw_all) own) (w : zg_W D cs A s (wX q cs u) H locs) (hl : Cond.fieldLink own index RX7 "daysUp" "I" ∈ zw_all) (hdg : decode cc pc = .ok (.getfield index, 3)) (kk : W p l e R s m args below meth c H locs cells slots Q (F0 m (pc + 3) ls (.int (zs_i u 17) :: rest))) : W p l e R s m args below meth c H locs cells slots Q (F0 m pc ls (.ref (q 6) :: rest)) := zr_get (k := 3) C w wX_c6 rfl inz7 (by decide) hl rfl rfl hdg kk
theorem xp_6_3 (C : CallFix p m c cc nL s args (c0 :: zw_all) own) (w : zg_W D cs A s (wX q cs u) H locs) {v : Int32} (hl : Cond.fieldLink own index RX7 "daysUp" "I" ∈ zw_all) (hdg : decode cc pc = .ok (.putfield index, 3)) (kk : ∀ (H1 : Heap) (locs1 : List Loc), zg_W D cs A s (wX q cs (zs_si u 17 v)) H1 locs1 → W p l e R s m args below meth c H1 locs1 cells slots Q (F0 m (pc + 3) ls rest)) : W p l e R s m args below meth c H locs cells slots Q (F0 m pc ls (.int v :: .ref (q 6) :: rest)) := zr_put (k := 3) (ty := .int) C w wX_c6 rfl inz7 tyX7 tyX7_ok nmX7 (by decide) hl rfl rfl (by decide +kernel) rfl rfl (Nat.le_of_ble_eq_true rfl) rfl hdg kk
theorem xg_6_4 (C : CallFix p m c cc nL s args (c0 :: zw_all) own) (w : zg_W D cs A s (wX q cs u) H locs) (hl : Cond.fieldLink own index RX7 "daysHad" "[I" ∈ zw_all) (hdg : decode cc pc = .ok (.getfield index, 3)) (kk : W p l e R s m args below meth c H locs cells slots Q (F0 m (pc + 3) ls (.ref (q 27) :: rest))) : W p l e R s m args below meth c H locs cells slots Q (F0 m pc ls (.ref (q 6) :: rest)) := zr_get (k := 4) C w wX_c6 rfl inz7 (by decide) hl rfl rfl hdg kk
theorem xg_6_5 (C : CallFix p m c cc nL s args (c0 :: zw_all) own) (w : zg_W D cs A s (wX q cs u) H locs) (hl : Cond.fieldLink own index RX7 "firstUntold" "I" ∈ zw_all) (hdg : decode cc pc = .ok (.getfield index, 3)) (kk : W p l e R s m args below meth c H locs cells slots Q (F0 m (pc + 3) ls (.int (zs_i u 18) :: rest))) : W p l e R s m args below meth c H locs cells slots Q (F0 m pc ls (.ref (q 6) :: rest)) := zr_get (k := 5) C w wX_c6 rfl inz7 (by decide) hl rfl rfl hdg kk
theorem xp_6_5 (C : CallFix p m c cc nL s args (c0 :: zw_all) own) (w : zg_W D cs A s (wX q cs u) H locs) {v : Int32} (hl : Cond.fieldLink own index RX7 "firstUntold" "I" ∈ zw_all) (hdg : decode cc pc = .ok (.putfield index, 3)) (kk : ∀ (H1 : Heap) (locs1 : List Loc), zg_W D cs A s (wX q cs (zs_si u 18 v)) H1 locs1 → W p l e R s m args below meth c H1 locs1 cells slots Q (F0 m (pc + 3) ls rest)) : W p l e R s m args below meth c H locs cells slots Q (F0 m pc ls (.int v :: .ref (q 6) :: rest)) := zr_put (k := 5) (ty := .int) C w wX_c6 rfl inz7 tyX7 tyX7_ok nmX7 (by decide) hl rfl rfl (by decide +kernel) rfl rfl (Nat.le_of_ble_eq_true rfl) rfl hdg kk
theorem rcX_7 : zc_rc (wX q cs) u (q 7) RX0 := ⟨7, 0, _, _, wX_c7, rfl, rfl⟩
theorem xg_7_0 (C : CallFix p m c cc nL s args (c0 :: zw_all) own) (w : zg_W D cs A s (wX q cs u) H locs) (hl : Cond.fieldLink own index RX0 "milkOf" "[I" ∈ zw_all) (hdg : decode cc pc = .ok (.getfield index, 3)) (kk : W p l e R s m args below meth c H locs cells slots Q (F0 m (pc + 3) ls (.ref (q 28) :: rest))) : W p l e R s m args below meth c H locs cells slots Q (F0 m pc ls (.ref (q 7) :: rest)) := zr_get (k := 0) C w wX_c7 rfl inz0 (by decide) hl rfl rfl hdg kk
theorem xg_7_1 (C : CallFix p m c cc nL s args (c0 :: zw_all) own) (w : zg_W D cs A s (wX q cs u) H locs) (hl : Cond.fieldLink own index RX0 "partOf" "[I" ∈ zw_all) (hdg : decode cc pc = .ok (.getfield index, 3)) (kk : W p l e R s m args below meth c H locs cells slots Q (F0 m (pc + 3) ls (.ref (q 29) :: rest))) : W p l e R s m args below meth c H locs cells slots Q (F0 m pc ls (.ref (q 7) :: rest)) := zr_get (k := 1) C w wX_c7 rfl inz0 (by decide) hl rfl rfl hdg kk
theorem xg_7_2 (C : CallFix p m c cc nL s args (c0 :: zw_all) own) (w : zg_W D cs A s (wX q cs u) H locs) (hl : Cond.fieldLink own index RX0 "milkingDay" "I" ∈ zw_all) (hdg : decode cc pc = .ok (.getfield index, 3)) (kk : W p l e R s m args below meth c H locs cells slots Q (F0 m (pc + 3) ls (.int (zs_i u 19) :: rest))) : W p l e R s m args below meth c H locs cells slots Q (F0 m pc ls (.ref (q 7) :: rest)) := zr_get (k := 2) C w wX_c7 rfl inz0 (by decide) hl rfl rfl hdg kk
theorem xp_7_2 (C : CallFix p m c cc nL s args (c0 :: zw_all) own) (w : zg_W D cs A s (wX q cs u) H locs) {v : Int32} (hl : Cond.fieldLink own index RX0 "milkingDay" "I" ∈ zw_all) (hdg : decode cc pc = .ok (.putfield index, 3)) (kk : ∀ (H1 : Heap) (locs1 : List Loc), zg_W D cs A s (wX q cs (zs_si u 19 v)) H1 locs1 → W p l e R s m args below meth c H1 locs1 cells slots Q (F0 m (pc + 3) ls rest)) : W p l e R s m args below meth c H locs cells slots Q (F0 m pc ls (.int v :: .ref (q 7) :: rest)) := zr_put (k := 2) (ty := .int) C w wX_c7 rfl inz0 tyX0 tyX0_ok nmX0 (by decide) hl rfl rfl (by decide +kernel) rfl rfl (Nat.le_of_ble_eq_true rfl) rfl hdg kk
theorem rcX_8 : zc_rc (wX q cs) u (q 8) RX1 := ⟨8, 1, _, _, wX_c8, rfl, rfl⟩
theorem xg_8_0 (C : CallFix p m c cc nL s args (c0 :: zw_all) own) (w : zg_W D cs A s (wX q cs u) H locs) (hl : Cond.fieldLink own index RX1 "cheesesOf" "[J" ∈ zw_all) (hdg : decode cc pc = .ok (.getfield index, 3)) (kk : W p l e R s m args below meth c H locs cells slots Q (F0 m (pc + 3) ls (.ref (q 30) :: rest))) : W p l e R s m args below meth c H locs cells slots Q (F0 m pc ls (.ref (q 8) :: rest)) := zr_get (k := 0) C w wX_c8 rfl inz1 (by decide) hl rfl rfl hdg kk
theorem xg_8_1 (C : CallFix p m c cc nL s args (c0 :: zw_all) own) (w : zg_W D cs A s (wX q cs u) H locs) (hl : Cond.fieldLink own index RX1 "latestOf" "[I" ∈ zw_all) (hdg : decode cc pc = .ok (.getfield index, 3)) (kk : W p l e R s m args below meth c H locs cells slots Q (F0 m (pc + 3) ls (.ref (q 31) :: rest))) : W p l e R s m args below meth c H locs cells slots Q (F0 m pc ls (.ref (q 8) :: rest)) := zr_get (k := 1) C w wX_c8 rfl inz1 (by decide) hl rfl rfl hdg kk
theorem xg_8_2 (C : CallFix p m c cc nL s args (c0 :: zw_all) own) (w : zg_W D cs A s (wX q cs u) H locs) (hl : Cond.fieldLink own index RX1 "balanceOf" "[J" ∈ zw_all) (hdg : decode cc pc = .ok (.getfield index, 3)) (kk : W p l e R s m args below meth c H locs cells slots Q (F0 m (pc + 3) ls (.ref (q 32) :: rest))) : W p l e R s m args below meth c H locs cells slots Q (F0 m pc ls (.ref (q 8) :: rest)) := zr_get (k := 2) C w wX_c8 rfl inz1 (by decide) hl rfl rfl hdg kk
theorem xg_8_3 (C : CallFix p m c cc nL s args (c0 :: zw_all) own) (w : zg_W D cs A s (wX q cs u) H locs) (hl : Cond.fieldLink own index RX1 "moneyOf" "[J" ∈ zw_all) (hdg : decode cc pc = .ok (.getfield index, 3)) (kk : W p l e R s m args below meth c H locs cells slots Q (F0 m (pc + 3) ls (.ref (q 33) :: rest))) : W p l e R s m args below meth c H locs cells slots Q (F0 m pc ls (.ref (q 8) :: rest)) := zr_get (k := 3) C w wX_c8 rfl inz1 (by decide) hl rfl rfl hdg kk
theorem xg_8_4 (C : CallFix p m c cc nL s args (c0 :: zw_all) own) (w : zg_W D cs A s (wX q cs u) H locs) (hl : Cond.fieldLink own index RX1 "ownPaid" "J" ∈ zw_all) (hdg : decode cc pc = .ok (.getfield index, 3)) (kk : W p l e R s m args below meth c H locs cells slots Q (F0 m (pc + 3) ls (.long (zs_l u 1) :: rest))) : W p l e R s m args below meth c H locs cells slots Q (F0 m pc ls (.ref (q 8) :: rest)) := zr_get (k := 4) C w wX_c8 rfl inz1 (by decide) hl rfl rfl hdg kk
theorem xp_8_4 (C : CallFix p m c cc nL s args (c0 :: zw_all) own) (w : zg_W D cs A s (wX q cs u) H locs) {v : Int64} (hl : Cond.fieldLink own index RX1 "ownPaid" "J" ∈ zw_all) (hdg : decode cc pc = .ok (.putfield index, 3)) (kk : ∀ (H1 : Heap) (locs1 : List Loc), zg_W D cs A s (wX q cs (zs_sl u 1 v)) H1 locs1 → W p l e R s m args below meth c H1 locs1 cells slots Q (F0 m (pc + 3) ls rest)) : W p l e R s m args below meth c H locs cells slots Q (F0 m pc ls (.long v :: .ref (q 8) :: rest)) := zr_put (k := 4) (ty := .long) C w wX_c8 rfl inz1 tyX1 tyX1_ok nmX1 (by decide) hl rfl rfl (by decide +kernel) rfl rfl (Nat.le_of_ble_eq_true rfl) rfl hdg kk
theorem xg_8_5 (C : CallFix p m c cc nL s args (c0 :: zw_all) own) (w : zg_W D cs A s (wX q cs u) H locs) (hl : Cond.fieldLink own index RX1 "turn" "[I" ∈ zw_all) (hdg : decode cc pc = .ok (.getfield index, 3)) (kk : W p l e R s m args below meth c H locs cells slots Q (F0 m (pc + 3) ls (.ref (q 34) :: rest))) : W p l e R s m args below meth c H locs cells slots Q (F0 m pc ls (.ref (q 8) :: rest)) := zr_get (k := 5) C w wX_c8 rfl inz1 (by decide) hl rfl rfl hdg kk
theorem xg_8_6 (C : CallFix p m c cc nL s args (c0 :: zw_all) own) (w : zg_W D cs A s (wX q cs u) H locs) (hl : Cond.fieldLink own index RX1 "paidOut" "J" ∈ zw_all) (hdg : decode cc pc = .ok (.getfield index, 3)) (kk : W p l e R s m args below meth c H locs cells slots Q (F0 m (pc + 3) ls (.long (zs_l u 2) :: rest))) : W p l e R s m args below meth c H locs cells slots Q (F0 m pc ls (.ref (q 8) :: rest)) := zr_get (k := 6) C w wX_c8 rfl inz1 (by decide) hl rfl rfl hdg kk
theorem xp_8_6 (C : CallFix p m c cc nL s args (c0 :: zw_all) own) (w : zg_W D cs A s (wX q cs u) H locs) {v : Int64} (hl : Cond.fieldLink own index RX1 "paidOut" "J" ∈ zw_all) (hdg : decode cc pc = .ok (.putfield index, 3)) (kk : ∀ (H1 : Heap) (locs1 : List Loc), zg_W D cs A s (wX q cs (zs_sl u 2 v)) H1 locs1 → W p l e R s m args below meth c H1 locs1 cells slots Q (F0 m (pc + 3) ls rest)) : W p l e R s m args below meth c H locs cells slots Q (F0 m pc ls (.long v :: .ref (q 8) :: rest)) := zr_put (k := 6) (ty := .long) C w wX_c8 rfl inz1 tyX1 tyX1_ok nmX1 (by decide) hl rfl rfl (by decide +kernel) rfl rfl (Nat.le_of_ble_eq_true rfl) rfl hdg kk
theorem xa_9 (C : CallFix p m c cc nL s args (c0 :: zw_all) own) (w : zg_W D cs A s (wX q cs u) H locs) {i : Int32} (hi : zf_in i 40 = true) (hdg : decode cc pc = .ok (.iaload, 1)) (kk : W p l e R s m args below meth c H locs cells slots Q (F0 m (pc + 1) ls (.int (zs_a u 0 i.toNatClampNeg) :: rest))) : W p l e R s m args below meth c H locs cells slots Q (F0 m pc ls (.int i :: .ref (q 9) :: rest)) := zr_iald C w wX_c9 hi hdg kk
theorem wX_s9 {q : Nat → Nat} {cs : Nat → ClassId} {u : zs_T} {f : Nat → Int32} : (wX q cs u).set 9 (q 9, .inl (cs 0, 40, .inl f)) = wX q cs (zs_sa u 0 f) := rfl
theorem xs_9 (C : CallFix p m c cc nL s args (c0 :: zw_all) own) (w : zg_W D cs A s (wX q cs u) H locs) {i : Int32} {x : Int32} (hi : zf_in i 40 = true) (hdg : decode cc pc = .ok (.iastore, 1)) (kk : ∀ (H1 : Heap) (locs1 : List Loc), zg_W D cs A s (wX q cs (zs_sa u 0 (upd (zs_a u 0) i.toNatClampNeg x))) H1 locs1 → W p l e R s m args below meth c H1 locs1 cells slots Q (F0 m (pc + 1) ls rest)) : W p l e R s m args below meth c H locs cells slots Q (F0 m pc ls (.int x :: .int i :: .ref (q 9) :: rest)) := zr_iast C w wX_c9 hi wX_s9 hdg kk
theorem xa_10 (C : CallFix p m c cc nL s args (c0 :: zw_all) own) (w : zg_W D cs A s (wX q cs u) H locs) {i : Int32} (hi : zf_in i 4 = true) (hdg : decode cc pc = .ok (.iaload, 1)) (kk : W p l e R s m args below meth c H locs cells slots Q (F0 m (pc + 1) ls (.int (zs_a u 1 i.toNatClampNeg) :: rest))) : W p l e R s m args below meth c H locs cells slots Q (F0 m pc ls (.int i :: .ref (q 10) :: rest)) := zr_iald C w wX_c10 hi hdg kk
theorem wX_s10 {q : Nat → Nat} {cs : Nat → ClassId} {u : zs_T} {f : Nat → Int32} : (wX q cs u).set 10 (q 10, .inl (cs 0, 4, .inl f)) = wX q cs (zs_sa u 1 f) := rfl
theorem xs_10 (C : CallFix p m c cc nL s args (c0 :: zw_all) own) (w : zg_W D cs A s (wX q cs u) H locs) {i : Int32} {x : Int32} (hi : zf_in i 4 = true) (hdg : decode cc pc = .ok (.iastore, 1)) (kk : ∀ (H1 : Heap) (locs1 : List Loc), zg_W D cs A s (wX q cs (zs_sa u 1 (upd (zs_a u 1) i.toNatClampNeg x))) H1 locs1 → W p l e R s m args below meth c H1 locs1 cells slots Q (F0 m (pc + 1) ls rest)) : W p l e R s m args below meth c H locs cells slots Q (F0 m pc ls (.int x :: .int i :: .ref (q 10) :: rest)) := zr_iast C w wX_c10 hi wX_s10 hdg kk
theorem xa_11 (C : CallFix p m c cc nL s args (c0 :: zw_all) own) (w : zg_W D cs A s (wX q cs u) H locs) {i : Int32} (hi : zf_in i 4 = true) (hdg : decode cc pc = .ok (.iaload, 1)) (kk : W p l e R s m args below meth c H locs cells slots Q (F0 m (pc + 1) ls (.int (zs_a u 2 i.toNatClampNeg) :: rest))) : W p l e R s m args below meth c H locs cells slots Q (F0 m pc ls (.int i :: .ref (q 11) :: rest)) := zr_iald C w wX_c11 hi hdg kk
theorem wX_s11 {q : Nat → Nat} {cs : Nat → ClassId} {u : zs_T} {f : Nat → Int32} : (wX q cs u).set 11 (q 11, .inl (cs 0, 4, .inl f)) = wX q cs (zs_sa u 2 f) := rfl
theorem xs_11 (C : CallFix p m c cc nL s args (c0 :: zw_all) own) (w : zg_W D cs A s (wX q cs u) H locs) {i : Int32} {x : Int32} (hi : zf_in i 4 = true) (hdg : decode cc pc = .ok (.iastore, 1)) (kk : ∀ (H1 : Heap) (locs1 : List Loc), zg_W D cs A s (wX q cs (zs_sa u 2 (upd (zs_a u 2) i.toNatClampNeg x))) H1 locs1 → W p l e R s m args below meth c H1 locs1 cells slots Q (F0 m (pc + 1) ls rest)) : W p l e R s m args below meth c H locs cells slots Q (F0 m pc ls (.int x :: .int i :: .ref (q 11) :: rest)) := zr_iast C w wX_c11 hi wX_s11 hdg kk
theorem xa_12 (C : CallFix p m c cc nL s args (c0 :: zw_all) own) (w : zg_W D cs A s (wX q cs u) H locs) {i : Int32} (hi : zf_in i 6 = true) (hdg : decode cc pc = .ok (.iaload, 1)) (kk : W p l e R s m args below meth c H locs cells slots Q (F0 m (pc + 1) ls (.int (zs_a u 3 i.toNatClampNeg) :: rest))) : W p l e R s m args below meth c H locs cells slots Q (F0 m pc ls (.int i :: .ref (q 12) :: rest)) := zr_iald C w wX_c12 hi hdg kk
theorem wX_s12 {q : Nat → Nat} {cs : Nat → ClassId} {u : zs_T} {f : Nat → Int32} : (wX q cs u).set 12 (q 12, .inl (cs 0, 6, .inl f)) = wX q cs (zs_sa u 3 f) := rfl
theorem xs_12 (C : CallFix p m c cc nL s args (c0 :: zw_all) own) (w : zg_W D cs A s (wX q cs u) H locs) {i : Int32} {x : Int32} (hi : zf_in i 6 = true) (hdg : decode cc pc = .ok (.iastore, 1)) (kk : ∀ (H1 : Heap) (locs1 : List Loc), zg_W D cs A s (wX q cs (zs_sa u 3 (upd (zs_a u 3) i.toNatClampNeg x))) H1 locs1 → W p l e R s m args below meth c H1 locs1 cells slots Q (F0 m (pc + 1) ls rest)) : W p l e R s m args below meth c H locs cells slots Q (F0 m pc ls (.int x :: .int i :: .ref (q 12) :: rest)) := zr_iast C w wX_c12 hi wX_s12 hdg kk
theorem xa_13 (C : CallFix p m c cc nL s args (c0 :: zw_all) own) (w : zg_W D cs A s (wX q cs u) H locs) {i : Int32} (hi : zf_in i 6 = true) (hdg : decode cc pc = .ok (.iaload, 1)) (kk : W p l e R s m args below meth c H locs cells slots Q (F0 m (pc + 1) ls (.int (zs_a u 4 i.toNatClampNeg) :: rest))) : W p l e R s m args below meth c H locs cells slots Q (F0 m pc ls (.int i :: .ref (q 13) :: rest)) := zr_iald C w wX_c13 hi hdg kk
theorem wX_s13 {q : Nat → Nat} {cs : Nat → ClassId} {u : zs_T} {f : Nat → Int32} : (wX q cs u).set 13 (q 13, .inl (cs 0, 6, .inl f)) = wX q cs (zs_sa u 4 f) := rfl
theorem xs_13 (C : CallFix p m c cc nL s args (c0 :: zw_all) own) (w : zg_W D cs A s (wX q cs u) H locs) {i : Int32} {x : Int32} (hi : zf_in i 6 = true) (hdg : decode cc pc = .ok (.iastore, 1)) (kk : ∀ (H1 : Heap) (locs1 : List Loc), zg_W D cs A s (wX q cs (zs_sa u 4 (upd (zs_a u 4) i.toNatClampNeg x))) H1 locs1 → W p l e R s m args below meth c H1 locs1 cells slots Q (F0 m (pc + 1) ls rest)) : W p l e R s m args below meth c H locs cells slots Q (F0 m pc ls (.int x :: .int i :: .ref (q 13) :: rest)) := zr_iast C w wX_c13 hi wX_s13 hdg kk
theorem xa_14 (C : CallFix p m c cc nL s args (c0 :: zw_all) own) (w : zg_W D cs A s (wX q cs u) H locs) {i : Int32} (hi : zf_in i 6 = true) (hdg : decode cc pc = .ok (.iaload, 1)) (kk : W p l e R s m args below meth c H locs cells slots Q (F0 m (pc + 1) ls (.int (zs_a u 5 i.toNatClampNeg) :: rest))) : W p l e R s m args below meth c H locs cells slots Q (F0 m pc ls (.int i :: .ref (q 14) :: rest)) := zr_iald C w wX_c14 hi hdg kk
theorem wX_s14 {q : Nat → Nat} {cs : Nat → ClassId} {u : zs_T} {f : Nat → Int32} : (wX q cs u).set 14 (q 14, .inl (cs 0, 6, .inl f)) = wX q cs (zs_sa u 5 f) := rfl
theorem xs_14 (C : CallFix p m c cc nL s args (c0 :: zw_all) own) (w : zg_W D cs A s (wX q cs u) H locs) {i : Int32} {x : Int32} (hi : zf_in i 6 = true) (hdg : decode cc pc = .ok (.iastore, 1)) (kk : ∀ (H1 : Heap) (locs1 : List Loc), zg_W D cs A s (wX q cs (zs_sa u 5 (upd (zs_a u 5) i.toNatClampNeg x))) H1 locs1 → W p l e R s m args below meth c H1 locs1 cells slots Q (F0 m (pc + 1) ls rest)) : W p l e R s m args below meth c H locs cells slots Q (F0 m pc ls (.int x :: .int i :: .ref (q 14) :: rest)) := zr_iast C w wX_c14 hi wX_s14 hdg kk
theorem xa_15 (C : CallFix p m c cc nL s args (c0 :: zw_all) own) (w : zg_W D cs A s (wX q cs u) H locs) {i : Int32} (hi : zf_in i 8 = true) (hdg : decode cc pc = .ok (.iaload, 1)) (kk : W p l e R s m args below meth c H locs cells slots Q (F0 m (pc + 1) ls (.int (zs_a u 6 i.toNatClampNeg) :: rest))) : W p l e R s m args below meth c H locs cells slots Q (F0 m pc ls (.int i :: .ref (q 15) :: rest)) := zr_iald C w wX_c15 hi hdg kk
theorem wX_s15 {q : Nat → Nat} {cs : Nat → ClassId} {u : zs_T} {f : Nat → Int32} : (wX q cs u).set 15 (q 15, .inl (cs 0, 8, .inl f)) = wX q cs (zs_sa u 6 f) := rfl
theorem xs_15 (C : CallFix p m c cc nL s args (c0 :: zw_all) own) (w : zg_W D cs A s (wX q cs u) H locs) {i : Int32} {x : Int32} (hi : zf_in i 8 = true) (hdg : decode cc pc = .ok (.iastore, 1)) (kk : ∀ (H1 : Heap) (locs1 : List Loc), zg_W D cs A s (wX q cs (zs_sa u 6 (upd (zs_a u 6) i.toNatClampNeg x))) H1 locs1 → W p l e R s m args below meth c H1 locs1 cells slots Q (F0 m (pc + 1) ls rest)) : W p l e R s m args below meth c H locs cells slots Q (F0 m pc ls (.int x :: .int i :: .ref (q 15) :: rest)) := zr_iast C w wX_c15 hi wX_s15 hdg kk
theorem xa_16 (C : CallFix p m c cc nL s args (c0 :: zw_all) own) (w : zg_W D cs A s (wX q cs u) H locs) {i : Int32} (hi : zf_in i 8 = true) (hdg : decode cc pc = .ok (.iaload, 1)) (kk : W p l e R s m args below meth c H locs cells slots Q (F0 m (pc + 1) ls (.int (zs_a u 7 i.toNatClampNeg) :: rest))) : W p l e R s m args below meth c H locs cells slots Q (F0 m pc ls (.int i :: .ref (q 16) :: rest)) := zr_iald C w wX_c16 hi hdg kk
theorem wX_s16 {q : Nat → Nat} {cs : Nat → ClassId} {u : zs_T} {f : Nat → Int32} : (wX q cs u).set 16 (q 16, .inl (cs 0, 8, .inl f)) = wX q cs (zs_sa u 7 f) := rfl
theorem xs_16 (C : CallFix p m c cc nL s args (c0 :: zw_all) own) (w : zg_W D cs A s (wX q cs u) H locs) {i : Int32} {x : Int32} (hi : zf_in i 8 = true) (hdg : decode cc pc = .ok (.iastore, 1)) (kk : ∀ (H1 : Heap) (locs1 : List Loc), zg_W D cs A s (wX q cs (zs_sa u 7 (upd (zs_a u 7) i.toNatClampNeg x))) H1 locs1 → W p l e R s m args below meth c H1 locs1 cells slots Q (F0 m (pc + 1) ls rest)) : W p l e R s m args below meth c H locs cells slots Q (F0 m pc ls (.int x :: .int i :: .ref (q 16) :: rest)) := zr_iast C w wX_c16 hi wX_s16 hdg kk
theorem xa_17 (C : CallFix p m c cc nL s args (c0 :: zw_all) own) (w : zg_W D cs A s (wX q cs u) H locs) {i : Int32} (hi : zf_in i 54 = true) (hdg : decode cc pc = .ok (.iaload, 1)) (kk : W p l e R s m args below meth c H locs cells slots Q (F0 m (pc + 1) ls (.int (zs_a u 8 i.toNatClampNeg) :: rest))) : W p l e R s m args below meth c H locs cells slots Q (F0 m pc ls (.int i :: .ref (q 17) :: rest)) := zr_iald C w wX_c17 hi hdg kk
theorem wX_s17 {q : Nat → Nat} {cs : Nat → ClassId} {u : zs_T} {f : Nat → Int32} : (wX q cs u).set 17 (q 17, .inl (cs 0, 54, .inl f)) = wX q cs (zs_sa u 8 f) := rfl
theorem xs_17 (C : CallFix p m c cc nL s args (c0 :: zw_all) own) (w : zg_W D cs A s (wX q cs u) H locs) {i : Int32} {x : Int32} (hi : zf_in i 54 = true) (hdg : decode cc pc = .ok (.iastore, 1)) (kk : ∀ (H1 : Heap) (locs1 : List Loc), zg_W D cs A s (wX q cs (zs_sa u 8 (upd (zs_a u 8) i.toNatClampNeg x))) H1 locs1 → W p l e R s m args below meth c H1 locs1 cells slots Q (F0 m (pc + 1) ls rest)) : W p l e R s m args below meth c H locs cells slots Q (F0 m pc ls (.int x :: .int i :: .ref (q 17) :: rest)) := zr_iast C w wX_c17 hi wX_s17 hdg kk
theorem xa_18 (C : CallFix p m c cc nL s args (c0 :: zw_all) own) (w : zg_W D cs A s (wX q cs u) H locs) {i : Int32} (hi : zf_in i 6 = true) (hdg : decode cc pc = .ok (.iaload, 1)) (kk : W p l e R s m args below meth c H locs cells slots Q (F0 m (pc + 1) ls (.int (zs_a u 9 i.toNatClampNeg) :: rest))) : W p l e R s m args below meth c H locs cells slots Q (F0 m pc ls (.int i :: .ref (q 18) :: rest)) := zr_iald C w wX_c18 hi hdg kk
theorem wX_s18 {q : Nat → Nat} {cs : Nat → ClassId} {u : zs_T} {f : Nat → Int32} : (wX q cs u).set 18 (q 18, .inl (cs 0, 6, .inl f)) = wX q cs (zs_sa u 9 f) := rfl
theorem xs_18 (C : CallFix p m c cc nL s args (c0 :: zw_all) own) (w : zg_W D cs A s (wX q cs u) H locs) {i : Int32} {x : Int32} (hi : zf_in i 6 = true) (hdg : decode cc pc = .ok (.iastore, 1)) (kk : ∀ (H1 : Heap) (locs1 : List Loc), zg_W D cs A s (wX q cs (zs_sa u 9 (upd (zs_a u 9) i.toNatClampNeg x))) H1 locs1 → W p l e R s m args below meth c H1 locs1 cells slots Q (F0 m (pc + 1) ls rest)) : W p l e R s m args below meth c H locs cells slots Q (F0 m pc ls (.int x :: .int i :: .ref (q 18) :: rest)) := zr_iast C w wX_c18 hi wX_s18 hdg kk
theorem xa_19 (C : CallFix p m c cc nL s args (c0 :: zw_all) own) (w : zg_W D cs A s (wX q cs u) H locs) {i : Int32} (hi : zf_in i 6 = true) (hdg : decode cc pc = .ok (.iaload, 1)) (kk : W p l e R s m args below meth c H locs cells slots Q (F0 m (pc + 1) ls (.int (zs_a u 10 i.toNatClampNeg) :: rest))) : W p l e R s m args below meth c H locs cells slots Q (F0 m pc ls (.int i :: .ref (q 19) :: rest)) := zr_iald C w wX_c19 hi hdg kk
theorem wX_s19 {q : Nat → Nat} {cs : Nat → ClassId} {u : zs_T} {f : Nat → Int32} : (wX q cs u).set 19 (q 19, .inl (cs 0, 6, .inl f)) = wX q cs (zs_sa u 10 f) := rfl
theorem xs_19 (C : CallFix p m c cc nL s args (c0 :: zw_all) own) (w : zg_W D cs A s (wX q cs u) H locs) {i : Int32} {x : Int32} (hi : zf_in i 6 = true) (hdg : decode cc pc = .ok (.iastore, 1)) (kk : ∀ (H1 : Heap) (locs1 : List Loc), zg_W D cs A s (wX q cs (zs_sa u 10 (upd (zs_a u 10) i.toNatClampNeg x))) H1 locs1 → W p l e R s m args below meth c H1 locs1 cells slots Q (F0 m (pc + 1) ls rest)) : W p l e R s m args below meth c H locs cells slots Q (F0 m pc ls (.int x :: .int i :: .ref (q 19) :: rest)) := zr_iast C w wX_c19 hi wX_s19 hdg kk
theorem xa_20 (C : CallFix p m c cc nL s args (c0 :: zw_all) own) (w : zg_W D cs A s (wX q cs u) H locs) {i : Int32} (hi : zf_in i 80 = true) (hdg : decode cc pc = .ok (.iaload, 1)) (kk : W p l e R s m args below meth c H locs cells slots Q (F0 m (pc + 1) ls (.int (zs_a u 11 i.toNatClampNeg) :: rest))) : W p l e R s m args below meth c H locs cells slots Q (F0 m pc ls (.int i :: .ref (q 20) :: rest)) := zr_iald C w wX_c20 hi hdg kk
theorem wX_s20 {q : Nat → Nat} {cs : Nat → ClassId} {u : zs_T} {f : Nat → Int32} : (wX q cs u).set 20 (q 20, .inl (cs 0, 80, .inl f)) = wX q cs (zs_sa u 11 f) := rfl
theorem xs_20 (C : CallFix p m c cc nL s args (c0 :: zw_all) own) (w : zg_W D cs A s (wX q cs u) H locs) {i : Int32} {x : Int32} (hi : zf_in i 80 = true) (hdg : decode cc pc = .ok (.iastore, 1)) (kk : ∀ (H1 : Heap) (locs1 : List Loc), zg_W D cs A s (wX q cs (zs_sa u 11 (upd (zs_a u 11) i.toNatClampNeg x))) H1 locs1 → W p l e R s m args below meth c H1 locs1 cells slots Q (F0 m (pc + 1) ls rest)) : W p l e R s m args below meth c H locs cells slots Q (F0 m pc ls (.int x :: .int i :: .ref (q 20) :: rest)) := zr_iast C w wX_c20 hi wX_s20 hdg kk
theorem xa_21 (C : CallFix p m c cc nL s args (c0 :: zw_all) own) (w : zg_W D cs A s (wX q cs u) H locs) {i : Int32} (hi : zf_in i 80 = true) (hdg : decode cc pc = .ok (.baload, 1)) (kk : W p l e R s m args below meth c H locs cells slots Q (F0 m (pc + 1) ls (.int (zs_a u 12 i.toNatClampNeg) :: rest))) : W p l e R s m args below meth c H locs cells slots Q (F0 m pc ls (.int i :: .ref (q 21) :: rest)) := zr_zald C w wX_c21 hi hdg kk
theorem wX_s21 {q : Nat → Nat} {cs : Nat → ClassId} {u : zs_T} {f : Nat → Int32} : (wX q cs u).set 21 (q 21, .inl (cs 2, 80, .inl f)) = wX q cs (zs_sa u 12 f) := rfl
theorem xs_21 (C : CallFix p m c cc nL s args (c0 :: zw_all) own) (w : zg_W D cs A s (wX q cs u) H locs) {i : Int32} {x : Int32} (hi : zf_in i 80 = true) (hz : zf_z x = true) (hdg : decode cc pc = .ok (.bastore, 1)) (kk : ∀ (H1 : Heap) (locs1 : List Loc), zg_W D cs A s (wX q cs (zs_sa u 12 (upd (zs_a u 12) i.toNatClampNeg x))) H1 locs1 → W p l e R s m args below meth c H1 locs1 cells slots Q (F0 m (pc + 1) ls rest)) : W p l e R s m args below meth c H locs cells slots Q (F0 m pc ls (.int x :: .int i :: .ref (q 21) :: rest)) := zr_zast C w wX_c21 hi hz wX_s21 hdg kk
theorem xa_22 (C : CallFix p m c cc nL s args (c0 :: zw_all) own) (w : zg_W D cs A s (wX q cs u) H locs) {i : Int32} (hi : zf_in i 100 = true) (hdg : decode cc pc = .ok (.iaload, 1)) (kk : W p l e R s m args below meth c H locs cells slots Q (F0 m (pc + 1) ls (.int (zs_a u 13 i.toNatClampNeg) :: rest))) : W p l e R s m args below meth c H locs cells slots Q (F0 m pc ls (.int i :: .ref (q 22) :: rest)) := zr_iald C w wX_c22 hi hdg kk
theorem wX_s22 {q : Nat → Nat} {cs : Nat → ClassId} {u : zs_T} {f : Nat → Int32} : (wX q cs u).set 22 (q 22, .inl (cs 0, 100, .inl f)) = wX q cs (zs_sa u 13 f) := rfl
theorem xs_22 (C : CallFix p m c cc nL s args (c0 :: zw_all) own) (w : zg_W D cs A s (wX q cs u) H locs) {i : Int32} {x : Int32} (hi : zf_in i 100 = true) (hdg : decode cc pc = .ok (.iastore, 1)) (kk : ∀ (H1 : Heap) (locs1 : List Loc), zg_W D cs A s (wX q cs (zs_sa u 13 (upd (zs_a u 13) i.toNatClampNeg x))) H1 locs1 → W p l e R s m args below meth c H1 locs1 cells slots Q (F0 m (pc + 1) ls rest)) : W p l e R s m args below meth c H locs cells slots Q (F0 m pc ls (.int x :: .int i :: .ref (q 22) :: rest)) := zr_iast C w wX_c22 hi wX_s22 hdg kk
theorem xa_23 (C : CallFix p m c cc nL s args (c0 :: zw_all) own) (w : zg_W D cs A s (wX q cs u) H locs) {i : Int32} (hi : zf_in i 100 = true) (hdg : decode cc pc = .ok (.iaload, 1)) (kk : W p l e R s m args below meth c H locs cells slots Q (F0 m (pc + 1) ls (.int (zs_a u 14 i.toNatClampNeg) :: rest))) : W p l e R s m args below meth c H locs cells slots Q (F0 m pc ls (.int i :: .ref (q 23) :: rest)) := zr_iald C w wX_c23 hi hdg kk
theorem wX_s23 {q : Nat → Nat} {cs : Nat → ClassId} {u : zs_T} {f : Nat → Int32} : (wX q cs u).set 23 (q 23, .inl (cs 0, 100, .inl f)) = wX q cs (zs_sa u 14 f) := rfl
theorem xs_23 (C : CallFix p m c cc nL s args (c0 :: zw_all) own) (w : zg_W D cs A s (wX q cs u) H locs) {i : Int32} {x : Int32} (hi : zf_in i 100 = true) (hdg : decode cc pc = .ok (.iastore, 1)) (kk : ∀ (H1 : Heap) (locs1 : List Loc), zg_W D cs A s (wX q cs (zs_sa u 14 (upd (zs_a u 14) i.toNatClampNeg x))) H1 locs1 → W p l e R s m args below meth c H1 locs1 cells slots Q (F0 m (pc + 1) ls rest)) : W p l e R s m args below meth c H locs cells slots Q (F0 m pc ls (.int x :: .int i :: .ref (q 23) :: rest)) := zr_iast C w wX_c23 hi wX_s23 hdg kk
theorem xa_24 (C : CallFix p m c cc nL s args (c0 :: zw_all) own) (w : zg_W D cs A s (wX q cs u) H locs) {i : Int32} (hi : zf_in i 100 = true) (hdg : decode cc pc = .ok (.iaload, 1)) (kk : W p l e R s m args below meth c H locs cells slots Q (F0 m (pc + 1) ls (.int (zs_a u 15 i.toNatClampNeg) :: rest))) : W p l e R s m args below meth c H locs cells slots Q (F0 m pc ls (.int i :: .ref (q 24) :: rest)) := zr_iald C w wX_c24 hi hdg kk
theorem wX_s24 {q : Nat → Nat} {cs : Nat → ClassId} {u : zs_T} {f : Nat → Int32} : (wX q cs u).set 24 (q 24, .inl (cs 0, 100, .inl f)) = wX q cs (zs_sa u 15 f) := rfl
theorem xs_24 (C : CallFix p m c cc nL s args (c0 :: zw_all) own) (w : zg_W D cs A s (wX q cs u) H locs) {i : Int32} {x : Int32} (hi : zf_in i 100 = true) (hdg : decode cc pc = .ok (.iastore, 1)) (kk : ∀ (H1 : Heap) (locs1 : List Loc), zg_W D cs A s (wX q cs (zs_sa u 15 (upd (zs_a u 15) i.toNatClampNeg x))) H1 locs1 → W p l e R s m args below meth c H1 locs1 cells slots Q (F0 m (pc + 1) ls rest)) : W p l e R s m args below meth c H locs cells slots Q (F0 m pc ls (.int x :: .int i :: .ref (q 24) :: rest)) := zr_iast C w wX_c24 hi wX_s24 hdg kk
theorem xa_25 (C : CallFix p m c cc nL s args (c0 :: zw_all) own) (w : zg_W D cs A s (wX q cs u) H locs) {i : Int32} (hi : zf_in i 100 = true) (hdg : decode cc pc = .ok (.iaload, 1)) (kk : W p l e R s m args below meth c H locs cells slots Q (F0 m (pc + 1) ls (.int (zs_a u 16 i.toNatClampNeg) :: rest))) : W p l e R s m args below meth c H locs cells slots Q (F0 m pc ls (.int i :: .ref (q 25) :: rest)) := zr_iald C w wX_c25 hi hdg kk
theorem wX_s25 {q : Nat → Nat} {cs : Nat → ClassId} {u : zs_T} {f : Nat → Int32} : (wX q cs u).set 25 (q 25, .inl (cs 0, 100, .inl f)) = wX q cs (zs_sa u 16 f) := rfl
theorem xs_25 (C : CallFix p m c cc nL s args (c0 :: zw_all) own) (w : zg_W D cs A s (wX q cs u) H locs) {i : Int32} {x : Int32} (hi : zf_in i 100 = true) (hdg : decode cc pc = .ok (.iastore, 1)) (kk : ∀ (H1 : Heap) (locs1 : List Loc), zg_W D cs A s (wX q cs (zs_sa u 16 (upd (zs_a u 16) i.toNatClampNeg x))) H1 locs1 → W p l e R s m args below meth c H1 locs1 cells slots Q (F0 m (pc + 1) ls rest)) : W p l e R s m args below meth c H locs cells slots Q (F0 m pc ls (.int x :: .int i :: .ref (q 25) :: rest)) := zr_iast C w wX_c25 hi wX_s25 hdg kk
theorem xa_26 (C : CallFix p m c cc nL s args (c0 :: zw_all) own) (w : zg_W D cs A s (wX q cs u) H locs) {i : Int32} (hi : zf_in i 100 = true) (hdg : decode cc pc = .ok (.iaload, 1)) (kk : W p l e R s m args below meth c H locs cells slots Q (F0 m (pc + 1) ls (.int (zs_a u 17 i.toNatClampNeg) :: rest))) : W p l e R s m args below meth c H locs cells slots Q (F0 m pc ls (.int i :: .ref (q 26) :: rest)) := zr_iald C w wX_c26 hi hdg kk
theorem wX_s26 {q : Nat → Nat} {cs : Nat → ClassId} {u : zs_T} {f : Nat → Int32} : (wX q cs u).set 26 (q 26, .inl (cs 0, 100, .inl f)) = wX q cs (zs_sa u 17 f) := rfl
theorem xs_26 (C : CallFix p m c cc nL s args (c0 :: zw_all) own) (w : zg_W D cs A s (wX q cs u) H locs) {i : Int32} {x : Int32} (hi : zf_in i 100 = true) (hdg : decode cc pc = .ok (.iastore, 1)) (kk : ∀ (H1 : Heap) (locs1 : List Loc), zg_W D cs A s (wX q cs (zs_sa u 17 (upd (zs_a u 17) i.toNatClampNeg x))) H1 locs1 → W p l e R s m args below meth c H1 locs1 cells slots Q (F0 m (pc + 1) ls rest)) : W p l e R s m args below meth c H locs cells slots Q (F0 m pc ls (.int x :: .int i :: .ref (q 26) :: rest)) := zr_iast C w wX_c26 hi wX_s26 hdg kk
theorem xa_27 (C : CallFix p m c cc nL s args (c0 :: zw_all) own) (w : zg_W D cs A s (wX q cs u) H locs) {i : Int32} (hi : zf_in i 12 = true) (hdg : decode cc pc = .ok (.iaload, 1)) (kk : W p l e R s m args below meth c H locs cells slots Q (F0 m (pc + 1) ls (.int (zs_a u 18 i.toNatClampNeg) :: rest))) : W p l e R s m args below meth c H locs cells slots Q (F0 m pc ls (.int i :: .ref (q 27) :: rest)) := zr_iald C w wX_c27 hi hdg kk
theorem wX_s27 {q : Nat → Nat} {cs : Nat → ClassId} {u : zs_T} {f : Nat → Int32} : (wX q cs u).set 27 (q 27, .inl (cs 0, 12, .inl f)) = wX q cs (zs_sa u 18 f) := rfl
theorem xs_27 (C : CallFix p m c cc nL s args (c0 :: zw_all) own) (w : zg_W D cs A s (wX q cs u) H locs) {i : Int32} {x : Int32} (hi : zf_in i 12 = true) (hdg : decode cc pc = .ok (.iastore, 1)) (kk : ∀ (H1 : Heap) (locs1 : List Loc), zg_W D cs A s (wX q cs (zs_sa u 18 (upd (zs_a u 18) i.toNatClampNeg x))) H1 locs1 → W p l e R s m args below meth c H1 locs1 cells slots Q (F0 m (pc + 1) ls rest)) : W p l e R s m args below meth c H locs cells slots Q (F0 m pc ls (.int x :: .int i :: .ref (q 27) :: rest)) := zr_iast C w wX_c27 hi wX_s27 hdg kk
theorem xa_28 (C : CallFix p m c cc nL s args (c0 :: zw_all) own) (w : zg_W D cs A s (wX q cs u) H locs) {i : Int32} (hi : zf_in i 80 = true) (hdg : decode cc pc = .ok (.iaload, 1)) (kk : W p l e R s m args below meth c H locs cells slots Q (F0 m (pc + 1) ls (.int (zs_a u 19 i.toNatClampNeg) :: rest))) : W p l e R s m args below meth c H locs cells slots Q (F0 m pc ls (.int i :: .ref (q 28) :: rest)) := zr_iald C w wX_c28 hi hdg kk
theorem wX_s28 {q : Nat → Nat} {cs : Nat → ClassId} {u : zs_T} {f : Nat → Int32} : (wX q cs u).set 28 (q 28, .inl (cs 0, 80, .inl f)) = wX q cs (zs_sa u 19 f) := rfl
theorem xs_28 (C : CallFix p m c cc nL s args (c0 :: zw_all) own) (w : zg_W D cs A s (wX q cs u) H locs) {i : Int32} {x : Int32} (hi : zf_in i 80 = true) (hdg : decode cc pc = .ok (.iastore, 1)) (kk : ∀ (H1 : Heap) (locs1 : List Loc), zg_W D cs A s (wX q cs (zs_sa u 19 (upd (zs_a u 19) i.toNatClampNeg x))) H1 locs1 → W p l e R s m args below meth c H1 locs1 cells slots Q (F0 m (pc + 1) ls rest)) : W p l e R s m args below meth c H locs cells slots Q (F0 m pc ls (.int x :: .int i :: .ref (q 28) :: rest)) := zr_iast C w wX_c28 hi wX_s28 hdg kk
theorem xa_29 (C : CallFix p m c cc nL s args (c0 :: zw_all) own) (w : zg_W D cs A s (wX q cs u) H locs) {i : Int32} (hi : zf_in i 12 = true) (hdg : decode cc pc = .ok (.iaload, 1)) (kk : W p l e R s m args below meth c H locs cells slots Q (F0 m (pc + 1) ls (.int (zs_a u 20 i.toNatClampNeg) :: rest))) : W p l e R s m args below meth c H locs cells slots Q (F0 m pc ls (.int i :: .ref (q 29) :: rest)) := zr_iald C w wX_c29 hi hdg kk
theorem wX_s29 {q : Nat → Nat} {cs : Nat → ClassId} {u : zs_T} {f : Nat → Int32} : (wX q cs u).set 29 (q 29, .inl (cs 0, 12, .inl f)) = wX q cs (zs_sa u 20 f) := rfl
theorem xs_29 (C : CallFix p m c cc nL s args (c0 :: zw_all) own) (w : zg_W D cs A s (wX q cs u) H locs) {i : Int32} {x : Int32} (hi : zf_in i 12 = true) (hdg : decode cc pc = .ok (.iastore, 1)) (kk : ∀ (H1 : Heap) (locs1 : List Loc), zg_W D cs A s (wX q cs (zs_sa u 20 (upd (zs_a u 20) i.toNatClampNeg x))) H1 locs1 → W p l e R s m args below meth c H1 locs1 cells slots Q (F0 m (pc + 1) ls rest)) : W p l e R s m args below meth c H locs cells slots Q (F0 m pc ls (.int x :: .int i :: .ref (q 29) :: rest)) := zr_iast C w wX_c29 hi wX_s29 hdg kk
theorem xa_30 (C : CallFix p m c cc nL s args (c0 :: zw_all) own) (w : zg_W D cs A s (wX q cs u) H locs) {i : Int32} (hi : zf_in i 12 = true) (hdg : decode cc pc = .ok (.laload, 1)) (kk : W p l e R s m args below meth c H locs cells slots Q (F0 m (pc + 1) ls (.long (zs_b u 0 i.toNatClampNeg) :: rest))) : W p l e R s m args below meth c H locs cells slots Q (F0 m pc ls (.int i :: .ref (q 30) :: rest)) := zr_lald C w wX_c30 hi hdg kk
theorem wX_s30 {q : Nat → Nat} {cs : Nat → ClassId} {u : zs_T} {f : Nat → Int64} : (wX q cs u).set 30 (q 30, .inl (cs 1, 12, .inr (.inl f))) = wX q cs (zs_sb u 0 f) := rfl
theorem xs_30 (C : CallFix p m c cc nL s args (c0 :: zw_all) own) (w : zg_W D cs A s (wX q cs u) H locs) {i : Int32} {x : Int64} (hi : zf_in i 12 = true) (hdg : decode cc pc = .ok (.lastore, 1)) (kk : ∀ (H1 : Heap) (locs1 : List Loc), zg_W D cs A s (wX q cs (zs_sb u 0 (vp_updL (zs_b u 0) i.toNatClampNeg x))) H1 locs1 → W p l e R s m args below meth c H1 locs1 cells slots Q (F0 m (pc + 1) ls rest)) : W p l e R s m args below meth c H locs cells slots Q (F0 m pc ls (.long x :: .int i :: .ref (q 30) :: rest)) := zr_last C w wX_c30 hi wX_s30 hdg kk
theorem xa_31 (C : CallFix p m c cc nL s args (c0 :: zw_all) own) (w : zg_W D cs A s (wX q cs u) H locs) {i : Int32} (hi : zf_in i 12 = true) (hdg : decode cc pc = .ok (.iaload, 1)) (kk : W p l e R s m args below meth c H locs cells slots Q (F0 m (pc + 1) ls (.int (zs_a u 21 i.toNatClampNeg) :: rest))) : W p l e R s m args below meth c H locs cells slots Q (F0 m pc ls (.int i :: .ref (q 31) :: rest)) := zr_iald C w wX_c31 hi hdg kk
theorem wX_s31 {q : Nat → Nat} {cs : Nat → ClassId} {u : zs_T} {f : Nat → Int32} : (wX q cs u).set 31 (q 31, .inl (cs 0, 12, .inl f)) = wX q cs (zs_sa u 21 f) := rfl
theorem xs_31 (C : CallFix p m c cc nL s args (c0 :: zw_all) own) (w : zg_W D cs A s (wX q cs u) H locs) {i : Int32} {x : Int32} (hi : zf_in i 12 = true) (hdg : decode cc pc = .ok (.iastore, 1)) (kk : ∀ (H1 : Heap) (locs1 : List Loc), zg_W D cs A s (wX q cs (zs_sa u 21 (upd (zs_a u 21) i.toNatClampNeg x))) H1 locs1 → W p l e R s m args below meth c H1 locs1 cells slots Q (F0 m (pc + 1) ls rest)) : W p l e R s m args below meth c H locs cells slots Q (F0 m pc ls (.int x :: .int i :: .ref (q 31) :: rest)) := zr_iast C w wX_c31 hi wX_s31 hdg kk
theorem xa_32 (C : CallFix p m c cc nL s args (c0 :: zw_all) own) (w : zg_W D cs A s (wX q cs u) H locs) {i : Int32} (hi : zf_in i 12 = true) (hdg : decode cc pc = .ok (.laload, 1)) (kk : W p l e R s m args below meth c H locs cells slots Q (F0 m (pc + 1) ls (.long (zs_b u 1 i.toNatClampNeg) :: rest))) : W p l e R s m args below meth c H locs cells slots Q (F0 m pc ls (.int i :: .ref (q 32) :: rest)) := zr_lald C w wX_c32 hi hdg kk
theorem wX_s32 {q : Nat → Nat} {cs : Nat → ClassId} {u : zs_T} {f : Nat → Int64} : (wX q cs u).set 32 (q 32, .inl (cs 1, 12, .inr (.inl f))) = wX q cs (zs_sb u 1 f) := rfl
theorem xs_32 (C : CallFix p m c cc nL s args (c0 :: zw_all) own) (w : zg_W D cs A s (wX q cs u) H locs) {i : Int32} {x : Int64} (hi : zf_in i 12 = true) (hdg : decode cc pc = .ok (.lastore, 1)) (kk : ∀ (H1 : Heap) (locs1 : List Loc), zg_W D cs A s (wX q cs (zs_sb u 1 (vp_updL (zs_b u 1) i.toNatClampNeg x))) H1 locs1 → W p l e R s m args below meth c H1 locs1 cells slots Q (F0 m (pc + 1) ls rest)) : W p l e R s m args below meth c H locs cells slots Q (F0 m pc ls (.long x :: .int i :: .ref (q 32) :: rest)) := zr_last C w wX_c32 hi wX_s32 hdg kk
theorem xa_33 (C : CallFix p m c cc nL s args (c0 :: zw_all) own) (w : zg_W D cs A s (wX q cs u) H locs) {i : Int32} (hi : zf_in i 12 = true) (hdg : decode cc pc = .ok (.laload, 1)) (kk : W p l e R s m args below meth c H locs cells slots Q (F0 m (pc + 1) ls (.long (zs_b u 2 i.toNatClampNeg) :: rest))) : W p l e R s m args below meth c H locs cells slots Q (F0 m pc ls (.int i :: .ref (q 33) :: rest)) := zr_lald C w wX_c33 hi hdg kk
theorem wX_s33 {q : Nat → Nat} {cs : Nat → ClassId} {u : zs_T} {f : Nat → Int64} : (wX q cs u).set 33 (q 33, .inl (cs 1, 12, .inr (.inl f))) = wX q cs (zs_sb u 2 f) := rfl
theorem xs_33 (C : CallFix p m c cc nL s args (c0 :: zw_all) own) (w : zg_W D cs A s (wX q cs u) H locs) {i : Int32} {x : Int64} (hi : zf_in i 12 = true) (hdg : decode cc pc = .ok (.lastore, 1)) (kk : ∀ (H1 : Heap) (locs1 : List Loc), zg_W D cs A s (wX q cs (zs_sb u 2 (vp_updL (zs_b u 2) i.toNatClampNeg x))) H1 locs1 → W p l e R s m args below meth c H1 locs1 cells slots Q (F0 m (pc + 1) ls rest)) : W p l e R s m args below meth c H locs cells slots Q (F0 m pc ls (.long x :: .int i :: .ref (q 33) :: rest)) := zr_last C w wX_c33 hi wX_s33 hdg kk
theorem xa_34 (C : CallFix p m c cc nL s args (c0 :: zw_all) own) (w : zg_W D cs A s (wX q cs u) H locs) {i : Int32} (hi : zf_in i 12 = true) (hdg : decode cc pc = .ok (.iaload, 1)) (kk : W p l e R s m args below meth c H locs cells slots Q (F0 m (pc + 1) ls (.int (zs_a u 22 i.toNatClampNeg) :: rest))) : W p l e R s m args below meth c H locs cells slots Q (F0 m pc ls (.int i :: .ref (q 34) :: rest)) := zr_iald C w wX_c34 hi hdg kk
theorem wX_s34 {q : Nat → Nat} {cs : Nat → ClassId} {u : zs_T} {f : Nat → Int32} : (wX q cs u).set 34 (q 34, .inl (cs 0, 12, .inl f)) = wX q cs (zs_sa u 22 f) := rfl
theorem xs_34 (C : CallFix p m c cc nL s args (c0 :: zw_all) own) (w : zg_W D cs A s (wX q cs u) H locs) {i : Int32} {x : Int32} (hi : zf_in i 12 = true) (hdg : decode cc pc = .ok (.iastore, 1)) (kk : ∀ (H1 : Heap) (locs1 : List Loc), zg_W D cs A s (wX q cs (zs_sa u 22 (upd (zs_a u 22) i.toNatClampNeg x))) H1 locs1 → W p l e R s m args below meth c H1 locs1 cells slots Q (F0 m (pc + 1) ls rest)) : W p l e R s m args below meth c H locs cells slots Q (F0 m pc ls (.int x :: .int i :: .ref (q 34) :: rest)) := zr_iast C w wX_c34 hi wX_s34 hdg kk
end ZWX
end
section
/-! the world of FlockPassModel: cells and numbers
cell 0: object of FlockPassModel: tape=cell 1, taped=i0, fault=i1, ruleL=i2, ruleM=i3, ruleW=i4, ruleV=i5, said=cell 2, heights=i6, flock=i7, snow=i8, year=i9, days=i10, hunger=i11, grass=cell 3, most=cell 4, growth=cell 5, eaten=l0, was=cell 6, way=cell 7, bestWay=cell 8, ways=i12, bestHunger=i13, bestGrass=i14, sheep=i15, entries=i16, milkingDay=i17, owner=cell 9, milk=cell 10, wasDead=cell 11, what=cell 12, of=cell 13, on=cell 14, to=cell 15, isUp=i18, isDead=i19, has=i20, daysOf=cell 16, parts=cell 17, turn=cell 18, cheeses=cell 19, latest=cell 20, balance=cell 21, money=cell 22, own=l1
cell 1: row a0 of 40: FlockPassModel.tape
cell 2: row a1 of 4: FlockPassModel.said
cell 3: row a2 of 6: FlockPassModel.grass
cell 4: row a3 of 6: FlockPassModel.most
cell 5: row a4 of 6: FlockPassModel.growth
cell 6: row a5 of 6: FlockPassModel.was
cell 7: row a6 of 8: FlockPassModel.way
cell 8: row a7 of 8: FlockPassModel.bestWay
cell 9: row a8 of 80: FlockPassModel.owner
cell 10: row a9 of 80: FlockPassModel.milk
cell 11: row a10 of 80: FlockPassModel.wasDead
cell 12: row a11 of 100: FlockPassModel.what
cell 13: row a12 of 100: FlockPassModel.of
cell 14: row a13 of 100: FlockPassModel.on
cell 15: row a14 of 100: FlockPassModel.to
cell 16: row a15 of 12: FlockPassModel.daysOf
cell 17: row a16 of 12: FlockPassModel.parts
cell 18: row a17 of 12: FlockPassModel.turn
cell 19: row a18 of 12: FlockPassModel.cheeses
cell 20: row a19 of 12: FlockPassModel.latest
cell 21: row b0 of 12: FlockPassModel.balance
cell 22: row b1 of 12: FlockPassModel.money
-/
def oM0 (q : Nat → Nat) (u : zs_T) : List Value := [.ref (q 1), .int (zs_i u 0), .int (zs_i u 1), .int (zs_i u 2), .int (zs_i u 3), .int (zs_i u 4), .int (zs_i u 5), .ref (q 2), .int (zs_i u 6), .int (zs_i u 7), .int (zs_i u 8), .int (zs_i u 9), .int (zs_i u 10), .int (zs_i u 11), .ref (q 3), .ref (q 4), .ref (q 5), .long (zs_l u 0), .ref (q 6), .ref (q 7), .ref (q 8), .int (zs_i u 12), .int (zs_i u 13), .int (zs_i u 14), .int (zs_i u 15), .int (zs_i u 16), .int (zs_i u 17), .ref (q 9), .ref (q 10), .ref (q 11), .ref (q 12), .ref (q 13), .ref (q 14), .ref (q 15), .int (zs_i u 18), .int (zs_i u 19), .int (zs_i u 20), .ref (q 16), .ref (q 17), .ref (q 18), .ref (q 19), .ref (q 20), .ref (q 21), .ref (q 22), .long (zs_l u 1)]
def wM (q : Nat → Nat) (cs : Nat → ClassId) (u : zs_T) : va_W := [(q 0, .inr (9, oM0 q u)), (q 1, .inl (cs 3, 40, .inl (zs_a u 0))), (q 2, .inl (cs 0, 4, .inl (zs_a u 1))), (q 3, .inl (cs 0, 6, .inl (zs_a u 2))), (q 4, .inl (cs 0, 6, .inl (zs_a u 3))), (q 5, .inl (cs 0, 6, .inl (zs_a u 4))), (q 6, .inl (cs 0, 6, .inl (zs_a u 5))), (q 7, .inl (cs 0, 8, .inl (zs_a u 6))), (q 8, .inl (cs 0, 8, .inl (zs_a u 7))), (q 9, .inl (cs 0, 80, .inl (zs_a u 8))), (q 10, .inl (cs 0, 80, .inl (zs_a u 9))), (q 11, .inl (cs 2, 80, .inl (zs_a u 10))), (q 12, .inl (cs 0, 100, .inl (zs_a u 11))), (q 13, .inl (cs 0, 100, .inl (zs_a u 12))), (q 14, .inl (cs 0, 100, .inl (zs_a u 13))), (q 15, .inl (cs 0, 100, .inl (zs_a u 14))), (q 16, .inl (cs 0, 12, .inl (zs_a u 15))), (q 17, .inl (cs 0, 12, .inl (zs_a u 16))), (q 18, .inl (cs 0, 12, .inl (zs_a u 17))), (q 19, .inl (cs 0, 12, .inl (zs_a u 18))), (q 20, .inl (cs 0, 12, .inl (zs_a u 19))), (q 21, .inl (cs 1, 12, .inr (.inl (zs_b u 0)))), (q 22, .inl (cs 1, 12, .inr (.inl (zs_b u 1))))]
theorem wM_ad {q : Nat → Nat} {cs : Nat → ClassId} : zg_Ad (wM q cs) := fun _ _ => rfl
theorem wM_c0 {q : Nat → Nat} {cs : Nat → ClassId} {u : zs_T} : (wM q cs u)[0]? = some (q 0, .inr (9, oM0 q u)) := rfl
theorem wM_c1 {q : Nat → Nat} {cs : Nat → ClassId} {u : zs_T} : (wM q cs u)[1]? = some (q 1, .inl (cs 3, 40, .inl (zs_a u 0))) := rfl
theorem wM_c2 {q : Nat → Nat} {cs : Nat → ClassId} {u : zs_T} : (wM q cs u)[2]? = some (q 2, .inl (cs 0, 4, .inl (zs_a u 1))) := rfl
theorem wM_c3 {q : Nat → Nat} {cs : Nat → ClassId} {u : zs_T} : (wM q cs u)[3]? = some (q 3, .inl (cs 0, 6, .inl (zs_a u 2))) := rfl
theorem wM_c4 {q : Nat → Nat} {cs : Nat → ClassId} {u : zs_T} : (wM q cs u)[4]? = some (q 4, .inl (cs 0, 6, .inl (zs_a u 3))) := rfl
theorem wM_c5 {q : Nat → Nat} {cs : Nat → ClassId} {u : zs_T} : (wM q cs u)[5]? = some (q 5, .inl (cs 0, 6, .inl (zs_a u 4))) := rfl
theorem wM_c6 {q : Nat → Nat} {cs : Nat → ClassId} {u : zs_T} : (wM q cs u)[6]? = some (q 6, .inl (cs 0, 6, .inl (zs_a u 5))) := rfl
theorem wM_c7 {q : Nat → Nat} {cs : Nat → ClassId} {u : zs_T} : (wM q cs u)[7]? = some (q 7, .inl (cs 0, 8, .inl (zs_a u 6))) := rfl
theorem wM_c8 {q : Nat → Nat} {cs : Nat → ClassId} {u : zs_T} : (wM q cs u)[8]? = some (q 8, .inl (cs 0, 8, .inl (zs_a u 7))) := rfl
theorem wM_c9 {q : Nat → Nat} {cs : Nat → ClassId} {u : zs_T} : (wM q cs u)[9]? = some (q 9, .inl (cs 0, 80, .inl (zs_a u 8))) := rfl
theorem wM_c10 {q : Nat → Nat} {cs : Nat → ClassId} {u : zs_T} : (wM q cs u)[10]? = some (q 10, .inl (cs 0, 80, .inl (zs_a u 9))) := rfl
theorem wM_c11 {q : Nat → Nat} {cs : Nat → ClassId} {u : zs_T} : (wM q cs u)[11]? = some (q 11, .inl (cs 2, 80, .inl (zs_a u 10))) := rfl
theorem wM_c12 {q : Nat → Nat} {cs : Nat → ClassId} {u : zs_T} : (wM q cs u)[12]? = some (q 12, .inl (cs 0, 100, .inl (zs_a u 11))) := rfl
theorem wM_c13 {q : Nat → Nat} {cs : Nat → ClassId} {u : zs_T} : (wM q cs u)[13]? = some (q 13, .inl (cs 0, 100, .inl (zs_a u 12))) := rfl
theorem wM_c14 {q : Nat → Nat} {cs : Nat → ClassId} {u : zs_T} : (wM q cs u)[14]? = some (q 14, .inl (cs 0, 100, .inl (zs_a u 13))) := rfl
theorem wM_c15 {q : Nat → Nat} {cs : Nat → ClassId} {u : zs_T} : (wM q cs u)[15]? = some (q 15, .inl (cs 0, 100, .inl (zs_a u 14))) := rfl
theorem wM_c16 {q : Nat → Nat} {cs : Nat → ClassId} {u : zs_T} : (wM q cs u)[16]? = some (q 16, .inl (cs 0, 12, .inl (zs_a u 15))) := rfl
theorem wM_c17 {q : Nat → Nat} {cs : Nat → ClassId} {u : zs_T} : (wM q cs u)[17]? = some (q 17, .inl (cs 0, 12, .inl (zs_a u 16))) := rfl
theorem wM_c18 {q : Nat → Nat} {cs : Nat → ClassId} {u : zs_T} : (wM q cs u)[18]? = some (q 18, .inl (cs 0, 12, .inl (zs_a u 17))) := rfl
theorem wM_c19 {q : Nat → Nat} {cs : Nat → ClassId} {u : zs_T} : (wM q cs u)[19]? = some (q 19, .inl (cs 0, 12, .inl (zs_a u 18))) := rfl
theorem wM_c20 {q : Nat → Nat} {cs : Nat → ClassId} {u : zs_T} : (wM q cs u)[20]? = some (q 20, .inl (cs 0, 12, .inl (zs_a u 19))) := rfl
theorem wM_c21 {q : Nat → Nat} {cs : Nat → ClassId} {u : zs_T} : (wM q cs u)[21]? = some (q 21, .inl (cs 1, 12, .inr (.inl (zs_b u 0)))) := rfl
theorem wM_c22 {q : Nat → Nat} {cs : Nat → ClassId} {u : zs_T} : (wM q cs u)[22]? = some (q 22, .inl (cs 1, 12, .inr (.inl (zs_b u 1)))) := rfl
section ZWM
variable {p : Program} {l : Launch} {e : Env} {R : Room} {s : State} {m : MethodId} {args : Array Value} {below : List Frame} {meth : Method} {c : Code} {H : Heap} {locs : List Loc} {cells slots : Nat} {Q : State → Prop}
variable {cc : ByteArray} {nL pc index : Nat} {ls : Array Slot} {rest : List Value} {c0 : Cond} {own : String}
variable {D : va_G} {cs : Nat → ClassId} {A : Nat → Prop} {q : Nat → Nat} {u : zs_T}
theorem rcM_0 : zc_rc (wM q cs) u (q 0) RX9 := ⟨0, 9, _, _, wM_c0, rfl, rfl⟩
theorem mg_0_0 (C : CallFix p m c cc nL s args (c0 :: zw_all) own) (w : zg_W D cs A s (wM q cs u) H locs) (hl : Cond.fieldLink own index RX9 "tape" "[B" ∈ zw_all) (hdg : decode cc pc = .ok (.getfield index, 3)) (kk : W p l e R s m args below meth c H locs cells slots Q (F0 m (pc + 3) ls (.ref (q 1) :: rest))) : W p l e R s m args below meth c H locs cells slots Q (F0 m pc ls (.ref (q 0) :: rest)) := zr_get (k := 0) C w wM_c0 rfl inz9 (by decide) hl rfl rfl hdg kk
theorem mg_0_1 (C : CallFix p m c cc nL s args (c0 :: zw_all) own) (w : zg_W D cs A s (wM q cs u) H locs) (hl : Cond.fieldLink own index RX9 "taped" "I" ∈ zw_all) (hdg : decode cc pc = .ok (.getfield index, 3)) (kk : W p l e R s m args below meth c H locs cells slots Q (F0 m (pc + 3) ls (.int (zs_i u 0) :: rest))) : W p l e R s m args below meth c H locs cells slots Q (F0 m pc ls (.ref (q 0) :: rest)) := zr_get (k := 1) C w wM_c0 rfl inz9 (by decide) hl rfl rfl hdg kk
theorem mp_0_1 (C : CallFix p m c cc nL s args (c0 :: zw_all) own) (w : zg_W D cs A s (wM q cs u) H locs) {v : Int32} (hl : Cond.fieldLink own index RX9 "taped" "I" ∈ zw_all) (hdg : decode cc pc = .ok (.putfield index, 3)) (kk : ∀ (H1 : Heap) (locs1 : List Loc), zg_W D cs A s (wM q cs (zs_si u 0 v)) H1 locs1 → W p l e R s m args below meth c H1 locs1 cells slots Q (F0 m (pc + 3) ls rest)) : W p l e R s m args below meth c H locs cells slots Q (F0 m pc ls (.int v :: .ref (q 0) :: rest)) := zr_put (k := 1) (ty := .int) C w wM_c0 rfl inz9 tyX9 tyX9_ok nmX9 (by decide) hl rfl rfl (by decide +kernel) rfl rfl (Nat.le_of_ble_eq_true rfl) rfl hdg kk
theorem mg_0_2 (C : CallFix p m c cc nL s args (c0 :: zw_all) own) (w : zg_W D cs A s (wM q cs u) H locs) (hl : Cond.fieldLink own index RX9 "fault" "I" ∈ zw_all) (hdg : decode cc pc = .ok (.getfield index, 3)) (kk : W p l e R s m args below meth c H locs cells slots Q (F0 m (pc + 3) ls (.int (zs_i u 1) :: rest))) : W p l e R s m args below meth c H locs cells slots Q (F0 m pc ls (.ref (q 0) :: rest)) := zr_get (k := 2) C w wM_c0 rfl inz9 (by decide) hl rfl rfl hdg kk
theorem mp_0_2 (C : CallFix p m c cc nL s args (c0 :: zw_all) own) (w : zg_W D cs A s (wM q cs u) H locs) {v : Int32} (hl : Cond.fieldLink own index RX9 "fault" "I" ∈ zw_all) (hdg : decode cc pc = .ok (.putfield index, 3)) (kk : ∀ (H1 : Heap) (locs1 : List Loc), zg_W D cs A s (wM q cs (zs_si u 1 v)) H1 locs1 → W p l e R s m args below meth c H1 locs1 cells slots Q (F0 m (pc + 3) ls rest)) : W p l e R s m args below meth c H locs cells slots Q (F0 m pc ls (.int v :: .ref (q 0) :: rest)) := zr_put (k := 2) (ty := .int) C w wM_c0 rfl inz9 tyX9 tyX9_ok nmX9 (by decide) hl rfl rfl (by decide +kernel) rfl rfl (Nat.le_of_ble_eq_true rfl) rfl hdg kk
theorem mg_0_3 (C : CallFix p m c cc nL s args (c0 :: zw_all) own) (w : zg_W D cs A s (wM q cs u) H locs) (hl : Cond.fieldLink own index RX9 "ruleL" "I" ∈ zw_all) (hdg : decode cc pc = .ok (.getfield index, 3)) (kk : W p l e R s m args below meth c H locs cells slots Q (F0 m (pc + 3) ls (.int (zs_i u 2) :: rest))) : W p l e R s m args below meth c H locs cells slots Q (F0 m pc ls (.ref (q 0) :: rest)) := zr_get (k := 3) C w wM_c0 rfl inz9 (by decide) hl rfl rfl hdg kk
theorem mp_0_3 (C : CallFix p m c cc nL s args (c0 :: zw_all) own) (w : zg_W D cs A s (wM q cs u) H locs) {v : Int32} (hl : Cond.fieldLink own index RX9 "ruleL" "I" ∈ zw_all) (hdg : decode cc pc = .ok (.putfield index, 3)) (kk : ∀ (H1 : Heap) (locs1 : List Loc), zg_W D cs A s (wM q cs (zs_si u 2 v)) H1 locs1 → W p l e R s m args below meth c H1 locs1 cells slots Q (F0 m (pc + 3) ls rest)) : W p l e R s m args below meth c H locs cells slots Q (F0 m pc ls (.int v :: .ref (q 0) :: rest)) := zr_put (k := 3) (ty := .int) C w wM_c0 rfl inz9 tyX9 tyX9_ok nmX9 (by decide) hl rfl rfl (by decide +kernel) rfl rfl (Nat.le_of_ble_eq_true rfl) rfl hdg kk
theorem mg_0_4 (C : CallFix p m c cc nL s args (c0 :: zw_all) own) (w : zg_W D cs A s (wM q cs u) H locs) (hl : Cond.fieldLink own index RX9 "ruleM" "I" ∈ zw_all) (hdg : decode cc pc = .ok (.getfield index, 3)) (kk : W p l e R s m args below meth c H locs cells slots Q (F0 m (pc + 3) ls (.int (zs_i u 3) :: rest))) : W p l e R s m args below meth c H locs cells slots Q (F0 m pc ls (.ref (q 0) :: rest)) := zr_get (k := 4) C w wM_c0 rfl inz9 (by decide) hl rfl rfl hdg kk
theorem mp_0_4 (C : CallFix p m c cc nL s args (c0 :: zw_all) own) (w : zg_W D cs A s (wM q cs u) H locs) {v : Int32} (hl : Cond.fieldLink own index RX9 "ruleM" "I" ∈ zw_all) (hdg : decode cc pc = .ok (.putfield index, 3)) (kk : ∀ (H1 : Heap) (locs1 : List Loc), zg_W D cs A s (wM q cs (zs_si u 3 v)) H1 locs1 → W p l e R s m args below meth c H1 locs1 cells slots Q (F0 m (pc + 3) ls rest)) : W p l e R s m args below meth c H locs cells slots Q (F0 m pc ls (.int v :: .ref (q 0) :: rest)) := zr_put (k := 4) (ty := .int) C w wM_c0 rfl inz9 tyX9 tyX9_ok nmX9 (by decide) hl rfl rfl (by decide +kernel) rfl rfl (Nat.le_of_ble_eq_true rfl) rfl hdg kk
theorem mg_0_5 (C : CallFix p m c cc nL s args (c0 :: zw_all) own) (w : zg_W D cs A s (wM q cs u) H locs) (hl : Cond.fieldLink own index RX9 "ruleW" "I" ∈ zw_all) (hdg : decode cc pc = .ok (.getfield index, 3)) (kk : W p l e R s m args below meth c H locs cells slots Q (F0 m (pc + 3) ls (.int (zs_i u 4) :: rest))) : W p l e R s m args below meth c H locs cells slots Q (F0 m pc ls (.ref (q 0) :: rest)) := zr_get (k := 5) C w wM_c0 rfl inz9 (by decide) hl rfl rfl hdg kk
theorem mp_0_5 (C : CallFix p m c cc nL s args (c0 :: zw_all) own) (w : zg_W D cs A s (wM q cs u) H locs) {v : Int32} (hl : Cond.fieldLink own index RX9 "ruleW" "I" ∈ zw_all) (hdg : decode cc pc = .ok (.putfield index, 3)) (kk : ∀ (H1 : Heap) (locs1 : List Loc), zg_W D cs A s (wM q cs (zs_si u 4 v)) H1 locs1 → W p l e R s m args below meth c H1 locs1 cells slots Q (F0 m (pc + 3) ls rest)) : W p l e R s m args below meth c H locs cells slots Q (F0 m pc ls (.int v :: .ref (q 0) :: rest)) := zr_put (k := 5) (ty := .int) C w wM_c0 rfl inz9 tyX9 tyX9_ok nmX9 (by decide) hl rfl rfl (by decide +kernel) rfl rfl (Nat.le_of_ble_eq_true rfl) rfl hdg kk
theorem mg_0_6 (C : CallFix p m c cc nL s args (c0 :: zw_all) own) (w : zg_W D cs A s (wM q cs u) H locs) (hl : Cond.fieldLink own index RX9 "ruleV" "I" ∈ zw_all) (hdg : decode cc pc = .ok (.getfield index, 3)) (kk : W p l e R s m args below meth c H locs cells slots Q (F0 m (pc + 3) ls (.int (zs_i u 5) :: rest))) : W p l e R s m args below meth c H locs cells slots Q (F0 m pc ls (.ref (q 0) :: rest)) := zr_get (k := 6) C w wM_c0 rfl inz9 (by decide) hl rfl rfl hdg kk
theorem mp_0_6 (C : CallFix p m c cc nL s args (c0 :: zw_all) own) (w : zg_W D cs A s (wM q cs u) H locs) {v : Int32} (hl : Cond.fieldLink own index RX9 "ruleV" "I" ∈ zw_all) (hdg : decode cc pc = .ok (.putfield index, 3)) (kk : ∀ (H1 : Heap) (locs1 : List Loc), zg_W D cs A s (wM q cs (zs_si u 5 v)) H1 locs1 → W p l e R s m args below meth c H1 locs1 cells slots Q (F0 m (pc + 3) ls rest)) : W p l e R s m args below meth c H locs cells slots Q (F0 m pc ls (.int v :: .ref (q 0) :: rest)) := zr_put (k := 6) (ty := .int) C w wM_c0 rfl inz9 tyX9 tyX9_ok nmX9 (by decide) hl rfl rfl (by decide +kernel) rfl rfl (Nat.le_of_ble_eq_true rfl) rfl hdg kk
theorem mg_0_7 (C : CallFix p m c cc nL s args (c0 :: zw_all) own) (w : zg_W D cs A s (wM q cs u) H locs) (hl : Cond.fieldLink own index RX9 "said" "[I" ∈ zw_all) (hdg : decode cc pc = .ok (.getfield index, 3)) (kk : W p l e R s m args below meth c H locs cells slots Q (F0 m (pc + 3) ls (.ref (q 2) :: rest))) : W p l e R s m args below meth c H locs cells slots Q (F0 m pc ls (.ref (q 0) :: rest)) := zr_get (k := 7) C w wM_c0 rfl inz9 (by decide) hl rfl rfl hdg kk
theorem mg_0_8 (C : CallFix p m c cc nL s args (c0 :: zw_all) own) (w : zg_W D cs A s (wM q cs u) H locs) (hl : Cond.fieldLink own index RX9 "heights" "I" ∈ zw_all) (hdg : decode cc pc = .ok (.getfield index, 3)) (kk : W p l e R s m args below meth c H locs cells slots Q (F0 m (pc + 3) ls (.int (zs_i u 6) :: rest))) : W p l e R s m args below meth c H locs cells slots Q (F0 m pc ls (.ref (q 0) :: rest)) := zr_get (k := 8) C w wM_c0 rfl inz9 (by decide) hl rfl rfl hdg kk
theorem mp_0_8 (C : CallFix p m c cc nL s args (c0 :: zw_all) own) (w : zg_W D cs A s (wM q cs u) H locs) {v : Int32} (hl : Cond.fieldLink own index RX9 "heights" "I" ∈ zw_all) (hdg : decode cc pc = .ok (.putfield index, 3)) (kk : ∀ (H1 : Heap) (locs1 : List Loc), zg_W D cs A s (wM q cs (zs_si u 6 v)) H1 locs1 → W p l e R s m args below meth c H1 locs1 cells slots Q (F0 m (pc + 3) ls rest)) : W p l e R s m args below meth c H locs cells slots Q (F0 m pc ls (.int v :: .ref (q 0) :: rest)) := zr_put (k := 8) (ty := .int) C w wM_c0 rfl inz9 tyX9 tyX9_ok nmX9 (by decide) hl rfl rfl (by decide +kernel) rfl rfl (Nat.le_of_ble_eq_true rfl) rfl hdg kk
theorem mg_0_9 (C : CallFix p m c cc nL s args (c0 :: zw_all) own) (w : zg_W D cs A s (wM q cs u) H locs) (hl : Cond.fieldLink own index RX9 "flock" "I" ∈ zw_all) (hdg : decode cc pc = .ok (.getfield index, 3)) (kk : W p l e R s m args below meth c H locs cells slots Q (F0 m (pc + 3) ls (.int (zs_i u 7) :: rest))) : W p l e R s m args below meth c H locs cells slots Q (F0 m pc ls (.ref (q 0) :: rest)) := zr_get (k := 9) C w wM_c0 rfl inz9 (by decide) hl rfl rfl hdg kk
theorem mp_0_9 (C : CallFix p m c cc nL s args (c0 :: zw_all) own) (w : zg_W D cs A s (wM q cs u) H locs) {v : Int32} (hl : Cond.fieldLink own index RX9 "flock" "I" ∈ zw_all) (hdg : decode cc pc = .ok (.putfield index, 3)) (kk : ∀ (H1 : Heap) (locs1 : List Loc), zg_W D cs A s (wM q cs (zs_si u 7 v)) H1 locs1 → W p l e R s m args below meth c H1 locs1 cells slots Q (F0 m (pc + 3) ls rest)) : W p l e R s m args below meth c H locs cells slots Q (F0 m pc ls (.int v :: .ref (q 0) :: rest)) := zr_put (k := 9) (ty := .int) C w wM_c0 rfl inz9 tyX9 tyX9_ok nmX9 (by decide) hl rfl rfl (by decide +kernel) rfl rfl (Nat.le_of_ble_eq_true rfl) rfl hdg kk
theorem mg_0_10 (C : CallFix p m c cc nL s args (c0 :: zw_all) own) (w : zg_W D cs A s (wM q cs u) H locs) (hl : Cond.fieldLink own index RX9 "snow" "I" ∈ zw_all) (hdg : decode cc pc = .ok (.getfield index, 3)) (kk : W p l e R s m args below meth c H locs cells slots Q (F0 m (pc + 3) ls (.int (zs_i u 8) :: rest))) : W p l e R s m args below meth c H locs cells slots Q (F0 m pc ls (.ref (q 0) :: rest)) := zr_get (k := 10) C w wM_c0 rfl inz9 (by decide) hl rfl rfl hdg kk
theorem mp_0_10 (C : CallFix p m c cc nL s args (c0 :: zw_all) own) (w : zg_W D cs A s (wM q cs u) H locs) {v : Int32} (hl : Cond.fieldLink own index RX9 "snow" "I" ∈ zw_all) (hdg : decode cc pc = .ok (.putfield index, 3)) (kk : ∀ (H1 : Heap) (locs1 : List Loc), zg_W D cs A s (wM q cs (zs_si u 8 v)) H1 locs1 → W p l e R s m args below meth c H1 locs1 cells slots Q (F0 m (pc + 3) ls rest)) : W p l e R s m args below meth c H locs cells slots Q (F0 m pc ls (.int v :: .ref (q 0) :: rest)) := zr_put (k := 10) (ty := .int) C w wM_c0 rfl inz9 tyX9 tyX9_ok nmX9 (by decide) hl rfl rfl (by decide +kernel) rfl rfl (Nat.le_of_ble_eq_true rfl) rfl hdg kk
theorem mg_0_11 (C : CallFix p m c cc nL s args (c0 :: zw_all) own) (w : zg_W D cs A s (wM q cs u) H locs) (hl : Cond.fieldLink own index RX9 "year" "I" ∈ zw_all) (hdg : decode cc pc = .ok (.getfield index, 3)) (kk : W p l e R s m args below meth c H locs cells slots Q (F0 m (pc + 3) ls (.int (zs_i u 9) :: rest))) : W p l e R s m args below meth c H locs cells slots Q (F0 m pc ls (.ref (q 0) :: rest)) := zr_get (k := 11) C w wM_c0 rfl inz9 (by decide) hl rfl rfl hdg kk
theorem mp_0_11 (C : CallFix p m c cc nL s args (c0 :: zw_all) own) (w : zg_W D cs A s (wM q cs u) H locs) {v : Int32} (hl : Cond.fieldLink own index RX9 "year" "I" ∈ zw_all) (hdg : decode cc pc = .ok (.putfield index, 3)) (kk : ∀ (H1 : Heap) (locs1 : List Loc), zg_W D cs A s (wM q cs (zs_si u 9 v)) H1 locs1 → W p l e R s m args below meth c H1 locs1 cells slots Q (F0 m (pc + 3) ls rest)) : W p l e R s m args below meth c H locs cells slots Q (F0 m pc ls (.int v :: .ref (q 0) :: rest)) := zr_put (k := 11) (ty := .int) C w wM_c0 rfl inz9 tyX9 tyX9_ok nmX9 (by decide) hl rfl rfl (by decide +kernel) rfl rfl (Nat.le_of_ble_eq_true rfl) rfl hdg kk
theorem mg_0_12 (C : CallFix p m c cc nL s args (c0 :: zw_all) own) (w : zg_W D cs A s (wM q cs u) H locs) (hl : Cond.fieldLink own index RX9 "days" "I" ∈ zw_all) (hdg : decode cc pc = .ok (.getfield index, 3)) (kk : W p l e R s m args below meth c H locs cells slots Q (F0 m (pc + 3) ls (.int (zs_i u 10) :: rest))) : W p l e R s m args below meth c H locs cells slots Q (F0 m pc ls (.ref (q 0) :: rest)) := zr_get (k := 12) C w wM_c0 rfl inz9 (by decide) hl rfl rfl hdg kk
theorem mp_0_12 (C : CallFix p m c cc nL s args (c0 :: zw_all) own) (w : zg_W D cs A s (wM q cs u) H locs) {v : Int32} (hl : Cond.fieldLink own index RX9 "days" "I" ∈ zw_all) (hdg : decode cc pc = .ok (.putfield index, 3)) (kk : ∀ (H1 : Heap) (locs1 : List Loc), zg_W D cs A s (wM q cs (zs_si u 10 v)) H1 locs1 → W p l e R s m args below meth c H1 locs1 cells slots Q (F0 m (pc + 3) ls rest)) : W p l e R s m args below meth c H locs cells slots Q (F0 m pc ls (.int v :: .ref (q 0) :: rest)) := zr_put (k := 12) (ty := .int) C w wM_c0 rfl inz9 tyX9 tyX9_ok nmX9 (by decide) hl rfl rfl (by decide +kernel) rfl rfl (Nat.le_of_ble_eq_true rfl) rfl hdg kk
theorem mg_0_13 (C : CallFix p m c cc nL s args (c0 :: zw_all) own) (w : zg_W D cs A s (wM q cs u) H locs) (hl : Cond.fieldLink own index RX9 "hunger" "I" ∈ zw_all) (hdg : decode cc pc = .ok (.getfield index, 3)) (kk : W p l e R s m args below meth c H locs cells slots Q (F0 m (pc + 3) ls (.int (zs_i u 11) :: rest))) : W p l e R s m args below meth c H locs cells slots Q (F0 m pc ls (.ref (q 0) :: rest)) := zr_get (k := 13) C w wM_c0 rfl inz9 (by decide) hl rfl rfl hdg kk
theorem mp_0_13 (C : CallFix p m c cc nL s args (c0 :: zw_all) own) (w : zg_W D cs A s (wM q cs u) H locs) {v : Int32} (hl : Cond.fieldLink own index RX9 "hunger" "I" ∈ zw_all) (hdg : decode cc pc = .ok (.putfield index, 3)) (kk : ∀ (H1 : Heap) (locs1 : List Loc), zg_W D cs A s (wM q cs (zs_si u 11 v)) H1 locs1 → W p l e R s m args below meth c H1 locs1 cells slots Q (F0 m (pc + 3) ls rest)) : W p l e R s m args below meth c H locs cells slots Q (F0 m pc ls (.int v :: .ref (q 0) :: rest)) := zr_put (k := 13) (ty := .int) C w wM_c0 rfl inz9 tyX9 tyX9_ok nmX9 (by decide) hl rfl rfl (by decide +kernel) rfl rfl (Nat.le_of_ble_eq_true rfl) rfl hdg kk
theorem mg_0_14 (C : CallFix p m c cc nL s args (c0 :: zw_all) own) (w : zg_W D cs A s (wM q cs u) H locs) (hl : Cond.fieldLink own index RX9 "grass" "[I" ∈ zw_all) (hdg : decode cc pc = .ok (.getfield index, 3)) (kk : W p l e R s m args below meth c H locs cells slots Q (F0 m (pc + 3) ls (.ref (q 3) :: rest))) : W p l e R s m args below meth c H locs cells slots Q (F0 m pc ls (.ref (q 0) :: rest)) := zr_get (k := 14) C w wM_c0 rfl inz9 (by decide) hl rfl rfl hdg kk
theorem mg_0_15 (C : CallFix p m c cc nL s args (c0 :: zw_all) own) (w : zg_W D cs A s (wM q cs u) H locs) (hl : Cond.fieldLink own index RX9 "most" "[I" ∈ zw_all) (hdg : decode cc pc = .ok (.getfield index, 3)) (kk : W p l e R s m args below meth c H locs cells slots Q (F0 m (pc + 3) ls (.ref (q 4) :: rest))) : W p l e R s m args below meth c H locs cells slots Q (F0 m pc ls (.ref (q 0) :: rest)) := zr_get (k := 15) C w wM_c0 rfl inz9 (by decide) hl rfl rfl hdg kk
theorem mg_0_16 (C : CallFix p m c cc nL s args (c0 :: zw_all) own) (w : zg_W D cs A s (wM q cs u) H locs) (hl : Cond.fieldLink own index RX9 "growth" "[I" ∈ zw_all) (hdg : decode cc pc = .ok (.getfield index, 3)) (kk : W p l e R s m args below meth c H locs cells slots Q (F0 m (pc + 3) ls (.ref (q 5) :: rest))) : W p l e R s m args below meth c H locs cells slots Q (F0 m pc ls (.ref (q 0) :: rest)) := zr_get (k := 16) C w wM_c0 rfl inz9 (by decide) hl rfl rfl hdg kk
theorem mg_0_17 (C : CallFix p m c cc nL s args (c0 :: zw_all) own) (w : zg_W D cs A s (wM q cs u) H locs) (hl : Cond.fieldLink own index RX9 "eaten" "J" ∈ zw_all) (hdg : decode cc pc = .ok (.getfield index, 3)) (kk : W p l e R s m args below meth c H locs cells slots Q (F0 m (pc + 3) ls (.long (zs_l u 0) :: rest))) : W p l e R s m args below meth c H locs cells slots Q (F0 m pc ls (.ref (q 0) :: rest)) := zr_get (k := 17) C w wM_c0 rfl inz9 (by decide) hl rfl rfl hdg kk
theorem mp_0_17 (C : CallFix p m c cc nL s args (c0 :: zw_all) own) (w : zg_W D cs A s (wM q cs u) H locs) {v : Int64} (hl : Cond.fieldLink own index RX9 "eaten" "J" ∈ zw_all) (hdg : decode cc pc = .ok (.putfield index, 3)) (kk : ∀ (H1 : Heap) (locs1 : List Loc), zg_W D cs A s (wM q cs (zs_sl u 0 v)) H1 locs1 → W p l e R s m args below meth c H1 locs1 cells slots Q (F0 m (pc + 3) ls rest)) : W p l e R s m args below meth c H locs cells slots Q (F0 m pc ls (.long v :: .ref (q 0) :: rest)) := zr_put (k := 17) (ty := .long) C w wM_c0 rfl inz9 tyX9 tyX9_ok nmX9 (by decide) hl rfl rfl (by decide +kernel) rfl rfl (Nat.le_of_ble_eq_true rfl) rfl hdg kk
theorem mg_0_18 (C : CallFix p m c cc nL s args (c0 :: zw_all) own) (w : zg_W D cs A s (wM q cs u) H locs) (hl : Cond.fieldLink own index RX9 "was" "[I" ∈ zw_all) (hdg : decode cc pc = .ok (.getfield index, 3)) (kk : W p l e R s m args below meth c H locs cells slots Q (F0 m (pc + 3) ls (.ref (q 6) :: rest))) : W p l e R s m args below meth c H locs cells slots Q (F0 m pc ls (.ref (q 0) :: rest)) := zr_get (k := 18) C w wM_c0 rfl inz9 (by decide) hl rfl rfl hdg kk
theorem mg_0_19 (C : CallFix p m c cc nL s args (c0 :: zw_all) own) (w : zg_W D cs A s (wM q cs u) H locs) (hl : Cond.fieldLink own index RX9 "way" "[I" ∈ zw_all) (hdg : decode cc pc = .ok (.getfield index, 3)) (kk : W p l e R s m args below meth c H locs cells slots Q (F0 m (pc + 3) ls (.ref (q 7) :: rest))) : W p l e R s m args below meth c H locs cells slots Q (F0 m pc ls (.ref (q 0) :: rest)) := zr_get (k := 19) C w wM_c0 rfl inz9 (by decide) hl rfl rfl hdg kk
theorem mg_0_20 (C : CallFix p m c cc nL s args (c0 :: zw_all) own) (w : zg_W D cs A s (wM q cs u) H locs) (hl : Cond.fieldLink own index RX9 "bestWay" "[I" ∈ zw_all) (hdg : decode cc pc = .ok (.getfield index, 3)) (kk : W p l e R s m args below meth c H locs cells slots Q (F0 m (pc + 3) ls (.ref (q 8) :: rest))) : W p l e R s m args below meth c H locs cells slots Q (F0 m pc ls (.ref (q 0) :: rest)) := zr_get (k := 20) C w wM_c0 rfl inz9 (by decide) hl rfl rfl hdg kk
theorem mg_0_21 (C : CallFix p m c cc nL s args (c0 :: zw_all) own) (w : zg_W D cs A s (wM q cs u) H locs) (hl : Cond.fieldLink own index RX9 "ways" "I" ∈ zw_all) (hdg : decode cc pc = .ok (.getfield index, 3)) (kk : W p l e R s m args below meth c H locs cells slots Q (F0 m (pc + 3) ls (.int (zs_i u 12) :: rest))) : W p l e R s m args below meth c H locs cells slots Q (F0 m pc ls (.ref (q 0) :: rest)) := zr_get (k := 21) C w wM_c0 rfl inz9 (by decide) hl rfl rfl hdg kk
theorem mp_0_21 (C : CallFix p m c cc nL s args (c0 :: zw_all) own) (w : zg_W D cs A s (wM q cs u) H locs) {v : Int32} (hl : Cond.fieldLink own index RX9 "ways" "I" ∈ zw_all) (hdg : decode cc pc = .ok (.putfield index, 3)) (kk : ∀ (H1 : Heap) (locs1 : List Loc), zg_W D cs A s (wM q cs (zs_si u 12 v)) H1 locs1 → W p l e R s m args below meth c H1 locs1 cells slots Q (F0 m (pc + 3) ls rest)) : W p l e R s m args below meth c H locs cells slots Q (F0 m pc ls (.int v :: .ref (q 0) :: rest)) := zr_put (k := 21) (ty := .int) C w wM_c0 rfl inz9 tyX9 tyX9_ok nmX9 (by decide) hl rfl rfl (by decide +kernel) rfl rfl (Nat.le_of_ble_eq_true rfl) rfl hdg kk
theorem mg_0_22 (C : CallFix p m c cc nL s args (c0 :: zw_all) own) (w : zg_W D cs A s (wM q cs u) H locs) (hl : Cond.fieldLink own index RX9 "bestHunger" "I" ∈ zw_all) (hdg : decode cc pc = .ok (.getfield index, 3)) (kk : W p l e R s m args below meth c H locs cells slots Q (F0 m (pc + 3) ls (.int (zs_i u 13) :: rest))) : W p l e R s m args below meth c H locs cells slots Q (F0 m pc ls (.ref (q 0) :: rest)) := zr_get (k := 22) C w wM_c0 rfl inz9 (by decide) hl rfl rfl hdg kk
theorem mp_0_22 (C : CallFix p m c cc nL s args (c0 :: zw_all) own) (w : zg_W D cs A s (wM q cs u) H locs) {v : Int32} (hl : Cond.fieldLink own index RX9 "bestHunger" "I" ∈ zw_all) (hdg : decode cc pc = .ok (.putfield index, 3)) (kk : ∀ (H1 : Heap) (locs1 : List Loc), zg_W D cs A s (wM q cs (zs_si u 13 v)) H1 locs1 → W p l e R s m args below meth c H1 locs1 cells slots Q (F0 m (pc + 3) ls rest)) : W p l e R s m args below meth c H locs cells slots Q (F0 m pc ls (.int v :: .ref (q 0) :: rest)) := zr_put (k := 22) (ty := .int) C w wM_c0 rfl inz9 tyX9 tyX9_ok nmX9 (by decide) hl rfl rfl (by decide +kernel) rfl rfl (Nat.le_of_ble_eq_true rfl) rfl hdg kk
theorem mg_0_23 (C : CallFix p m c cc nL s args (c0 :: zw_all) own) (w : zg_W D cs A s (wM q cs u) H locs) (hl : Cond.fieldLink own index RX9 "bestGrass" "I" ∈ zw_all) (hdg : decode cc pc = .ok (.getfield index, 3)) (kk : W p l e R s m args below meth c H locs cells slots Q (F0 m (pc + 3) ls (.int (zs_i u 14) :: rest))) : W p l e R s m args below meth c H locs cells slots Q (F0 m pc ls (.ref (q 0) :: rest)) := zr_get (k := 23) C w wM_c0 rfl inz9 (by decide) hl rfl rfl hdg kk
theorem mp_0_23 (C : CallFix p m c cc nL s args (c0 :: zw_all) own) (w : zg_W D cs A s (wM q cs u) H locs) {v : Int32} (hl : Cond.fieldLink own index RX9 "bestGrass" "I" ∈ zw_all) (hdg : decode cc pc = .ok (.putfield index, 3)) (kk : ∀ (H1 : Heap) (locs1 : List Loc), zg_W D cs A s (wM q cs (zs_si u 14 v)) H1 locs1 → W p l e R s m args below meth c H1 locs1 cells slots Q (F0 m (pc + 3) ls rest)) : W p l e R s m args below meth c H locs cells slots Q (F0 m pc ls (.int v :: .ref (q 0) :: rest)) := zr_put (k := 23) (ty := .int) C w wM_c0 rfl inz9 tyX9 tyX9_ok nmX9 (by decide) hl rfl rfl (by decide +kernel) rfl rfl (Nat.le_of_ble_eq_true rfl) rfl hdg kk
theorem mg_0_24 (C : CallFix p m c cc nL s args (c0 :: zw_all) own) (w : zg_W D cs A s (wM q cs u) H locs) (hl : Cond.fieldLink own index RX9 "sheep" "I" ∈ zw_all) (hdg : decode cc pc = .ok (.getfield index, 3)) (kk : W p l e R s m args below meth c H locs cells slots Q (F0 m (pc + 3) ls (.int (zs_i u 15) :: rest))) : W p l e R s m args below meth c H locs cells slots Q (F0 m pc ls (.ref (q 0) :: rest)) := zr_get (k := 24) C w wM_c0 rfl inz9 (by decide) hl rfl rfl hdg kk
theorem mp_0_24 (C : CallFix p m c cc nL s args (c0 :: zw_all) own) (w : zg_W D cs A s (wM q cs u) H locs) {v : Int32} (hl : Cond.fieldLink own index RX9 "sheep" "I" ∈ zw_all) (hdg : decode cc pc = .ok (.putfield index, 3)) (kk : ∀ (H1 : Heap) (locs1 : List Loc), zg_W D cs A s (wM q cs (zs_si u 15 v)) H1 locs1 → W p l e R s m args below meth c H1 locs1 cells slots Q (F0 m (pc + 3) ls rest)) : W p l e R s m args below meth c H locs cells slots Q (F0 m pc ls (.int v :: .ref (q 0) :: rest)) := zr_put (k := 24) (ty := .int) C w wM_c0 rfl inz9 tyX9 tyX9_ok nmX9 (by decide) hl rfl rfl (by decide +kernel) rfl rfl (Nat.le_of_ble_eq_true rfl) rfl hdg kk
theorem mg_0_25 (C : CallFix p m c cc nL s args (c0 :: zw_all) own) (w : zg_W D cs A s (wM q cs u) H locs) (hl : Cond.fieldLink own index RX9 "entries" "I" ∈ zw_all) (hdg : decode cc pc = .ok (.getfield index, 3)) (kk : W p l e R s m args below meth c H locs cells slots Q (F0 m (pc + 3) ls (.int (zs_i u 16) :: rest))) : W p l e R s m args below meth c H locs cells slots Q (F0 m pc ls (.ref (q 0) :: rest)) := zr_get (k := 25) C w wM_c0 rfl inz9 (by decide) hl rfl rfl hdg kk
theorem mp_0_25 (C : CallFix p m c cc nL s args (c0 :: zw_all) own) (w : zg_W D cs A s (wM q cs u) H locs) {v : Int32} (hl : Cond.fieldLink own index RX9 "entries" "I" ∈ zw_all) (hdg : decode cc pc = .ok (.putfield index, 3)) (kk : ∀ (H1 : Heap) (locs1 : List Loc), zg_W D cs A s (wM q cs (zs_si u 16 v)) H1 locs1 → W p l e R s m args below meth c H1 locs1 cells slots Q (F0 m (pc + 3) ls rest)) : W p l e R s m args below meth c H locs cells slots Q (F0 m pc ls (.int v :: .ref (q 0) :: rest)) := zr_put (k := 25) (ty := .int) C w wM_c0 rfl inz9 tyX9 tyX9_ok nmX9 (by decide) hl rfl rfl (by decide +kernel) rfl rfl (Nat.le_of_ble_eq_true rfl) rfl hdg kk
theorem mg_0_26 (C : CallFix p m c cc nL s args (c0 :: zw_all) own) (w : zg_W D cs A s (wM q cs u) H locs) (hl : Cond.fieldLink own index RX9 "milkingDay" "I" ∈ zw_all) (hdg : decode cc pc = .ok (.getfield index, 3)) (kk : W p l e R s m args below meth c H locs cells slots Q (F0 m (pc + 3) ls (.int (zs_i u 17) :: rest))) : W p l e R s m args below meth c H locs cells slots Q (F0 m pc ls (.ref (q 0) :: rest)) := zr_get (k := 26) C w wM_c0 rfl inz9 (by decide) hl rfl rfl hdg kk
theorem mp_0_26 (C : CallFix p m c cc nL s args (c0 :: zw_all) own) (w : zg_W D cs A s (wM q cs u) H locs) {v : Int32} (hl : Cond.fieldLink own index RX9 "milkingDay" "I" ∈ zw_all) (hdg : decode cc pc = .ok (.putfield index, 3)) (kk : ∀ (H1 : Heap) (locs1 : List Loc), zg_W D cs A s (wM q cs (zs_si u 17 v)) H1 locs1 → W p l e R s m args below meth c H1 locs1 cells slots Q (F0 m (pc + 3) ls rest)) : W p l e R s m args below meth c H locs cells slots Q (F0 m pc ls (.int v :: .ref (q 0) :: rest)) := zr_put (k := 26) (ty := .int) C w wM_c0 rfl inz9 tyX9 tyX9_ok nmX9 (by decide) hl rfl rfl (by decide +kernel) rfl rfl (Nat.le_of_ble_eq_true rfl) rfl hdg kk
theorem mg_0_27 (C : CallFix p m c cc nL s args (c0 :: zw_all) own) (w : zg_W D cs A s (wM q cs u) H locs) (hl : Cond.fieldLink own index RX9 "owner" "[I" ∈ zw_all) (hdg : decode cc pc = .ok (.getfield index, 3)) (kk : W p l e R s m args below meth c H locs cells slots Q (F0 m (pc + 3) ls (.ref (q 9) :: rest))) : W p l e R s m args below meth c H locs cells slots Q (F0 m pc ls (.ref (q 0) :: rest)) := zr_get (k := 27) C w wM_c0 rfl inz9 (by decide) hl rfl rfl hdg kk
theorem mg_0_28 (C : CallFix p m c cc nL s args (c0 :: zw_all) own) (w : zg_W D cs A s (wM q cs u) H locs) (hl : Cond.fieldLink own index RX9 "milk" "[I" ∈ zw_all) (hdg : decode cc pc = .ok (.getfield index, 3)) (kk : W p l e R s m args below meth c H locs cells slots Q (F0 m (pc + 3) ls (.ref (q 10) :: rest))) : W p l e R s m args below meth c H locs cells slots Q (F0 m pc ls (.ref (q 0) :: rest)) := zr_get (k := 28) C w wM_c0 rfl inz9 (by decide) hl rfl rfl hdg kk
theorem mg_0_29 (C : CallFix p m c cc nL s args (c0 :: zw_all) own) (w : zg_W D cs A s (wM q cs u) H locs) (hl : Cond.fieldLink own index RX9 "wasDead" "[Z" ∈ zw_all) (hdg : decode cc pc = .ok (.getfield index, 3)) (kk : W p l e R s m args below meth c H locs cells slots Q (F0 m (pc + 3) ls (.ref (q 11) :: rest))) : W p l e R s m args below meth c H locs cells slots Q (F0 m pc ls (.ref (q 0) :: rest)) := zr_get (k := 29) C w wM_c0 rfl inz9 (by decide) hl rfl rfl hdg kk
theorem mg_0_30 (C : CallFix p m c cc nL s args (c0 :: zw_all) own) (w : zg_W D cs A s (wM q cs u) H locs) (hl : Cond.fieldLink own index RX9 "what" "[I" ∈ zw_all) (hdg : decode cc pc = .ok (.getfield index, 3)) (kk : W p l e R s m args below meth c H locs cells slots Q (F0 m (pc + 3) ls (.ref (q 12) :: rest))) : W p l e R s m args below meth c H locs cells slots Q (F0 m pc ls (.ref (q 0) :: rest)) := zr_get (k := 30) C w wM_c0 rfl inz9 (by decide) hl rfl rfl hdg kk
theorem mg_0_31 (C : CallFix p m c cc nL s args (c0 :: zw_all) own) (w : zg_W D cs A s (wM q cs u) H locs) (hl : Cond.fieldLink own index RX9 "of" "[I" ∈ zw_all) (hdg : decode cc pc = .ok (.getfield index, 3)) (kk : W p l e R s m args below meth c H locs cells slots Q (F0 m (pc + 3) ls (.ref (q 13) :: rest))) : W p l e R s m args below meth c H locs cells slots Q (F0 m pc ls (.ref (q 0) :: rest)) := zr_get (k := 31) C w wM_c0 rfl inz9 (by decide) hl rfl rfl hdg kk
theorem mg_0_32 (C : CallFix p m c cc nL s args (c0 :: zw_all) own) (w : zg_W D cs A s (wM q cs u) H locs) (hl : Cond.fieldLink own index RX9 "on" "[I" ∈ zw_all) (hdg : decode cc pc = .ok (.getfield index, 3)) (kk : W p l e R s m args below meth c H locs cells slots Q (F0 m (pc + 3) ls (.ref (q 14) :: rest))) : W p l e R s m args below meth c H locs cells slots Q (F0 m pc ls (.ref (q 0) :: rest)) := zr_get (k := 32) C w wM_c0 rfl inz9 (by decide) hl rfl rfl hdg kk
theorem mg_0_33 (C : CallFix p m c cc nL s args (c0 :: zw_all) own) (w : zg_W D cs A s (wM q cs u) H locs) (hl : Cond.fieldLink own index RX9 "to" "[I" ∈ zw_all) (hdg : decode cc pc = .ok (.getfield index, 3)) (kk : W p l e R s m args below meth c H locs cells slots Q (F0 m (pc + 3) ls (.ref (q 15) :: rest))) : W p l e R s m args below meth c H locs cells slots Q (F0 m pc ls (.ref (q 0) :: rest)) := zr_get (k := 33) C w wM_c0 rfl inz9 (by decide) hl rfl rfl hdg kk
theorem mg_0_34 (C : CallFix p m c cc nL s args (c0 :: zw_all) own) (w : zg_W D cs A s (wM q cs u) H locs) (hl : Cond.fieldLink own index RX9 "isUp" "Z" ∈ zw_all) (hdg : decode cc pc = .ok (.getfield index, 3)) (kk : W p l e R s m args below meth c H locs cells slots Q (F0 m (pc + 3) ls (.int (zs_i u 18) :: rest))) : W p l e R s m args below meth c H locs cells slots Q (F0 m pc ls (.ref (q 0) :: rest)) := zr_get (k := 34) C w wM_c0 rfl inz9 (by decide) hl rfl rfl hdg kk
theorem mp_0_34 (C : CallFix p m c cc nL s args (c0 :: zw_all) own) (w : zg_W D cs A s (wM q cs u) H locs) {v : Int32} (hz : zf_z v = true) (hl : Cond.fieldLink own index RX9 "isUp" "Z" ∈ zw_all) (hdg : decode cc pc = .ok (.putfield index, 3)) (kk : ∀ (H1 : Heap) (locs1 : List Loc), zg_W D cs A s (wM q cs (zs_si u 18 v)) H1 locs1 → W p l e R s m args below meth c H1 locs1 cells slots Q (F0 m (pc + 3) ls rest)) : W p l e R s m args below meth c H locs cells slots Q (F0 m pc ls (.int v :: .ref (q 0) :: rest)) := zr_put (k := 34) (ty := .boolean) C w wM_c0 rfl inz9 tyX9 tyX9_ok nmX9 (by decide) hl rfl rfl (by decide +kernel) (zf_z_nar hz) (zf_z_fit hz) (Nat.le_of_ble_eq_true rfl) rfl hdg kk
theorem mg_0_35 (C : CallFix p m c cc nL s args (c0 :: zw_all) own) (w : zg_W D cs A s (wM q cs u) H locs) (hl : Cond.fieldLink own index RX9 "isDead" "Z" ∈ zw_all) (hdg : decode cc pc = .ok (.getfield index, 3)) (kk : W p l e R s m args below meth c H locs cells slots Q (F0 m (pc + 3) ls (.int (zs_i u 19) :: rest))) : W p l e R s m args below meth c H locs cells slots Q (F0 m pc ls (.ref (q 0) :: rest)) := zr_get (k := 35) C w wM_c0 rfl inz9 (by decide) hl rfl rfl hdg kk
theorem mp_0_35 (C : CallFix p m c cc nL s args (c0 :: zw_all) own) (w : zg_W D cs A s (wM q cs u) H locs) {v : Int32} (hz : zf_z v = true) (hl : Cond.fieldLink own index RX9 "isDead" "Z" ∈ zw_all) (hdg : decode cc pc = .ok (.putfield index, 3)) (kk : ∀ (H1 : Heap) (locs1 : List Loc), zg_W D cs A s (wM q cs (zs_si u 19 v)) H1 locs1 → W p l e R s m args below meth c H1 locs1 cells slots Q (F0 m (pc + 3) ls rest)) : W p l e R s m args below meth c H locs cells slots Q (F0 m pc ls (.int v :: .ref (q 0) :: rest)) := zr_put (k := 35) (ty := .boolean) C w wM_c0 rfl inz9 tyX9 tyX9_ok nmX9 (by decide) hl rfl rfl (by decide +kernel) (zf_z_nar hz) (zf_z_fit hz) (Nat.le_of_ble_eq_true rfl) rfl hdg kk
theorem mg_0_36 (C : CallFix p m c cc nL s args (c0 :: zw_all) own) (w : zg_W D cs A s (wM q cs u) H locs) (hl : Cond.fieldLink own index RX9 "has" "I" ∈ zw_all) (hdg : decode cc pc = .ok (.getfield index, 3)) (kk : W p l e R s m args below meth c H locs cells slots Q (F0 m (pc + 3) ls (.int (zs_i u 20) :: rest))) : W p l e R s m args below meth c H locs cells slots Q (F0 m pc ls (.ref (q 0) :: rest)) := zr_get (k := 36) C w wM_c0 rfl inz9 (by decide) hl rfl rfl hdg kk
theorem mp_0_36 (C : CallFix p m c cc nL s args (c0 :: zw_all) own) (w : zg_W D cs A s (wM q cs u) H locs) {v : Int32} (hl : Cond.fieldLink own index RX9 "has" "I" ∈ zw_all) (hdg : decode cc pc = .ok (.putfield index, 3)) (kk : ∀ (H1 : Heap) (locs1 : List Loc), zg_W D cs A s (wM q cs (zs_si u 20 v)) H1 locs1 → W p l e R s m args below meth c H1 locs1 cells slots Q (F0 m (pc + 3) ls rest)) : W p l e R s m args below meth c H locs cells slots Q (F0 m pc ls (.int v :: .ref (q 0) :: rest)) := zr_put (k := 36) (ty := .int) C w wM_c0 rfl inz9 tyX9 tyX9_ok nmX9 (by decide) hl rfl rfl (by decide +kernel) rfl rfl (Nat.le_of_ble_eq_true rfl) rfl hdg kk
theorem mg_0_37 (C : CallFix p m c cc nL s args (c0 :: zw_all) own) (w : zg_W D cs A s (wM q cs u) H locs) (hl : Cond.fieldLink own index RX9 "daysOf" "[I" ∈ zw_all) (hdg : decode cc pc = .ok (.getfield index, 3)) (kk : W p l e R s m args below meth c H locs cells slots Q (F0 m (pc + 3) ls (.ref (q 16) :: rest))) : W p l e R s m args below meth c H locs cells slots Q (F0 m pc ls (.ref (q 0) :: rest)) := zr_get (k := 37) C w wM_c0 rfl inz9 (by decide) hl rfl rfl hdg kk
theorem mg_0_38 (C : CallFix p m c cc nL s args (c0 :: zw_all) own) (w : zg_W D cs A s (wM q cs u) H locs) (hl : Cond.fieldLink own index RX9 "parts" "[I" ∈ zw_all) (hdg : decode cc pc = .ok (.getfield index, 3)) (kk : W p l e R s m args below meth c H locs cells slots Q (F0 m (pc + 3) ls (.ref (q 17) :: rest))) : W p l e R s m args below meth c H locs cells slots Q (F0 m pc ls (.ref (q 0) :: rest)) := zr_get (k := 38) C w wM_c0 rfl inz9 (by decide) hl rfl rfl hdg kk
theorem mg_0_39 (C : CallFix p m c cc nL s args (c0 :: zw_all) own) (w : zg_W D cs A s (wM q cs u) H locs) (hl : Cond.fieldLink own index RX9 "turn" "[I" ∈ zw_all) (hdg : decode cc pc = .ok (.getfield index, 3)) (kk : W p l e R s m args below meth c H locs cells slots Q (F0 m (pc + 3) ls (.ref (q 18) :: rest))) : W p l e R s m args below meth c H locs cells slots Q (F0 m pc ls (.ref (q 0) :: rest)) := zr_get (k := 39) C w wM_c0 rfl inz9 (by decide) hl rfl rfl hdg kk
theorem mg_0_40 (C : CallFix p m c cc nL s args (c0 :: zw_all) own) (w : zg_W D cs A s (wM q cs u) H locs) (hl : Cond.fieldLink own index RX9 "cheeses" "[I" ∈ zw_all) (hdg : decode cc pc = .ok (.getfield index, 3)) (kk : W p l e R s m args below meth c H locs cells slots Q (F0 m (pc + 3) ls (.ref (q 19) :: rest))) : W p l e R s m args below meth c H locs cells slots Q (F0 m pc ls (.ref (q 0) :: rest)) := zr_get (k := 40) C w wM_c0 rfl inz9 (by decide) hl rfl rfl hdg kk
theorem mg_0_41 (C : CallFix p m c cc nL s args (c0 :: zw_all) own) (w : zg_W D cs A s (wM q cs u) H locs) (hl : Cond.fieldLink own index RX9 "latest" "[I" ∈ zw_all) (hdg : decode cc pc = .ok (.getfield index, 3)) (kk : W p l e R s m args below meth c H locs cells slots Q (F0 m (pc + 3) ls (.ref (q 20) :: rest))) : W p l e R s m args below meth c H locs cells slots Q (F0 m pc ls (.ref (q 0) :: rest)) := zr_get (k := 41) C w wM_c0 rfl inz9 (by decide) hl rfl rfl hdg kk
theorem mg_0_42 (C : CallFix p m c cc nL s args (c0 :: zw_all) own) (w : zg_W D cs A s (wM q cs u) H locs) (hl : Cond.fieldLink own index RX9 "balance" "[J" ∈ zw_all) (hdg : decode cc pc = .ok (.getfield index, 3)) (kk : W p l e R s m args below meth c H locs cells slots Q (F0 m (pc + 3) ls (.ref (q 21) :: rest))) : W p l e R s m args below meth c H locs cells slots Q (F0 m pc ls (.ref (q 0) :: rest)) := zr_get (k := 42) C w wM_c0 rfl inz9 (by decide) hl rfl rfl hdg kk
theorem mg_0_43 (C : CallFix p m c cc nL s args (c0 :: zw_all) own) (w : zg_W D cs A s (wM q cs u) H locs) (hl : Cond.fieldLink own index RX9 "money" "[J" ∈ zw_all) (hdg : decode cc pc = .ok (.getfield index, 3)) (kk : W p l e R s m args below meth c H locs cells slots Q (F0 m (pc + 3) ls (.ref (q 22) :: rest))) : W p l e R s m args below meth c H locs cells slots Q (F0 m pc ls (.ref (q 0) :: rest)) := zr_get (k := 43) C w wM_c0 rfl inz9 (by decide) hl rfl rfl hdg kk
theorem mg_0_44 (C : CallFix p m c cc nL s args (c0 :: zw_all) own) (w : zg_W D cs A s (wM q cs u) H locs) (hl : Cond.fieldLink own index RX9 "own" "J" ∈ zw_all) (hdg : decode cc pc = .ok (.getfield index, 3)) (kk : W p l e R s m args below meth c H locs cells slots Q (F0 m (pc + 3) ls (.long (zs_l u 1) :: rest))) : W p l e R s m args below meth c H locs cells slots Q (F0 m pc ls (.ref (q 0) :: rest)) := zr_get (k := 44) C w wM_c0 rfl inz9 (by decide) hl rfl rfl hdg kk
theorem mp_0_44 (C : CallFix p m c cc nL s args (c0 :: zw_all) own) (w : zg_W D cs A s (wM q cs u) H locs) {v : Int64} (hl : Cond.fieldLink own index RX9 "own" "J" ∈ zw_all) (hdg : decode cc pc = .ok (.putfield index, 3)) (kk : ∀ (H1 : Heap) (locs1 : List Loc), zg_W D cs A s (wM q cs (zs_sl u 1 v)) H1 locs1 → W p l e R s m args below meth c H1 locs1 cells slots Q (F0 m (pc + 3) ls rest)) : W p l e R s m args below meth c H locs cells slots Q (F0 m pc ls (.long v :: .ref (q 0) :: rest)) := zr_put (k := 44) (ty := .long) C w wM_c0 rfl inz9 tyX9 tyX9_ok nmX9 (by decide) hl rfl rfl (by decide +kernel) rfl rfl (Nat.le_of_ble_eq_true rfl) rfl hdg kk
theorem ma_1 (C : CallFix p m c cc nL s args (c0 :: zw_all) own) (w : zg_W D cs A s (wM q cs u) H locs) {i : Int32} (hi : zf_in i 40 = true) (hdg : decode cc pc = .ok (.baload, 1)) (kk : W p l e R s m args below meth c H locs cells slots Q (F0 m (pc + 1) ls (.int (zs_a u 0 i.toNatClampNeg) :: rest))) : W p l e R s m args below meth c H locs cells slots Q (F0 m pc ls (.int i :: .ref (q 1) :: rest)) := zr_bald C w wM_c1 hi hdg kk
theorem wM_s1 {q : Nat → Nat} {cs : Nat → ClassId} {u : zs_T} {f : Nat → Int32} : (wM q cs u).set 1 (q 1, .inl (cs 3, 40, .inl f)) = wM q cs (zs_sa u 0 f) := rfl
theorem ms_1 (C : CallFix p m c cc nL s args (c0 :: zw_all) own) (w : zg_W D cs A s (wM q cs u) H locs) {i : Int32} {x : Int32} (hi : zf_in i 40 = true) (hdg : decode cc pc = .ok (.bastore, 1)) (kk : ∀ (H1 : Heap) (locs1 : List Loc), zg_W D cs A s (wM q cs (zs_sa u 0 (upd (zs_a u 0) i.toNatClampNeg (vp_nar .byte x)))) H1 locs1 → W p l e R s m args below meth c H1 locs1 cells slots Q (F0 m (pc + 1) ls rest)) : W p l e R s m args below meth c H locs cells slots Q (F0 m pc ls (.int x :: .int i :: .ref (q 1) :: rest)) := zr_bast C w wM_c1 hi wM_s1 hdg kk
theorem ma_2 (C : CallFix p m c cc nL s args (c0 :: zw_all) own) (w : zg_W D cs A s (wM q cs u) H locs) {i : Int32} (hi : zf_in i 4 = true) (hdg : decode cc pc = .ok (.iaload, 1)) (kk : W p l e R s m args below meth c H locs cells slots Q (F0 m (pc + 1) ls (.int (zs_a u 1 i.toNatClampNeg) :: rest))) : W p l e R s m args below meth c H locs cells slots Q (F0 m pc ls (.int i :: .ref (q 2) :: rest)) := zr_iald C w wM_c2 hi hdg kk
theorem wM_s2 {q : Nat → Nat} {cs : Nat → ClassId} {u : zs_T} {f : Nat → Int32} : (wM q cs u).set 2 (q 2, .inl (cs 0, 4, .inl f)) = wM q cs (zs_sa u 1 f) := rfl
theorem ms_2 (C : CallFix p m c cc nL s args (c0 :: zw_all) own) (w : zg_W D cs A s (wM q cs u) H locs) {i : Int32} {x : Int32} (hi : zf_in i 4 = true) (hdg : decode cc pc = .ok (.iastore, 1)) (kk : ∀ (H1 : Heap) (locs1 : List Loc), zg_W D cs A s (wM q cs (zs_sa u 1 (upd (zs_a u 1) i.toNatClampNeg x))) H1 locs1 → W p l e R s m args below meth c H1 locs1 cells slots Q (F0 m (pc + 1) ls rest)) : W p l e R s m args below meth c H locs cells slots Q (F0 m pc ls (.int x :: .int i :: .ref (q 2) :: rest)) := zr_iast C w wM_c2 hi wM_s2 hdg kk
theorem ma_3 (C : CallFix p m c cc nL s args (c0 :: zw_all) own) (w : zg_W D cs A s (wM q cs u) H locs) {i : Int32} (hi : zf_in i 6 = true) (hdg : decode cc pc = .ok (.iaload, 1)) (kk : W p l e R s m args below meth c H locs cells slots Q (F0 m (pc + 1) ls (.int (zs_a u 2 i.toNatClampNeg) :: rest))) : W p l e R s m args below meth c H locs cells slots Q (F0 m pc ls (.int i :: .ref (q 3) :: rest)) := zr_iald C w wM_c3 hi hdg kk
theorem wM_s3 {q : Nat → Nat} {cs : Nat → ClassId} {u : zs_T} {f : Nat → Int32} : (wM q cs u).set 3 (q 3, .inl (cs 0, 6, .inl f)) = wM q cs (zs_sa u 2 f) := rfl
theorem ms_3 (C : CallFix p m c cc nL s args (c0 :: zw_all) own) (w : zg_W D cs A s (wM q cs u) H locs) {i : Int32} {x : Int32} (hi : zf_in i 6 = true) (hdg : decode cc pc = .ok (.iastore, 1)) (kk : ∀ (H1 : Heap) (locs1 : List Loc), zg_W D cs A s (wM q cs (zs_sa u 2 (upd (zs_a u 2) i.toNatClampNeg x))) H1 locs1 → W p l e R s m args below meth c H1 locs1 cells slots Q (F0 m (pc + 1) ls rest)) : W p l e R s m args below meth c H locs cells slots Q (F0 m pc ls (.int x :: .int i :: .ref (q 3) :: rest)) := zr_iast C w wM_c3 hi wM_s3 hdg kk
theorem ma_4 (C : CallFix p m c cc nL s args (c0 :: zw_all) own) (w : zg_W D cs A s (wM q cs u) H locs) {i : Int32} (hi : zf_in i 6 = true) (hdg : decode cc pc = .ok (.iaload, 1)) (kk : W p l e R s m args below meth c H locs cells slots Q (F0 m (pc + 1) ls (.int (zs_a u 3 i.toNatClampNeg) :: rest))) : W p l e R s m args below meth c H locs cells slots Q (F0 m pc ls (.int i :: .ref (q 4) :: rest)) := zr_iald C w wM_c4 hi hdg kk
theorem wM_s4 {q : Nat → Nat} {cs : Nat → ClassId} {u : zs_T} {f : Nat → Int32} : (wM q cs u).set 4 (q 4, .inl (cs 0, 6, .inl f)) = wM q cs (zs_sa u 3 f) := rfl
theorem ms_4 (C : CallFix p m c cc nL s args (c0 :: zw_all) own) (w : zg_W D cs A s (wM q cs u) H locs) {i : Int32} {x : Int32} (hi : zf_in i 6 = true) (hdg : decode cc pc = .ok (.iastore, 1)) (kk : ∀ (H1 : Heap) (locs1 : List Loc), zg_W D cs A s (wM q cs (zs_sa u 3 (upd (zs_a u 3) i.toNatClampNeg x))) H1 locs1 → W p l e R s m args below meth c H1 locs1 cells slots Q (F0 m (pc + 1) ls rest)) : W p l e R s m args below meth c H locs cells slots Q (F0 m pc ls (.int x :: .int i :: .ref (q 4) :: rest)) := zr_iast C w wM_c4 hi wM_s4 hdg kk
theorem ma_5 (C : CallFix p m c cc nL s args (c0 :: zw_all) own) (w : zg_W D cs A s (wM q cs u) H locs) {i : Int32} (hi : zf_in i 6 = true) (hdg : decode cc pc = .ok (.iaload, 1)) (kk : W p l e R s m args below meth c H locs cells slots Q (F0 m (pc + 1) ls (.int (zs_a u 4 i.toNatClampNeg) :: rest))) : W p l e R s m args below meth c H locs cells slots Q (F0 m pc ls (.int i :: .ref (q 5) :: rest)) := zr_iald C w wM_c5 hi hdg kk
theorem wM_s5 {q : Nat → Nat} {cs : Nat → ClassId} {u : zs_T} {f : Nat → Int32} : (wM q cs u).set 5 (q 5, .inl (cs 0, 6, .inl f)) = wM q cs (zs_sa u 4 f) := rfl
theorem ms_5 (C : CallFix p m c cc nL s args (c0 :: zw_all) own) (w : zg_W D cs A s (wM q cs u) H locs) {i : Int32} {x : Int32} (hi : zf_in i 6 = true) (hdg : decode cc pc = .ok (.iastore, 1)) (kk : ∀ (H1 : Heap) (locs1 : List Loc), zg_W D cs A s (wM q cs (zs_sa u 4 (upd (zs_a u 4) i.toNatClampNeg x))) H1 locs1 → W p l e R s m args below meth c H1 locs1 cells slots Q (F0 m (pc + 1) ls rest)) : W p l e R s m args below meth c H locs cells slots Q (F0 m pc ls (.int x :: .int i :: .ref (q 5) :: rest)) := zr_iast C w wM_c5 hi wM_s5 hdg kk
theorem ma_6 (C : CallFix p m c cc nL s args (c0 :: zw_all) own) (w : zg_W D cs A s (wM q cs u) H locs) {i : Int32} (hi : zf_in i 6 = true) (hdg : decode cc pc = .ok (.iaload, 1)) (kk : W p l e R s m args below meth c H locs cells slots Q (F0 m (pc + 1) ls (.int (zs_a u 5 i.toNatClampNeg) :: rest))) : W p l e R s m args below meth c H locs cells slots Q (F0 m pc ls (.int i :: .ref (q 6) :: rest)) := zr_iald C w wM_c6 hi hdg kk
theorem wM_s6 {q : Nat → Nat} {cs : Nat → ClassId} {u : zs_T} {f : Nat → Int32} : (wM q cs u).set 6 (q 6, .inl (cs 0, 6, .inl f)) = wM q cs (zs_sa u 5 f) := rfl
theorem ms_6 (C : CallFix p m c cc nL s args (c0 :: zw_all) own) (w : zg_W D cs A s (wM q cs u) H locs) {i : Int32} {x : Int32} (hi : zf_in i 6 = true) (hdg : decode cc pc = .ok (.iastore, 1)) (kk : ∀ (H1 : Heap) (locs1 : List Loc), zg_W D cs A s (wM q cs (zs_sa u 5 (upd (zs_a u 5) i.toNatClampNeg x))) H1 locs1 → W p l e R s m args below meth c H1 locs1 cells slots Q (F0 m (pc + 1) ls rest)) : W p l e R s m args below meth c H locs cells slots Q (F0 m pc ls (.int x :: .int i :: .ref (q 6) :: rest)) := zr_iast C w wM_c6 hi wM_s6 hdg kk
theorem ma_7 (C : CallFix p m c cc nL s args (c0 :: zw_all) own) (w : zg_W D cs A s (wM q cs u) H locs) {i : Int32} (hi : zf_in i 8 = true) (hdg : decode cc pc = .ok (.iaload, 1)) (kk : W p l e R s m args below meth c H locs cells slots Q (F0 m (pc + 1) ls (.int (zs_a u 6 i.toNatClampNeg) :: rest))) : W p l e R s m args below meth c H locs cells slots Q (F0 m pc ls (.int i :: .ref (q 7) :: rest)) := zr_iald C w wM_c7 hi hdg kk
theorem wM_s7 {q : Nat → Nat} {cs : Nat → ClassId} {u : zs_T} {f : Nat → Int32} : (wM q cs u).set 7 (q 7, .inl (cs 0, 8, .inl f)) = wM q cs (zs_sa u 6 f) := rfl
theorem ms_7 (C : CallFix p m c cc nL s args (c0 :: zw_all) own) (w : zg_W D cs A s (wM q cs u) H locs) {i : Int32} {x : Int32} (hi : zf_in i 8 = true) (hdg : decode cc pc = .ok (.iastore, 1)) (kk : ∀ (H1 : Heap) (locs1 : List Loc), zg_W D cs A s (wM q cs (zs_sa u 6 (upd (zs_a u 6) i.toNatClampNeg x))) H1 locs1 → W p l e R s m args below meth c H1 locs1 cells slots Q (F0 m (pc + 1) ls rest)) : W p l e R s m args below meth c H locs cells slots Q (F0 m pc ls (.int x :: .int i :: .ref (q 7) :: rest)) := zr_iast C w wM_c7 hi wM_s7 hdg kk
theorem ma_8 (C : CallFix p m c cc nL s args (c0 :: zw_all) own) (w : zg_W D cs A s (wM q cs u) H locs) {i : Int32} (hi : zf_in i 8 = true) (hdg : decode cc pc = .ok (.iaload, 1)) (kk : W p l e R s m args below meth c H locs cells slots Q (F0 m (pc + 1) ls (.int (zs_a u 7 i.toNatClampNeg) :: rest))) : W p l e R s m args below meth c H locs cells slots Q (F0 m pc ls (.int i :: .ref (q 8) :: rest)) := zr_iald C w wM_c8 hi hdg kk
theorem wM_s8 {q : Nat → Nat} {cs : Nat → ClassId} {u : zs_T} {f : Nat → Int32} : (wM q cs u).set 8 (q 8, .inl (cs 0, 8, .inl f)) = wM q cs (zs_sa u 7 f) := rfl
theorem ms_8 (C : CallFix p m c cc nL s args (c0 :: zw_all) own) (w : zg_W D cs A s (wM q cs u) H locs) {i : Int32} {x : Int32} (hi : zf_in i 8 = true) (hdg : decode cc pc = .ok (.iastore, 1)) (kk : ∀ (H1 : Heap) (locs1 : List Loc), zg_W D cs A s (wM q cs (zs_sa u 7 (upd (zs_a u 7) i.toNatClampNeg x))) H1 locs1 → W p l e R s m args below meth c H1 locs1 cells slots Q (F0 m (pc + 1) ls rest)) : W p l e R s m args below meth c H locs cells slots Q (F0 m pc ls (.int x :: .int i :: .ref (q 8) :: rest)) := zr_iast C w wM_c8 hi wM_s8 hdg kk
theorem ma_9 (C : CallFix p m c cc nL s args (c0 :: zw_all) own) (w : zg_W D cs A s (wM q cs u) H locs) {i : Int32} (hi : zf_in i 80 = true) (hdg : decode cc pc = .ok (.iaload, 1)) (kk : W p l e R s m args below meth c H locs cells slots Q (F0 m (pc + 1) ls (.int (zs_a u 8 i.toNatClampNeg) :: rest))) : W p l e R s m args below meth c H locs cells slots Q (F0 m pc ls (.int i :: .ref (q 9) :: rest)) := zr_iald C w wM_c9 hi hdg kk
theorem wM_s9 {q : Nat → Nat} {cs : Nat → ClassId} {u : zs_T} {f : Nat → Int32} : (wM q cs u).set 9 (q 9, .inl (cs 0, 80, .inl f)) = wM q cs (zs_sa u 8 f) := rfl
theorem ms_9 (C : CallFix p m c cc nL s args (c0 :: zw_all) own) (w : zg_W D cs A s (wM q cs u) H locs) {i : Int32} {x : Int32} (hi : zf_in i 80 = true) (hdg : decode cc pc = .ok (.iastore, 1)) (kk : ∀ (H1 : Heap) (locs1 : List Loc), zg_W D cs A s (wM q cs (zs_sa u 8 (upd (zs_a u 8) i.toNatClampNeg x))) H1 locs1 → W p l e R s m args below meth c H1 locs1 cells slots Q (F0 m (pc + 1) ls rest)) : W p l e R s m args below meth c H locs cells slots Q (F0 m pc ls (.int x :: .int i :: .ref (q 9) :: rest)) := zr_iast C w wM_c9 hi wM_s9 hdg kk
theorem ma_10 (C : CallFix p m c cc nL s args (c0 :: zw_all) own) (w : zg_W D cs A s (wM q cs u) H locs) {i : Int32} (hi : zf_in i 80 = true) (hdg : decode cc pc = .ok (.iaload, 1)) (kk : W p l e R s m args below meth c H locs cells slots Q (F0 m (pc + 1) ls (.int (zs_a u 9 i.toNatClampNeg) :: rest))) : W p l e R s m args below meth c H locs cells slots Q (F0 m pc ls (.int i :: .ref (q 10) :: rest)) := zr_iald C w wM_c10 hi hdg kk
theorem wM_s10 {q : Nat → Nat} {cs : Nat → ClassId} {u : zs_T} {f : Nat → Int32} : (wM q cs u).set 10 (q 10, .inl (cs 0, 80, .inl f)) = wM q cs (zs_sa u 9 f) := rfl
theorem ms_10 (C : CallFix p m c cc nL s args (c0 :: zw_all) own) (w : zg_W D cs A s (wM q cs u) H locs) {i : Int32} {x : Int32} (hi : zf_in i 80 = true) (hdg : decode cc pc = .ok (.iastore, 1)) (kk : ∀ (H1 : Heap) (locs1 : List Loc), zg_W D cs A s (wM q cs (zs_sa u 9 (upd (zs_a u 9) i.toNatClampNeg x))) H1 locs1 → W p l e R s m args below meth c H1 locs1 cells slots Q (F0 m (pc + 1) ls rest)) : W p l e R s m args below meth c H locs cells slots Q (F0 m pc ls (.int x :: .int i :: .ref (q 10) :: rest)) := zr_iast C w wM_c10 hi wM_s10 hdg kk
theorem ma_11 (C : CallFix p m c cc nL s args (c0 :: zw_all) own) (w : zg_W D cs A s (wM q cs u) H locs) {i : Int32} (hi : zf_in i 80 = true) (hdg : decode cc pc = .ok (.baload, 1)) (kk : W p l e R s m args below meth c H locs cells slots Q (F0 m (pc + 1) ls (.int (zs_a u 10 i.toNatClampNeg) :: rest))) : W p l e R s m args below meth c H locs cells slots Q (F0 m pc ls (.int i :: .ref (q 11) :: rest)) := zr_zald C w wM_c11 hi hdg kk
theorem wM_s11 {q : Nat → Nat} {cs : Nat → ClassId} {u : zs_T} {f : Nat → Int32} : (wM q cs u).set 11 (q 11, .inl (cs 2, 80, .inl f)) = wM q cs (zs_sa u 10 f) := rfl
theorem ms_11 (C : CallFix p m c cc nL s args (c0 :: zw_all) own) (w : zg_W D cs A s (wM q cs u) H locs) {i : Int32} {x : Int32} (hi : zf_in i 80 = true) (hz : zf_z x = true) (hdg : decode cc pc = .ok (.bastore, 1)) (kk : ∀ (H1 : Heap) (locs1 : List Loc), zg_W D cs A s (wM q cs (zs_sa u 10 (upd (zs_a u 10) i.toNatClampNeg x))) H1 locs1 → W p l e R s m args below meth c H1 locs1 cells slots Q (F0 m (pc + 1) ls rest)) : W p l e R s m args below meth c H locs cells slots Q (F0 m pc ls (.int x :: .int i :: .ref (q 11) :: rest)) := zr_zast C w wM_c11 hi hz wM_s11 hdg kk
theorem ma_12 (C : CallFix p m c cc nL s args (c0 :: zw_all) own) (w : zg_W D cs A s (wM q cs u) H locs) {i : Int32} (hi : zf_in i 100 = true) (hdg : decode cc pc = .ok (.iaload, 1)) (kk : W p l e R s m args below meth c H locs cells slots Q (F0 m (pc + 1) ls (.int (zs_a u 11 i.toNatClampNeg) :: rest))) : W p l e R s m args below meth c H locs cells slots Q (F0 m pc ls (.int i :: .ref (q 12) :: rest)) := zr_iald C w wM_c12 hi hdg kk
theorem wM_s12 {q : Nat → Nat} {cs : Nat → ClassId} {u : zs_T} {f : Nat → Int32} : (wM q cs u).set 12 (q 12, .inl (cs 0, 100, .inl f)) = wM q cs (zs_sa u 11 f) := rfl
theorem ms_12 (C : CallFix p m c cc nL s args (c0 :: zw_all) own) (w : zg_W D cs A s (wM q cs u) H locs) {i : Int32} {x : Int32} (hi : zf_in i 100 = true) (hdg : decode cc pc = .ok (.iastore, 1)) (kk : ∀ (H1 : Heap) (locs1 : List Loc), zg_W D cs A s (wM q cs (zs_sa u 11 (upd (zs_a u 11) i.toNatClampNeg x))) H1 locs1 → W p l e R s m args below meth c H1 locs1 cells slots Q (F0 m (pc + 1) ls rest)) : W p l e R s m args below meth c H locs cells slots Q (F0 m pc ls (.int x :: .int i :: .ref (q 12) :: rest)) := zr_iast C w wM_c12 hi wM_s12 hdg kk
theorem ma_13 (C : CallFix p m c cc nL s args (c0 :: zw_all) own) (w : zg_W D cs A s (wM q cs u) H locs) {i : Int32} (hi : zf_in i 100 = true) (hdg : decode cc pc = .ok (.iaload, 1)) (kk : W p l e R s m args below meth c H locs cells slots Q (F0 m (pc + 1) ls (.int (zs_a u 12 i.toNatClampNeg) :: rest))) : W p l e R s m args below meth c H locs cells slots Q (F0 m pc ls (.int i :: .ref (q 13) :: rest)) := zr_iald C w wM_c13 hi hdg kk
theorem wM_s13 {q : Nat → Nat} {cs : Nat → ClassId} {u : zs_T} {f : Nat → Int32} : (wM q cs u).set 13 (q 13, .inl (cs 0, 100, .inl f)) = wM q cs (zs_sa u 12 f) := rfl
theorem ms_13 (C : CallFix p m c cc nL s args (c0 :: zw_all) own) (w : zg_W D cs A s (wM q cs u) H locs) {i : Int32} {x : Int32} (hi : zf_in i 100 = true) (hdg : decode cc pc = .ok (.iastore, 1)) (kk : ∀ (H1 : Heap) (locs1 : List Loc), zg_W D cs A s (wM q cs (zs_sa u 12 (upd (zs_a u 12) i.toNatClampNeg x))) H1 locs1 → W p l e R s m args below meth c H1 locs1 cells slots Q (F0 m (pc + 1) ls rest)) : W p l e R s m args below meth c H locs cells slots Q (F0 m pc ls (.int x :: .int i :: .ref (q 13) :: rest)) := zr_iast C w wM_c13 hi wM_s13 hdg kk
theorem ma_14 (C : CallFix p m c cc nL s args (c0 :: zw_all) own) (w : zg_W D cs A s (wM q cs u) H locs) {i : Int32} (hi : zf_in i 100 = true) (hdg : decode cc pc = .ok (.iaload, 1)) (kk : W p l e R s m args below meth c H locs cells slots Q (F0 m (pc + 1) ls (.int (zs_a u 13 i.toNatClampNeg) :: rest))) : W p l e R s m args below meth c H locs cells slots Q (F0 m pc ls (.int i :: .ref (q 14) :: rest)) := zr_iald C w wM_c14 hi hdg kk
theorem wM_s14 {q : Nat → Nat} {cs : Nat → ClassId} {u : zs_T} {f : Nat → Int32} : (wM q cs u).set 14 (q 14, .inl (cs 0, 100, .inl f)) = wM q cs (zs_sa u 13 f) := rfl
theorem ms_14 (C : CallFix p m c cc nL s args (c0 :: zw_all) own) (w : zg_W D cs A s (wM q cs u) H locs) {i : Int32} {x : Int32} (hi : zf_in i 100 = true) (hdg : decode cc pc = .ok (.iastore, 1)) (kk : ∀ (H1 : Heap) (locs1 : List Loc), zg_W D cs A s (wM q cs (zs_sa u 13 (upd (zs_a u 13) i.toNatClampNeg x))) H1 locs1 → W p l e R s m args below meth c H1 locs1 cells slots Q (F0 m (pc + 1) ls rest)) : W p l e R s m args below meth c H locs cells slots Q (F0 m pc ls (.int x :: .int i :: .ref (q 14) :: rest)) := zr_iast C w wM_c14 hi wM_s14 hdg kk
theorem ma_15 (C : CallFix p m c cc nL s args (c0 :: zw_all) own) (w : zg_W D cs A s (wM q cs u) H locs) {i : Int32} (hi : zf_in i 100 = true) (hdg : decode cc pc = .ok (.iaload, 1)) (kk : W p l e R s m args below meth c H locs cells slots Q (F0 m (pc + 1) ls (.int (zs_a u 14 i.toNatClampNeg) :: rest))) : W p l e R s m args below meth c H locs cells slots Q (F0 m pc ls (.int i :: .ref (q 15) :: rest)) := zr_iald C w wM_c15 hi hdg kk
theorem wM_s15 {q : Nat → Nat} {cs : Nat → ClassId} {u : zs_T} {f : Nat → Int32} : (wM q cs u).set 15 (q 15, .inl (cs 0, 100, .inl f)) = wM q cs (zs_sa u 14 f) := rfl
theorem ms_15 (C : CallFix p m c cc nL s args (c0 :: zw_all) own) (w : zg_W D cs A s (wM q cs u) H locs) {i : Int32} {x : Int32} (hi : zf_in i 100 = true) (hdg : decode cc pc = .ok (.iastore, 1)) (kk : ∀ (H1 : Heap) (locs1 : List Loc), zg_W D cs A s (wM q cs (zs_sa u 14 (upd (zs_a u 14) i.toNatClampNeg x))) H1 locs1 → W p l e R s m args below meth c H1 locs1 cells slots Q (F0 m (pc + 1) ls rest)) : W p l e R s m args below meth c H locs cells slots Q (F0 m pc ls (.int x :: .int i :: .ref (q 15) :: rest)) := zr_iast C w wM_c15 hi wM_s15 hdg kk
theorem ma_16 (C : CallFix p m c cc nL s args (c0 :: zw_all) own) (w : zg_W D cs A s (wM q cs u) H locs) {i : Int32} (hi : zf_in i 12 = true) (hdg : decode cc pc = .ok (.iaload, 1)) (kk : W p l e R s m args below meth c H locs cells slots Q (F0 m (pc + 1) ls (.int (zs_a u 15 i.toNatClampNeg) :: rest))) : W p l e R s m args below meth c H locs cells slots Q (F0 m pc ls (.int i :: .ref (q 16) :: rest)) := zr_iald C w wM_c16 hi hdg kk
theorem wM_s16 {q : Nat → Nat} {cs : Nat → ClassId} {u : zs_T} {f : Nat → Int32} : (wM q cs u).set 16 (q 16, .inl (cs 0, 12, .inl f)) = wM q cs (zs_sa u 15 f) := rfl
theorem ms_16 (C : CallFix p m c cc nL s args (c0 :: zw_all) own) (w : zg_W D cs A s (wM q cs u) H locs) {i : Int32} {x : Int32} (hi : zf_in i 12 = true) (hdg : decode cc pc = .ok (.iastore, 1)) (kk : ∀ (H1 : Heap) (locs1 : List Loc), zg_W D cs A s (wM q cs (zs_sa u 15 (upd (zs_a u 15) i.toNatClampNeg x))) H1 locs1 → W p l e R s m args below meth c H1 locs1 cells slots Q (F0 m (pc + 1) ls rest)) : W p l e R s m args below meth c H locs cells slots Q (F0 m pc ls (.int x :: .int i :: .ref (q 16) :: rest)) := zr_iast C w wM_c16 hi wM_s16 hdg kk
theorem ma_17 (C : CallFix p m c cc nL s args (c0 :: zw_all) own) (w : zg_W D cs A s (wM q cs u) H locs) {i : Int32} (hi : zf_in i 12 = true) (hdg : decode cc pc = .ok (.iaload, 1)) (kk : W p l e R s m args below meth c H locs cells slots Q (F0 m (pc + 1) ls (.int (zs_a u 16 i.toNatClampNeg) :: rest))) : W p l e R s m args below meth c H locs cells slots Q (F0 m pc ls (.int i :: .ref (q 17) :: rest)) := zr_iald C w wM_c17 hi hdg kk
theorem wM_s17 {q : Nat → Nat} {cs : Nat → ClassId} {u : zs_T} {f : Nat → Int32} : (wM q cs u).set 17 (q 17, .inl (cs 0, 12, .inl f)) = wM q cs (zs_sa u 16 f) := rfl
theorem ms_17 (C : CallFix p m c cc nL s args (c0 :: zw_all) own) (w : zg_W D cs A s (wM q cs u) H locs) {i : Int32} {x : Int32} (hi : zf_in i 12 = true) (hdg : decode cc pc = .ok (.iastore, 1)) (kk : ∀ (H1 : Heap) (locs1 : List Loc), zg_W D cs A s (wM q cs (zs_sa u 16 (upd (zs_a u 16) i.toNatClampNeg x))) H1 locs1 → W p l e R s m args below meth c H1 locs1 cells slots Q (F0 m (pc + 1) ls rest)) : W p l e R s m args below meth c H locs cells slots Q (F0 m pc ls (.int x :: .int i :: .ref (q 17) :: rest)) := zr_iast C w wM_c17 hi wM_s17 hdg kk
theorem ma_18 (C : CallFix p m c cc nL s args (c0 :: zw_all) own) (w : zg_W D cs A s (wM q cs u) H locs) {i : Int32} (hi : zf_in i 12 = true) (hdg : decode cc pc = .ok (.iaload, 1)) (kk : W p l e R s m args below meth c H locs cells slots Q (F0 m (pc + 1) ls (.int (zs_a u 17 i.toNatClampNeg) :: rest))) : W p l e R s m args below meth c H locs cells slots Q (F0 m pc ls (.int i :: .ref (q 18) :: rest)) := zr_iald C w wM_c18 hi hdg kk
theorem wM_s18 {q : Nat → Nat} {cs : Nat → ClassId} {u : zs_T} {f : Nat → Int32} : (wM q cs u).set 18 (q 18, .inl (cs 0, 12, .inl f)) = wM q cs (zs_sa u 17 f) := rfl
theorem ms_18 (C : CallFix p m c cc nL s args (c0 :: zw_all) own) (w : zg_W D cs A s (wM q cs u) H locs) {i : Int32} {x : Int32} (hi : zf_in i 12 = true) (hdg : decode cc pc = .ok (.iastore, 1)) (kk : ∀ (H1 : Heap) (locs1 : List Loc), zg_W D cs A s (wM q cs (zs_sa u 17 (upd (zs_a u 17) i.toNatClampNeg x))) H1 locs1 → W p l e R s m args below meth c H1 locs1 cells slots Q (F0 m (pc + 1) ls rest)) : W p l e R s m args below meth c H locs cells slots Q (F0 m pc ls (.int x :: .int i :: .ref (q 18) :: rest)) := zr_iast C w wM_c18 hi wM_s18 hdg kk
theorem ma_19 (C : CallFix p m c cc nL s args (c0 :: zw_all) own) (w : zg_W D cs A s (wM q cs u) H locs) {i : Int32} (hi : zf_in i 12 = true) (hdg : decode cc pc = .ok (.iaload, 1)) (kk : W p l e R s m args below meth c H locs cells slots Q (F0 m (pc + 1) ls (.int (zs_a u 18 i.toNatClampNeg) :: rest))) : W p l e R s m args below meth c H locs cells slots Q (F0 m pc ls (.int i :: .ref (q 19) :: rest)) := zr_iald C w wM_c19 hi hdg kk
theorem wM_s19 {q : Nat → Nat} {cs : Nat → ClassId} {u : zs_T} {f : Nat → Int32} : (wM q cs u).set 19 (q 19, .inl (cs 0, 12, .inl f)) = wM q cs (zs_sa u 18 f) := rfl
theorem ms_19 (C : CallFix p m c cc nL s args (c0 :: zw_all) own) (w : zg_W D cs A s (wM q cs u) H locs) {i : Int32} {x : Int32} (hi : zf_in i 12 = true) (hdg : decode cc pc = .ok (.iastore, 1)) (kk : ∀ (H1 : Heap) (locs1 : List Loc), zg_W D cs A s (wM q cs (zs_sa u 18 (upd (zs_a u 18) i.toNatClampNeg x))) H1 locs1 → W p l e R s m args below meth c H1 locs1 cells slots Q (F0 m (pc + 1) ls rest)) : W p l e R s m args below meth c H locs cells slots Q (F0 m pc ls (.int x :: .int i :: .ref (q 19) :: rest)) := zr_iast C w wM_c19 hi wM_s19 hdg kk
theorem ma_20 (C : CallFix p m c cc nL s args (c0 :: zw_all) own) (w : zg_W D cs A s (wM q cs u) H locs) {i : Int32} (hi : zf_in i 12 = true) (hdg : decode cc pc = .ok (.iaload, 1)) (kk : W p l e R s m args below meth c H locs cells slots Q (F0 m (pc + 1) ls (.int (zs_a u 19 i.toNatClampNeg) :: rest))) : W p l e R s m args below meth c H locs cells slots Q (F0 m pc ls (.int i :: .ref (q 20) :: rest)) := zr_iald C w wM_c20 hi hdg kk
theorem wM_s20 {q : Nat → Nat} {cs : Nat → ClassId} {u : zs_T} {f : Nat → Int32} : (wM q cs u).set 20 (q 20, .inl (cs 0, 12, .inl f)) = wM q cs (zs_sa u 19 f) := rfl
theorem ms_20 (C : CallFix p m c cc nL s args (c0 :: zw_all) own) (w : zg_W D cs A s (wM q cs u) H locs) {i : Int32} {x : Int32} (hi : zf_in i 12 = true) (hdg : decode cc pc = .ok (.iastore, 1)) (kk : ∀ (H1 : Heap) (locs1 : List Loc), zg_W D cs A s (wM q cs (zs_sa u 19 (upd (zs_a u 19) i.toNatClampNeg x))) H1 locs1 → W p l e R s m args below meth c H1 locs1 cells slots Q (F0 m (pc + 1) ls rest)) : W p l e R s m args below meth c H locs cells slots Q (F0 m pc ls (.int x :: .int i :: .ref (q 20) :: rest)) := zr_iast C w wM_c20 hi wM_s20 hdg kk
theorem ma_21 (C : CallFix p m c cc nL s args (c0 :: zw_all) own) (w : zg_W D cs A s (wM q cs u) H locs) {i : Int32} (hi : zf_in i 12 = true) (hdg : decode cc pc = .ok (.laload, 1)) (kk : W p l e R s m args below meth c H locs cells slots Q (F0 m (pc + 1) ls (.long (zs_b u 0 i.toNatClampNeg) :: rest))) : W p l e R s m args below meth c H locs cells slots Q (F0 m pc ls (.int i :: .ref (q 21) :: rest)) := zr_lald C w wM_c21 hi hdg kk
theorem wM_s21 {q : Nat → Nat} {cs : Nat → ClassId} {u : zs_T} {f : Nat → Int64} : (wM q cs u).set 21 (q 21, .inl (cs 1, 12, .inr (.inl f))) = wM q cs (zs_sb u 0 f) := rfl
theorem ms_21 (C : CallFix p m c cc nL s args (c0 :: zw_all) own) (w : zg_W D cs A s (wM q cs u) H locs) {i : Int32} {x : Int64} (hi : zf_in i 12 = true) (hdg : decode cc pc = .ok (.lastore, 1)) (kk : ∀ (H1 : Heap) (locs1 : List Loc), zg_W D cs A s (wM q cs (zs_sb u 0 (vp_updL (zs_b u 0) i.toNatClampNeg x))) H1 locs1 → W p l e R s m args below meth c H1 locs1 cells slots Q (F0 m (pc + 1) ls rest)) : W p l e R s m args below meth c H locs cells slots Q (F0 m pc ls (.long x :: .int i :: .ref (q 21) :: rest)) := zr_last C w wM_c21 hi wM_s21 hdg kk
theorem ma_22 (C : CallFix p m c cc nL s args (c0 :: zw_all) own) (w : zg_W D cs A s (wM q cs u) H locs) {i : Int32} (hi : zf_in i 12 = true) (hdg : decode cc pc = .ok (.laload, 1)) (kk : W p l e R s m args below meth c H locs cells slots Q (F0 m (pc + 1) ls (.long (zs_b u 1 i.toNatClampNeg) :: rest))) : W p l e R s m args below meth c H locs cells slots Q (F0 m pc ls (.int i :: .ref (q 22) :: rest)) := zr_lald C w wM_c22 hi hdg kk
theorem wM_s22 {q : Nat → Nat} {cs : Nat → ClassId} {u : zs_T} {f : Nat → Int64} : (wM q cs u).set 22 (q 22, .inl (cs 1, 12, .inr (.inl f))) = wM q cs (zs_sb u 1 f) := rfl
theorem ms_22 (C : CallFix p m c cc nL s args (c0 :: zw_all) own) (w : zg_W D cs A s (wM q cs u) H locs) {i : Int32} {x : Int64} (hi : zf_in i 12 = true) (hdg : decode cc pc = .ok (.lastore, 1)) (kk : ∀ (H1 : Heap) (locs1 : List Loc), zg_W D cs A s (wM q cs (zs_sb u 1 (vp_updL (zs_b u 1) i.toNatClampNeg x))) H1 locs1 → W p l e R s m args below meth c H1 locs1 cells slots Q (F0 m (pc + 1) ls rest)) : W p l e R s m args below meth c H locs cells slots Q (F0 m pc ls (.long x :: .int i :: .ref (q 22) :: rest)) := zr_last C w wM_c22 hi wM_s22 hdg kk
end ZWM
end
section
/-- Arrays.fill(int[], int) -/
def yA_fill : MethodName := ⟨"java/util/Arrays", "fill", "([II)V"⟩
abbrev cA_fill : ByteArray := prog_14_method_103_code
theorem dA_fill_0 : decode cA_fill 0 = .ok (.iconst 0, 1) := by decide +kernel
theorem dA_fill_1 : decode cA_fill 1 = .ok (.istore_n 2, 1) := by decide +kernel
theorem dA_fill_2 : decode cA_fill 2 = .ok (.aload_n 0, 1) := by decide +kernel
theorem dA_fill_3 : decode cA_fill 3 = .ok (.arraylength, 1) := by decide +kernel
theorem dA_fill_4 : decode cA_fill 4 = .ok (.istore_n 3, 1) := by decide +kernel
theorem dA_fill_5 : decode cA_fill 5 = .ok (.iload_n 2, 1) := by decide +kernel
theorem dA_fill_6 : decode cA_fill 6 = .ok (.iload_n 3, 1) := by decide +kernel
theorem dA_fill_7 : decode cA_fill 7 = .ok (.if_icmp .ge 13, 3) := by decide +kernel
theorem dA_fill_10 : decode cA_fill 10 = .ok (.aload_n 0, 1) := by decide +kernel
theorem dA_fill_11 : decode cA_fill 11 = .ok (.iload_n 2, 1) := by decide +kernel
theorem dA_fill_12 : decode cA_fill 12 = .ok (.iload_n 1, 1) := by decide +kernel
theorem dA_fill_13 : decode cA_fill 13 = .ok (.iastore, 1) := by decide +kernel
theorem dA_fill_14 : decode cA_fill 14 = .ok (.iinc 2 1, 3) := by decide +kernel
theorem dA_fill_17 : decode cA_fill 17 = .ok (.goto (-12), 3) := by decide +kernel
theorem dA_fill_20 : decode cA_fill 20 = .ok (.return_, 1) := by decide +kernel
def zf_fill (n : Nat) (v : Int32) (f : Nat → Int32) : Nat → Int32 := fun i => if i < n then v else f i
theorem zs_a_sa (u : zs_T) (k : Nat) (f : Nat → Int32) : zs_a (zs_sa u k f) k = f := by simp [zs_a, zs_sa, va_up]
theorem zs_sa_sa (u : zs_T) (k : Nat) (f g : Nat → Int32) : zs_sa (zs_sa u k f) k g = zs_sa u k g := by simp [zs_sa, bx_uu]
theorem zs_sa_self (u : zs_T) (k : Nat) : zs_sa u k (zs_a u k) = u := by
  have h : va_up u.2.2.1 k (u.2.2.1 k) = u.2.2.1 := by funext j; simp only [va_up]; split <;> simp_all
  simp [zs_sa, zs_a, h]
theorem zf_fill_0 (v : Int32) (f : Nat → Int32) : zf_fill 0 v f = f := by funext j; simp [zf_fill]
theorem zf_fill_s (i : Nat) (v : Int32) (f : Nat → Int32) : upd (zf_fill i v f) i v = zf_fill (i + 1) v f := by
  funext j
  simp only [upd, zf_fill]
  by_cases h : j = i
  · subst h; simp
  · rw [if_neg h]
    by_cases h2 : j < i
    · rw [if_pos h2, if_pos (by omega)]
    · rw [if_neg h2, if_neg (by omega)]
theorem cf_A_fill : zc_f yA_fill cA_fill 4 none 2 := ⟨by decide +kernel, by decide +kernel, by decide +kernel, by decide +kernel, by decide +kernel⟩
theorem ci_A_fill : Cond.static yA_fill ∈ zw_all := by decide +kernel
set_option maxHeartbeats 4000000 in
theorem kA_fill (l : Launch) (D : va_G) (cs : Nat → ClassId) (Wf : zs_T → va_W) (ha : zg_Ad Wf) (a j k n : Nat) (hn : n < 2 ^ 31) (hget : ∀ u, (Wf u)[j]? = some (a, .inl (cs 0, n, .inl (zs_a u k)))) (hset : ∀ u f, (Wf u).set j (a, .inl (cs 0, n, .inl f)) = Wf (zs_sa u k f)) (u : zs_T) (v : Int32) : zg_Cv l yA_fill cA_fill 4 none 0 D cs Wf u [.ref a, .int v] (zs_sa u k (zf_fill n v (zs_a u k))) := by
  refine zg_Cv_of (own := "java/util/Arrays") (by decide) rfl ha (Nat.le_of_ble_eq_true rfl) ?_
  intro p e s m below meth c A Q C hret w ls hl
  obtain ⟨hx, hb, -⟩ := id C
  have hl : lv_has ls 4 [(0, .ref a), (1, .int v)] := hl
  have lp : ∀ (d i : Nat), n - i ≤ d → i ≤ n → ∀ (H : Heap) (locs : List Loc) (ls : Array Slot), zg_W D cs A s (Wf (zs_sa u k (zf_fill i v (zs_a u k)))) H locs → lv_has ls 4 [(0, .ref a), (1, .int v), (2, .int (nI i)), (3, .int (nI n))] → W p l e (zg_rm 0) s m ([.ref a, .int v] : List Value).toArray below meth c H locs 0 0 Q (F0 m 5 ls []) := by
    intro d
    induction d with
    | zero =>
      intro i h1 h2 H locs ls w hl
      have hi : i = n := by omega
      subst hi
      refine lv_iload_n hx hb dA_fill_5 rfl (lv_at hl 2 rfl) ?_
      refine lv_iload_n hx hb dA_fill_6 rfl (lv_at hl 3 rfl) ?_
      refine lv_icmp_ge (tgt := 20) hx hb dA_fill_7 (by decide) (fun h => ?_) (fun h => absurd (nI_le (Nat.le_refl _) hn) h)
      exact hret _ _ _ _ _ rfl w dA_fill_20
    | succ d ih =>
      intro i h1 h2 H locs ls w hl
      refine lv_iload_n hx hb dA_fill_5 rfl (lv_at hl 2 rfl) ?_
      refine lv_iload_n hx hb dA_fill_6 rfl (lv_at hl 3 rfl) ?_
      refine lv_icmp_ge (tgt := 20) hx hb dA_fill_7 (by decide) (fun h => ?_) (fun h => ?_)
      · have hi : i = n := by
          rcases Nat.lt_or_ge i n with q | q
          · exact absurd h (nI_ge q hn)
          · omega
        subst hi
        exact hret _ _ _ _ _ rfl w dA_fill_20
      · have hi : i < n := by
          rcases Nat.lt_or_ge i n with q | q
          · exact q
          · exact absurd (nI_le q (by omega)) h
        refine lv_aload_n hx hb dA_fill_10 rfl (lv_at hl 0 rfl) ?_
        refine lv_iload_n hx hb dA_fill_11 rfl (lv_at hl 2 rfl) ?_
        refine lv_iload_n hx hb dA_fill_12 rfl (lv_at hl 1 rfl) ?_
        refine zr_iast (q0 := j) C w (hget _) (by simp only [zf_in, decide_eq_true_eq]; exact vp_in_iff.mp (vp_in_nI hi hn)) (hset _ _) dA_fill_13 (fun H locs w => ?_)
        rw [nI_clamp (by omega), zs_a_sa, zf_fill_s, zs_sa_sa] at w
        refine lv_iinc (v := nI (i + 1)) (lv' := [(2, .int (nI (i + 1))), (0, .ref a), (1, .int v), (3, .int (nI n))]) hx hb dA_fill_14 hl (k := 2) rfl (nI_succ i).symm (by decide) rfl (fun ls hl => ?_)
        refine lv_goto (tgt := 5) hx hb dA_fill_17 (by decide) ?_
        exact ih (i + 1) (by omega) (by omega) H locs ls w (lv_sub hl [1, 2, 0, 3] rfl)
  refine lv_iconst (v := 0) hx hb dA_fill_0 (by decide) ?_
  refine lv_istore_n (lv' := [(2, .int 0), (0, .ref a), (1, .int v)]) hx hb dA_fill_1 rfl hl (by decide) rfl (fun ls hl => ?_)
  refine lv_aload_n hx hb dA_fill_2 rfl (lv_at hl 1 rfl) ?_
  refine zr_alen (q0 := j) C w (hget _) dA_fill_3 ?_
  refine lv_istore_n (lv' := [(3, .int (nI n)), (2, .int (nI 0)), (0, .ref a), (1, .int v)]) hx hb dA_fill_4 rfl hl (by decide) rfl (fun ls hl => ?_)
  refine lp n 0 (by omega) (by omega) _ _ ls ?_ (lv_sub hl [2, 3, 1, 0] rfl)
  rw [zf_fill_0, zs_sa_self]
  exact w
end
