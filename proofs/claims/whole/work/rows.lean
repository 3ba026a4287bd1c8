section
-- ===== PART A: goes FIRST, ahead of the names: the tables' words, and 'selects' of the private methods out of them =====
/-- a private method of a class that the tables say can be made, by its rows of tables_1 -/
def lw_okq (q : MethodName × Nat) : Prop := (q.1.cls ≠ "java/lang/invoke/MethodHandle" ∧ q.1.cls ≠ "java/lang/invoke/VarHandle") ∧ Cond.instantiable q.1.cls q.2 ∈ tables_1 ∧ Cond.privateMethod q.1 ∈ tables_1 ∧ Cond.instanceMethod q.1 ∈ tables_1
theorem lw_p0 : lw_okq (⟨"FlockPass$Pasture", "graze", "(I)V"⟩, 8) := ⟨⟨by decide +kernel, by decide +kernel⟩, List.mem_of_getElem? (i := 57) (by decide +kernel), List.mem_of_getElem? (i := 430) (by decide +kernel), List.mem_of_getElem? (i := 431) (by decide +kernel)⟩
theorem lw_p1 : lw_okq (⟨"FlockPass$Register", "putInOrder", "(I)I"⟩, 9) := ⟨⟨by decide +kernel, by decide +kernel⟩, List.mem_of_getElem? (i := 146) (by decide +kernel), List.mem_of_getElem? (i := 447) (by decide +kernel), List.mem_of_getElem? (i := 448) (by decide +kernel)⟩
theorem lw_p2 : lw_okq (⟨"FlockPass$Trace", "begin", "(IZ)V"⟩, 6) := ⟨⟨by decide +kernel, by decide +kernel⟩, List.mem_of_getElem? (i := 199) (by decide +kernel), List.mem_of_getElem? (i := 455) (by decide +kernel), List.mem_of_getElem? (i := 456) (by decide +kernel)⟩
theorem lw_p3 : lw_okq (⟨"FlockPass$Trace", "fits", "(II)Z"⟩, 6) := ⟨⟨by decide +kernel, by decide +kernel⟩, List.mem_of_getElem? (i := 199) (by decide +kernel), List.mem_of_getElem? (i := 460) (by decide +kernel), List.mem_of_getElem? (i := 461) (by decide +kernel)⟩
theorem lw_p4 : lw_okq (⟨"FlockPass$Trace", "tallyBefore", "(I)V"⟩, 6) := ⟨⟨by decide +kernel, by decide +kernel⟩, List.mem_of_getElem? (i := 199) (by decide +kernel), List.mem_of_getElem? (i := 464) (by decide +kernel), List.mem_of_getElem? (i := 465) (by decide +kernel)⟩
theorem lw_p5 : lw_okq (⟨"FlockPass$Trace", "follow", "(II)V"⟩, 6) := ⟨⟨by decide +kernel, by decide +kernel⟩, List.mem_of_getElem? (i := 199) (by decide +kernel), List.mem_of_getElem? (i := 468) (by decide +kernel), List.mem_of_getElem? (i := 469) (by decide +kernel)⟩
theorem lw_p6 : lw_okq (⟨"FlockPass$Register", "takeBack", "(I)V"⟩, 9) := ⟨⟨by decide +kernel, by decide +kernel⟩, List.mem_of_getElem? (i := 146) (by decide +kernel), List.mem_of_getElem? (i := 472) (by decide +kernel), List.mem_of_getElem? (i := 473) (by decide +kernel)⟩
theorem lw_p7 : lw_okq (⟨"FlockPass$Dairy", "divide", "(ILFlockPass$Trace;I)V"⟩, 3) := ⟨⟨by decide +kernel, by decide +kernel⟩, List.mem_of_getElem? (i := 237) (by decide +kernel), List.mem_of_getElem? (i := 500) (by decide +kernel), List.mem_of_getElem? (i := 501) (by decide +kernel)⟩
theorem lw_p8 : lw_okq (⟨"FlockPass$Ledger", "takeTurn", "([I)I"⟩, 7) := ⟨⟨by decide +kernel, by decide +kernel⟩, List.mem_of_getElem? (i := 256) (by decide +kernel), List.mem_of_getElem? (i := 511) (by decide +kernel), List.mem_of_getElem? (i := 512) (by decide +kernel)⟩
theorem lw_p9 : lw_okq (⟨"FlockPass", "beginNextYear", "()V"⟩, 10) := ⟨⟨by decide +kernel, by decide +kernel⟩, List.mem_of_getElem? (i := 15) (by decide +kernel), List.mem_of_getElem? (i := 530) (by decide +kernel), List.mem_of_getElem? (i := 531) (by decide +kernel)⟩
theorem lw_p10 : lw_okq (⟨"FlockPass$Planner", "judge", "(I)V"⟩, 10) := ⟨⟨by decide +kernel, by decide +kernel⟩, List.mem_of_getElem? (i := 107) (by decide +kernel), List.mem_of_getElem? (i := 577) (by decide +kernel), List.mem_of_getElem? (i := 578) (by decide +kernel)⟩
theorem lw_p11 : lw_okq (⟨"FlockPass$Planner", "passDay", "(II)I"⟩, 10) := ⟨⟨by decide +kernel, by decide +kernel⟩, List.mem_of_getElem? (i := 107) (by decide +kernel), List.mem_of_getElem? (i := 584) (by decide +kernel), List.mem_of_getElem? (i := 585) (by decide +kernel)⟩
theorem lw_p12 : lw_okq (⟨"FlockPassModel", "types", "(I)V"⟩, 45) := ⟨⟨by decide +kernel, by decide +kernel⟩, List.mem_of_getElem? (i := 623) (by decide +kernel), List.mem_of_getElem? (i := 770) (by decide +kernel), List.mem_of_getElem? (i := 771) (by decide +kernel)⟩
theorem lw_p13 : lw_okq (⟨"FlockPassModel", "parse", "(I)I"⟩, 45) := ⟨⟨by decide +kernel, by decide +kernel⟩, List.mem_of_getElem? (i := 623) (by decide +kernel), List.mem_of_getElem? (i := 778) (by decide +kernel), List.mem_of_getElem? (i := 779) (by decide +kernel)⟩
theorem lw_p14 : lw_okq (⟨"FlockPassModel", "isDigit", "(II)Z"⟩, 45) := ⟨⟨by decide +kernel, by decide +kernel⟩, List.mem_of_getElem? (i := 623) (by decide +kernel), List.mem_of_getElem? (i := 785) (by decide +kernel), List.mem_of_getElem? (i := 786) (by decide +kernel)⟩
theorem lw_p15 : lw_okq (⟨"FlockPassModel", "isHeight", "(I)Z"⟩, 45) := ⟨⟨by decide +kernel, by decide +kernel⟩, List.mem_of_getElem? (i := 623) (by decide +kernel), List.mem_of_getElem? (i := 801) (by decide +kernel), List.mem_of_getElem? (i := 802) (by decide +kernel)⟩
def lw_privs_1 : List (MethodName × Nat) := [(⟨"FlockPass$Pasture", "graze", "(I)V"⟩, 8), (⟨"FlockPass$Register", "putInOrder", "(I)I"⟩, 9), (⟨"FlockPass$Trace", "begin", "(IZ)V"⟩, 6), (⟨"FlockPass$Trace", "fits", "(II)Z"⟩, 6), (⟨"FlockPass$Trace", "tallyBefore", "(I)V"⟩, 6), (⟨"FlockPass$Trace", "follow", "(II)V"⟩, 6), (⟨"FlockPass$Register", "takeBack", "(I)V"⟩, 9), (⟨"FlockPass$Dairy", "divide", "(ILFlockPass$Trace;I)V"⟩, 3), (⟨"FlockPass$Ledger", "takeTurn", "([I)I"⟩, 7), (⟨"FlockPass", "beginNextYear", "()V"⟩, 10), (⟨"FlockPass$Planner", "judge", "(I)V"⟩, 10), (⟨"FlockPass$Planner", "passDay", "(II)I"⟩, 10), (⟨"FlockPassModel", "types", "(I)V"⟩, 45), (⟨"FlockPassModel", "parse", "(I)I"⟩, 45), (⟨"FlockPassModel", "isDigit", "(II)Z"⟩, 45), (⟨"FlockPassModel", "isHeight", "(I)Z"⟩, 45)]
theorem lw_r1 : ∀ q ∈ lw_privs_1, lw_okq q := List.forall_mem_cons.mpr ⟨lw_p0, List.forall_mem_cons.mpr ⟨lw_p1, List.forall_mem_cons.mpr ⟨lw_p2, List.forall_mem_cons.mpr ⟨lw_p3, List.forall_mem_cons.mpr ⟨lw_p4, List.forall_mem_cons.mpr ⟨lw_p5, List.forall_mem_cons.mpr ⟨lw_p6, List.forall_mem_cons.mpr ⟨lw_p7, List.forall_mem_cons.mpr ⟨lw_p8, List.forall_mem_cons.mpr ⟨lw_p9, List.forall_mem_cons.mpr ⟨lw_p10, List.forall_mem_cons.mpr ⟨lw_p11, List.forall_mem_cons.mpr ⟨lw_p12, List.forall_mem_cons.mpr ⟨lw_p13, List.forall_mem_cons.mpr ⟨lw_p14, List.forall_mem_cons.mpr ⟨lw_p15, fun _ h => absurd h List.not_mem_nil⟩⟩⟩⟩⟩⟩⟩⟩⟩⟩⟩⟩⟩⟩⟩⟩
theorem lw_p16 : lw_okq (⟨"FlockPassModel", "grows", "(I)V"⟩, 45) := ⟨⟨by decide +kernel, by decide +kernel⟩, List.mem_of_getElem? (i := 623) (by decide +kernel), List.mem_of_getElem? (i := 818) (by decide +kernel), List.mem_of_getElem? (i := 819) (by decide +kernel)⟩
theorem lw_p17 : lw_okq (⟨"FlockPassModel", "ups", "(I)I"⟩, 45) := ⟨⟨by decide +kernel, by decide +kernel⟩, List.mem_of_getElem? (i := 623) (by decide +kernel), List.mem_of_getElem? (i := 822) (by decide +kernel), List.mem_of_getElem? (i := 823) (by decide +kernel)⟩
theorem lw_p18 : lw_okq (⟨"FlockPassModel", "asks", "(III)Z"⟩, 45) := ⟨⟨by decide +kernel, by decide +kernel⟩, List.mem_of_getElem? (i := 623) (by decide +kernel), List.mem_of_getElem? (i := 826) (by decide +kernel), List.mem_of_getElem? (i := 827) (by decide +kernel)⟩
theorem lw_p19 : lw_okq (⟨"FlockPassModel", "fitsAct", "(I)Z"⟩, 45) := ⟨⟨by decide +kernel, by decide +kernel⟩, List.mem_of_getElem? (i := 623) (by decide +kernel), List.mem_of_getElem? (i := 830) (by decide +kernel), List.mem_of_getElem? (i := 831) (by decide +kernel)⟩
theorem lw_p20 : lw_okq (⟨"FlockPassModel", "does", "(I)V"⟩, 45) := ⟨⟨by decide +kernel, by decide +kernel⟩, List.mem_of_getElem? (i := 623) (by decide +kernel), List.mem_of_getElem? (i := 834) (by decide +kernel), List.mem_of_getElem? (i := 835) (by decide +kernel)⟩
theorem lw_p21 : lw_okq (⟨"FlockPassModel", "eats", "(II)I"⟩, 45) := ⟨⟨by decide +kernel, by decide +kernel⟩, List.mem_of_getElem? (i := 623) (by decide +kernel), List.mem_of_getElem? (i := 838) (by decide +kernel), List.mem_of_getElem? (i := 839) (by decide +kernel)⟩
theorem lw_p22 : lw_okq (⟨"FlockPassModel", "lays", "(II)Z"⟩, 45) := ⟨⟨by decide +kernel, by decide +kernel⟩, List.mem_of_getElem? (i := 623) (by decide +kernel), List.mem_of_getElem? (i := 846) (by decide +kernel), List.mem_of_getElem? (i := 847) (by decide +kernel)⟩
theorem lw_p23 : lw_okq (⟨"FlockPassModel", "isLess", "(I)Z"⟩, 45) := ⟨⟨by decide +kernel, by decide +kernel⟩, List.mem_of_getElem? (i := 623) (by decide +kernel), List.mem_of_getElem? (i := 850) (by decide +kernel), List.mem_of_getElem? (i := 851) (by decide +kernel)⟩
theorem lw_p24 : lw_okq (⟨"FlockPassModel", "isSheep", "(I)Z"⟩, 45) := ⟨⟨by decide +kernel, by decide +kernel⟩, List.mem_of_getElem? (i := 623) (by decide +kernel), List.mem_of_getElem? (i := 866) (by decide +kernel), List.mem_of_getElem? (i := 867) (by decide +kernel)⟩
theorem lw_p25 : lw_okq (⟨"FlockPassModel", "isKnowing", "(I)Z"⟩, 45) := ⟨⟨by decide +kernel, by decide +kernel⟩, List.mem_of_getElem? (i := 623) (by decide +kernel), List.mem_of_getElem? (i := 878) (by decide +kernel), List.mem_of_getElem? (i := 879) (by decide +kernel)⟩
theorem lw_p26 : lw_okq (⟨"FlockPassModel", "creditOf", "(II)I"⟩, 45) := ⟨⟨by decide +kernel, by decide +kernel⟩, List.mem_of_getElem? (i := 623) (by decide +kernel), List.mem_of_getElem? (i := 894) (by decide +kernel), List.mem_of_getElem? (i := 895) (by decide +kernel)⟩
theorem lw_p27 : lw_okq (⟨"FlockPassModel", "reckons", "(I)V"⟩, 45) := ⟨⟨by decide +kernel, by decide +kernel⟩, List.mem_of_getElem? (i := 623) (by decide +kernel), List.mem_of_getElem? (i := 902) (by decide +kernel), List.mem_of_getElem? (i := 903) (by decide +kernel)⟩
theorem lw_p28 : lw_okq (⟨"FlockPassModel", "all", "()J"⟩, 45) := ⟨⟨by decide +kernel, by decide +kernel⟩, List.mem_of_getElem? (i := 623) (by decide +kernel), List.mem_of_getElem? (i := 910) (by decide +kernel), List.mem_of_getElem? (i := 911) (by decide +kernel)⟩
theorem lw_p29 : lw_okq (⟨"FlockPassModel", "gives", "(II)V"⟩, 45) := ⟨⟨by decide +kernel, by decide +kernel⟩, List.mem_of_getElem? (i := 623) (by decide +kernel), List.mem_of_getElem? (i := 914) (by decide +kernel), List.mem_of_getElem? (i := 915) (by decide +kernel)⟩
theorem lw_p30 : lw_okq (⟨"FlockPassModel", "endsTurn", "(I)V"⟩, 45) := ⟨⟨by decide +kernel, by decide +kernel⟩, List.mem_of_getElem? (i := 623) (by decide +kernel), List.mem_of_getElem? (i := 920) (by decide +kernel), List.mem_of_getElem? (i := 921) (by decide +kernel)⟩
theorem lw_p31 : lw_okq (⟨"FlockPassModel", "pays", "(J)V"⟩, 45) := ⟨⟨by decide +kernel, by decide +kernel⟩, List.mem_of_getElem? (i := 623) (by decide +kernel), List.mem_of_getElem? (i := 924) (by decide +kernel), List.mem_of_getElem? (i := 925) (by decide +kernel)⟩
def lw_privs_2 : List (MethodName × Nat) := [(⟨"FlockPassModel", "grows", "(I)V"⟩, 45), (⟨"FlockPassModel", "ups", "(I)I"⟩, 45), (⟨"FlockPassModel", "asks", "(III)Z"⟩, 45), (⟨"FlockPassModel", "fitsAct", "(I)Z"⟩, 45), (⟨"FlockPassModel", "does", "(I)V"⟩, 45), (⟨"FlockPassModel", "eats", "(II)I"⟩, 45), (⟨"FlockPassModel", "lays", "(II)Z"⟩, 45), (⟨"FlockPassModel", "isLess", "(I)Z"⟩, 45), (⟨"FlockPassModel", "isSheep", "(I)Z"⟩, 45), (⟨"FlockPassModel", "isKnowing", "(I)Z"⟩, 45), (⟨"FlockPassModel", "creditOf", "(II)I"⟩, 45), (⟨"FlockPassModel", "reckons", "(I)V"⟩, 45), (⟨"FlockPassModel", "all", "()J"⟩, 45), (⟨"FlockPassModel", "gives", "(II)V"⟩, 45), (⟨"FlockPassModel", "endsTurn", "(I)V"⟩, 45), (⟨"FlockPassModel", "pays", "(J)V"⟩, 45)]
theorem lw_r2 : ∀ q ∈ lw_privs_2, lw_okq q := List.forall_mem_cons.mpr ⟨lw_p16, List.forall_mem_cons.mpr ⟨lw_p17, List.forall_mem_cons.mpr ⟨lw_p18, List.forall_mem_cons.mpr ⟨lw_p19, List.forall_mem_cons.mpr ⟨lw_p20, List.forall_mem_cons.mpr ⟨lw_p21, List.forall_mem_cons.mpr ⟨lw_p22, List.forall_mem_cons.mpr ⟨lw_p23, List.forall_mem_cons.mpr ⟨lw_p24, List.forall_mem_cons.mpr ⟨lw_p25, List.forall_mem_cons.mpr ⟨lw_p26, List.forall_mem_cons.mpr ⟨lw_p27, List.forall_mem_cons.mpr ⟨lw_p28, List.forall_mem_cons.mpr ⟨lw_p29, List.forall_mem_cons.mpr ⟨lw_p30, List.forall_mem_cons.mpr ⟨lw_p31, fun _ h => absurd h List.not_mem_nil⟩⟩⟩⟩⟩⟩⟩⟩⟩⟩⟩⟩⟩⟩⟩⟩
theorem lw_p32 : lw_okq (⟨"FlockPassModel", "wasUp", "(I)Z"⟩, 45) := ⟨⟨by decide +kernel, by decide +kernel⟩, List.mem_of_getElem? (i := 623) (by decide +kernel), List.mem_of_getElem? (i := 928) (by decide +kernel), List.mem_of_getElem? (i := 929) (by decide +kernel)⟩
theorem lw_p33 : lw_okq (⟨"FlockPassModel", "begins", "()V"⟩, 45) := ⟨⟨by decide +kernel, by decide +kernel⟩, List.mem_of_getElem? (i := 623) (by decide +kernel), List.mem_of_getElem? (i := 932) (by decide +kernel), List.mem_of_getElem? (i := 933) (by decide +kernel)⟩
theorem lw_p34 : lw_okq (⟨"FlockPassModel", "herd", "(I)I"⟩, 45) := ⟨⟨by decide +kernel, by decide +kernel⟩, List.mem_of_getElem? (i := 623) (by decide +kernel), List.mem_of_getElem? (i := 945) (by decide +kernel), List.mem_of_getElem? (i := 946) (by decide +kernel)⟩
def lw_privs_3 : List (MethodName × Nat) := [(⟨"FlockPassModel", "wasUp", "(I)Z"⟩, 45), (⟨"FlockPassModel", "begins", "()V"⟩, 45), (⟨"FlockPassModel", "herd", "(I)I"⟩, 45)]
theorem lw_r3 : ∀ q ∈ lw_privs_3, lw_okq q := List.forall_mem_cons.mpr ⟨lw_p32, List.forall_mem_cons.mpr ⟨lw_p33, List.forall_mem_cons.mpr ⟨lw_p34, fun _ h => absurd h List.not_mem_nil⟩⟩⟩
def lw_privs : List (MethodName × Nat) := lw_privs_1 ++ (lw_privs_2 ++ (lw_privs_3))
def lw_tbl : List Cond := k2_sels lw_privs ++ tables_1
theorem lw_privs_ok : ∀ q ∈ lw_privs, lw_okq q := by
  show ∀ q ∈ lw_privs_1 ++ (lw_privs_2 ++ (lw_privs_3)), lw_okq q
  exact List.forall_mem_append.mpr ⟨lw_r1, List.forall_mem_append.mpr ⟨lw_r2, lw_r3⟩⟩
-- ===== end of PART A; then your names; then what follows =====
end
section
theorem goodIn_r {big : List Cond} (ws : List Cond) (ps : List Nat) (hp : ws = ps.filterMap (fun i => big[i]?)) (h : ws.all goodWord = true) : GoodIn big ws := by
  intro w hw
  have h1 := List.all_eq_true.mp h w hw
  rw [hp] at hw
  obtain ⟨i, -, hi⟩ := List.mem_filterMap.mp hw
  have hm : w ∈ big := by first | exact List.mem_of_getElem? hi | exact List.getElem?_mem hi
  exact ⟨hm, good_of_word h1⟩
theorem goodIn_app {big a b : List Cond} (ha : GoodIn big a) (hb : GoodIn big b) : GoodIn big (a ++ b) := fun w h => (List.mem_append.mp h).elim (ha w) (hb w)
theorem goodIn_ca {big a b : List Cond} {c : Cond} (ha : GoodIn big (c :: a)) (hb : GoodIn big b) : GoodIn big (c :: (a ++ b)) := fun w h => (List.mem_cons.mp h).elim (fun e => ha w (List.mem_cons.mpr (Or.inl e))) (fun h => (List.mem_append.mp h).elim (fun h => ha w (List.mem_cons.mpr (Or.inr h))) (hb w))
theorem goodIn_sub {big ws : List Cond} (hm : ∀ w ∈ ws, w ∈ big) (h : ws.all goodWord = true) : GoodIn big ws := fun w hw => ⟨hm w hw, good_of_word (List.all_eq_true.mp h w hw)⟩
def RX0 : String := "FlockPass$Dairy"
def TX0 : u_T := fun k => match k with
  | 0 => ("FlockPass$Dairy", "milkOf", "[I", true)
  | 1 => ("FlockPass$Dairy", "partOf", "[I", true)
  | _ => ("FlockPass$Dairy", "milkingDay", "I", false)
def tyX0 : Nat → FieldType := fun k => match k with
  | 0 => .array .int
  | 1 => .array .int
  | _ => .int
abbrev wsX00 : List Cond := u_ws RX0 TX0 3
theorem nmX0 : ∀ a, a < 3 → ∀ b, b < 3 → a ≠ b → (TX0 a).2.1 ≠ (TX0 b).2.1 := by decide +kernel
theorem tyX0_ok : ∀ k, k < 3 → parseFieldDescriptor (TX0 k).2.2.1 = some (tyX0 k) := by decide +kernel
abbrev cX0_init : ByteArray := prog_2_method_1_code
def yX0_init : MethodName := ⟨RX0, "<init>", "()V"⟩
abbrev cX0_beginYear : ByteArray := prog_2_method_2_code
def yX0_beginYear : MethodName := ⟨RX0, "beginYear", "()V"⟩
abbrev cX0_creditOf : ByteArray := prog_2_method_3_code
def yX0_creditOf : MethodName := ⟨RX0, "creditOf", "(LFlockPass$Register;LFlockPass$RuleBook;LFlockPass$Trace;III)I"⟩
abbrev cX0_shareOut : ByteArray := prog_2_method_4_code
def yX0_shareOut : MethodName := ⟨RX0, "shareOut", "(LFlockPass$Register;LFlockPass$RuleBook;LFlockPass$Trace;II)V"⟩
abbrev cX0_divide : ByteArray := prog_2_method_5_code
def yX0_divide : MethodName := ⟨RX0, "divide", "(ILFlockPass$Trace;I)V"⟩
def RX1 : String := "FlockPass$Ledger"
def TX1 : u_T := fun k => match k with
  | 0 => ("FlockPass$Ledger", "cheesesOf", "[J", true)
  | 1 => ("FlockPass$Ledger", "latestOf", "[I", true)
  | 2 => ("FlockPass$Ledger", "balanceOf", "[J", true)
  | 3 => ("FlockPass$Ledger", "moneyOf", "[J", true)
  | 4 => ("FlockPass$Ledger", "ownPaid", "J", false)
  | 5 => ("FlockPass$Ledger", "turn", "[I", true)
  | _ => ("FlockPass$Ledger", "paidOut", "J", false)
def tyX1 : Nat → FieldType := fun k => match k with
  | 0 => .array .long
  | 1 => .array .int
  | 2 => .array .long
  | 3 => .array .long
  | 4 => .long
  | 5 => .array .int
  | _ => .long
abbrev wsX10 : List Cond := u_ws RX1 TX1 7
theorem nmX1 : ∀ a, a < 7 → ∀ b, b < 7 → a ≠ b → (TX1 a).2.1 ≠ (TX1 b).2.1 := by decide +kernel
theorem tyX1_ok : ∀ k, k < 7 → parseFieldDescriptor (TX1 k).2.2.1 = some (tyX1 k) := by decide +kernel
abbrev cX1_init : ByteArray := prog_3_method_1_code
def yX1_init : MethodName := ⟨RX1, "<init>", "()V"⟩
abbrev cX1_placeOf : ByteArray := prog_3_method_2_code
def yX1_placeOf : MethodName := ⟨RX1, "placeOf", "(I)I"⟩
abbrev cX1_partCheeses : ByteArray := prog_3_method_3_code
def yX1_partCheeses : MethodName := ⟨RX1, "partCheeses", "([II)I"⟩
abbrev cX1_takeTurn : ByteArray := prog_3_method_4_code
def yX1_takeTurn : MethodName := ⟨RX1, "takeTurn", "([I)I"⟩
abbrev cX1_oweWork : ByteArray := prog_3_method_5_code
def yX1_oweWork : MethodName := ⟨RX1, "oweWork", "([II)V"⟩
abbrev cX1_payLosses : ByteArray := prog_3_method_6_code
def yX1_payLosses : MethodName := ⟨RX1, "payLosses", "(LFlockPass$Register;LFlockPass$Trace;II)V"⟩
abbrev cX1_payIn : ByteArray := prog_3_method_7_code
def yX1_payIn : MethodName := ⟨RX1, "payIn", "([I)V"⟩
abbrev cX1_shareOf : ByteArray := prog_3_method_8_code
def yX1_shareOf : MethodName := ⟨RX1, "shareOf", "(JI[I)J"⟩
def RX2 : String := "FlockPass$Pasture"
def TX2 : u_T := fun k => match k with
  | 0 => ("FlockPass$Pasture", "grassOf", "[I", true)
  | 1 => ("FlockPass$Pasture", "mostOf", "[I", true)
  | 2 => ("FlockPass$Pasture", "growthOf", "[I", true)
  | 3 => ("FlockPass$Pasture", "heights", "I", false)
  | 4 => ("FlockPass$Pasture", "snow", "I", false)
  | 5 => ("FlockPass$Pasture", "flockAt", "I", false)
  | 6 => ("FlockPass$Pasture", "hunger", "I", false)
  | _ => ("FlockPass$Pasture", "eaten", "J", false)
def tyX2 : Nat → FieldType := fun k => match k with
  | 0 => .array .int
  | 1 => .array .int
  | 2 => .array .int
  | 3 => .int
  | 4 => .int
  | 5 => .int
  | 6 => .int
  | _ => .long
abbrev wsX20 : List Cond := u_ws RX2 TX2 8
theorem nmX2 : ∀ a, a < 8 → ∀ b, b < 8 → a ≠ b → (TX2 a).2.1 ≠ (TX2 b).2.1 := by decide +kernel
theorem tyX2_ok : ∀ k, k < 8 → parseFieldDescriptor (TX2 k).2.2.1 = some (tyX2 k) := by decide +kernel
abbrev cX2_init : ByteArray := prog_4_method_1_code
def yX2_init : MethodName := ⟨RX2, "<init>", "()V"⟩
abbrev cX2_makeHeights : ByteArray := prog_4_method_2_code
def yX2_makeHeights : MethodName := ⟨RX2, "makeHeights", "(I)V"⟩
abbrev cX2_has : ByteArray := prog_4_method_3_code
def yX2_has : MethodName := ⟨RX2, "has", "(I)Z"⟩
abbrev cX2_isOpen : ByteArray := prog_4_method_4_code
def yX2_isOpen : MethodName := ⟨RX2, "isOpen", "()Z"⟩
abbrev cX2_canReach : ByteArray := prog_4_method_5_code
def yX2_canReach : MethodName := ⟨RX2, "canReach", "(I)Z"⟩
abbrev cX2_passDay : ByteArray := prog_4_method_6_code
def yX2_passDay : MethodName := ⟨RX2, "passDay", "(III)V"⟩
abbrev cX2_graze : ByteArray := prog_4_method_7_code
def yX2_graze : MethodName := ⟨RX2, "graze", "(I)V"⟩
abbrev cX2_gainOn : ByteArray := prog_4_method_8_code
def yX2_gainOn : MethodName := ⟨RX2, "gainOn", "(II)I"⟩
abbrev cX2_grown : ByteArray := prog_4_method_9_code
def yX2_grown : MethodName := ⟨RX2, "grown", "(III)I"⟩
def RX3 : String := "FlockPass$Planner"
def TX3 : u_T := fun k => match k with
  | 0 => ("FlockPass$Planner", "bestPath", "[I", true)
  | 1 => ("FlockPass$Planner", "length", "I", false)
  | 2 => ("FlockPass$Planner", "path", "[I", true)
  | 3 => ("FlockPass$Planner", "rows", "[I", true)
  | 4 => ("FlockPass$Planner", "mostOf", "[I", true)
  | 5 => ("FlockPass$Planner", "gainOf", "[I", true)
  | 6 => ("FlockPass$Planner", "heights", "I", false)
  | 7 => ("FlockPass$Planner", "wanted", "I", false)
  | 8 => ("FlockPass$Planner", "bestHunger", "I", false)
  | _ => ("FlockPass$Planner", "bestGrass", "I", false)
def tyX3 : Nat → FieldType := fun k => match k with
  | 0 => .array .int
  | 1 => .int
  | 2 => .array .int
  | 3 => .array .int
  | 4 => .array .int
  | 5 => .array .int
  | 6 => .int
  | 7 => .int
  | 8 => .int
  | _ => .int
abbrev wsX30 : List Cond := u_ws RX3 TX3 10
theorem nmX3 : ∀ a, a < 10 → ∀ b, b < 10 → a ≠ b → (TX3 a).2.1 ≠ (TX3 b).2.1 := by decide +kernel
theorem tyX3_ok : ∀ k, k < 10 → parseFieldDescriptor (TX3 k).2.2.1 = some (tyX3 k) := by decide +kernel
abbrev cX3_init : ByteArray := prog_5_method_1_code
def yX3_init : MethodName := ⟨RX3, "<init>", "()V"⟩
abbrev cX3_findBest : ByteArray := prog_5_method_2_code
def yX3_findBest : MethodName := ⟨RX3, "findBest", "(LFlockPass$Pasture;III)I"⟩
abbrev cX3_explore : ByteArray := prog_5_method_3_code
def yX3_explore : MethodName := ⟨RX3, "explore", "(LFlockPass$Planner;III)V"⟩
abbrev cX3_passDay : ByteArray := prog_5_method_4_code
def yX3_passDay : MethodName := ⟨RX3, "passDay", "(II)I"⟩
abbrev cX3_judge : ByteArray := prog_5_method_5_code
def yX3_judge : MethodName := ⟨RX3, "judge", "(I)V"⟩
def RX4 : String := "FlockPass$Register"
def TX4 : u_T := fun k => match k with
  | 0 => ("FlockPass$Register", "firstOwnerOf", "[I", true)
  | 1 => ("FlockPass$Register", "gone", "[Z", true)
  | 2 => ("FlockPass$Register", "size", "I", false)
  | 3 => ("FlockPass$Register", "actOf", "[I", true)
  | 4 => ("FlockPass$Register", "sheepOf", "[I", true)
  | 5 => ("FlockPass$Register", "dayOf", "[I", true)
  | 6 => ("FlockPass$Register", "buyerOf", "[I", true)
  | 7 => ("FlockPass$Register", "order", "[I", true)
  | _ => ("FlockPass$Register", "entries", "I", false)
def tyX4 : Nat → FieldType := fun k => match k with
  | 0 => .array .int
  | 1 => .array .boolean
  | 2 => .int
  | 3 => .array .int
  | 4 => .array .int
  | 5 => .array .int
  | 6 => .array .int
  | 7 => .array .int
  | _ => .int
abbrev wsX40 : List Cond := u_ws RX4 TX4 9
theorem nmX4 : ∀ a, a < 9 → ∀ b, b < 9 → a ≠ b → (TX4 a).2.1 ≠ (TX4 b).2.1 := by decide +kernel
theorem tyX4_ok : ∀ k, k < 9 → parseFieldDescriptor (TX4 k).2.2.1 = some (tyX4 k) := by decide +kernel
abbrev cX4_init : ByteArray := prog_6_method_1_code
def yX4_init : MethodName := ⟨RX4, "<init>", "()V"⟩
abbrev cX4_has : ByteArray := prog_6_method_2_code
def yX4_has : MethodName := ⟨RX4, "has", "(I)Z"⟩
abbrev cX4_isKnowing : ByteArray := prog_6_method_3_code
def yX4_isKnowing : MethodName := ⟨RX4, "isKnowing", "(I)Z"⟩
abbrev cX4_add : ByteArray := prog_6_method_4_code
def yX4_add : MethodName := ⟨RX4, "add", "(I)I"⟩
abbrev cX4_enter : ByteArray := prog_6_method_5_code
def yX4_enter : MethodName := ⟨RX4, "enter", "(IIIILFlockPass$Trace;)I"⟩
abbrev cX4_putInOrder : ByteArray := prog_6_method_6_code
def yX4_putInOrder : MethodName := ⟨RX4, "putInOrder", "(I)I"⟩
abbrev cX4_takeBack : ByteArray := prog_6_method_7_code
def yX4_takeBack : MethodName := ⟨RX4, "takeBack", "(I)V"⟩
abbrev cX4_upOn : ByteArray := prog_6_method_8_code
def yX4_upOn : MethodName := ⟨RX4, "upOn", "(I)I"⟩
abbrev cX4_livingOf : ByteArray := prog_6_method_9_code
def yX4_livingOf : MethodName := ⟨RX4, "livingOf", "(IILFlockPass$Trace;)I"⟩
abbrev cX4_beginYear : ByteArray := prog_6_method_10_code
def yX4_beginYear : MethodName := ⟨RX4, "beginYear", "(ILFlockPass$Trace;)V"⟩
def RX5 : String := "FlockPass$RuleBook"
def TX5 : u_T := fun k => match k with
  | 0 => ("FlockPass$RuleBook", "numbers", "[I", true)
  | _ => ("FlockPass$RuleBook", "draft", "[I", true)
def tyX5 : Nat → FieldType := fun k => match k with
  | 0 => .array .int
  | _ => .array .int
abbrev wsX50 : List Cond := u_ws RX5 TX5 2
theorem nmX5 : ∀ a, a < 2 → ∀ b, b < 2 → a ≠ b → (TX5 a).2.1 ≠ (TX5 b).2.1 := by decide +kernel
theorem tyX5_ok : ∀ k, k < 2 → parseFieldDescriptor (TX5 k).2.2.1 = some (tyX5 k) := by decide +kernel
abbrev cX5_init : ByteArray := prog_7_method_1_code
def yX5_init : MethodName := ⟨RX5, "<init>", "()V"⟩
abbrev cX5_read : ByteArray := prog_7_method_2_code
def yX5_read : MethodName := ⟨RX5, "read", "(LFlockPass$Tape;I)I"⟩
abbrev cX5_setFirst : ByteArray := prog_7_method_3_code
def yX5_setFirst : MethodName := ⟨RX5, "setFirst", "([I)V"⟩
abbrev cX5_fault : ByteArray := prog_7_method_4_code
def yX5_fault : MethodName := ⟨RX5, "fault", "(II)I"⟩
abbrev cX5_letterOf : ByteArray := prog_7_method_5_code
def yX5_letterOf : MethodName := ⟨RX5, "letterOf", "(I)I"⟩
abbrev cX5_isDigit : ByteArray := prog_7_method_6_code
def yX5_isDigit : MethodName := ⟨RX5, "isDigit", "(I)Z"⟩
abbrev cX5_digitsEnd : ByteArray := prog_7_method_7_code
def yX5_digitsEnd : MethodName := ⟨RX5, "digitsEnd", "(LFlockPass$Tape;II)I"⟩
abbrev cX5_numberAt : ByteArray := prog_7_method_8_code
def yX5_numberAt : MethodName := ⟨RX5, "numberAt", "(LFlockPass$Tape;II)I"⟩
def RX6 : String := "FlockPass$Tape"
def TX6 : u_T := fun k => match k with
  | 0 => ("FlockPass$Tape", "bytes", "[I", true)
  | _ => ("FlockPass$Tape", "size", "I", false)
def tyX6 : Nat → FieldType := fun k => match k with
  | 0 => .array .int
  | _ => .int
abbrev wsX60 : List Cond := u_ws RX6 TX6 2
theorem nmX6 : ∀ a, a < 2 → ∀ b, b < 2 → a ≠ b → (TX6 a).2.1 ≠ (TX6 b).2.1 := by decide +kernel
theorem tyX6_ok : ∀ k, k < 2 → parseFieldDescriptor (TX6 k).2.2.1 = some (tyX6 k) := by decide +kernel
abbrev cX6_init : ByteArray := prog_8_method_1_code
def yX6_init : MethodName := ⟨RX6, "<init>", "()V"⟩
abbrev cX6_append : ByteArray := prog_8_method_2_code
def yX6_append : MethodName := ⟨RX6, "append", "(I)V"⟩
def RX7 : String := "FlockPass$Trace"
def TX7 : u_T := fun k => match k with
  | 0 => ("FlockPass$Trace", "owner", "I", false)
  | 1 => ("FlockPass$Trace", "up", "Z", false)
  | 2 => ("FlockPass$Trace", "dead", "Z", false)
  | 3 => ("FlockPass$Trace", "daysUp", "I", false)
  | 4 => ("FlockPass$Trace", "daysHad", "[I", true)
  | _ => ("FlockPass$Trace", "firstUntold", "I", false)
def tyX7 : Nat → FieldType := fun k => match k with
  | 0 => .int
  | 1 => .boolean
  | 2 => .boolean
  | 3 => .int
  | 4 => .array .int
  | _ => .int
abbrev wsX70 : List Cond := u_ws RX7 TX7 6
theorem nmX7 : ∀ a, a < 6 → ∀ b, b < 6 → a ≠ b → (TX7 a).2.1 ≠ (TX7 b).2.1 := by decide +kernel
theorem tyX7_ok : ∀ k, k < 6 → parseFieldDescriptor (TX7 k).2.2.1 = some (tyX7 k) := by decide +kernel
abbrev cX7_init : ByteArray := prog_9_method_1_code
def yX7_init : MethodName := ⟨RX7, "<init>", "()V"⟩
abbrev cX7_replay : ByteArray := prog_9_method_2_code
def yX7_replay : MethodName := ⟨RX7, "replay", "(LFlockPass$Register;III)Z"⟩
abbrev cX7_begin : ByteArray := prog_9_method_3_code
def yX7_begin : MethodName := ⟨RX7, "begin", "(IZ)V"⟩
abbrev cX7_fits : ByteArray := prog_9_method_4_code
def yX7_fits : MethodName := ⟨RX7, "fits", "(II)Z"⟩
abbrev cX7_follow : ByteArray := prog_9_method_5_code
def yX7_follow : MethodName := ⟨RX7, "follow", "(II)V"⟩
abbrev cX7_tallyBefore : ByteArray := prog_9_method_6_code
def yX7_tallyBefore : MethodName := ⟨RX7, "tallyBefore", "(I)V"⟩
def RX8 : String := "FlockPass"
def TX8 : u_T := fun k => match k with
  | 0 => ("FlockPass", "tape", "LFlockPass$Tape;", true)
  | 1 => ("FlockPass", "book", "LFlockPass$RuleBook;", true)
  | 2 => ("FlockPass", "pasture", "LFlockPass$Pasture;", true)
  | 3 => ("FlockPass", "planner", "LFlockPass$Planner;", true)
  | 4 => ("FlockPass", "register", "LFlockPass$Register;", true)
  | 5 => ("FlockPass", "trace", "LFlockPass$Trace;", true)
  | 6 => ("FlockPass", "dairy", "LFlockPass$Dairy;", true)
  | 7 => ("FlockPass", "ledger", "LFlockPass$Ledger;", true)
  | 8 => ("FlockPass", "year", "I", false)
  | _ => ("FlockPass", "today", "I", false)
def tyX8 : Nat → FieldType := fun k => match k with
  | 0 => .object "FlockPass$Tape"
  | 1 => .object "FlockPass$RuleBook"
  | 2 => .object "FlockPass$Pasture"
  | 3 => .object "FlockPass$Planner"
  | 4 => .object "FlockPass$Register"
  | 5 => .object "FlockPass$Trace"
  | 6 => .object "FlockPass$Dairy"
  | 7 => .object "FlockPass$Ledger"
  | 8 => .int
  | _ => .int
abbrev wsX80 : List Cond := u_ws RX8 TX8 10
theorem nmX8 : ∀ a, a < 10 → ∀ b, b < 10 → a ≠ b → (TX8 a).2.1 ≠ (TX8 b).2.1 := by decide +kernel
theorem tyX8_ok : ∀ k, k < 10 → parseFieldDescriptor (TX8 k).2.2.1 = some (tyX8 k) := by decide +kernel
abbrev cX8_init : ByteArray := prog_1_method_1_code
def yX8_init : MethodName := ⟨RX8, "<init>", "()V"⟩
abbrev cX8_feed : ByteArray := prog_1_method_2_code
def yX8_feed : MethodName := ⟨RX8, "feed", "(IIIII)I"⟩
abbrev cX8_rules : ByteArray := prog_1_method_3_code
def yX8_rules : MethodName := ⟨RX8, "rules", "(I)I"⟩
abbrev cX8_alp : ByteArray := prog_1_method_4_code
def yX8_alp : MethodName := ⟨RX8, "alp", "(I)Z"⟩
abbrev cX8_height : ByteArray := prog_1_method_5_code
def yX8_height : MethodName := ⟨RX8, "height", "(IIII)Z"⟩
abbrev cX8_sheep : ByteArray := prog_1_method_6_code
def yX8_sheep : MethodName := ⟨RX8, "sheep", "(I)I"⟩
abbrev cX8_move : ByteArray := prog_1_method_7_code
def yX8_move : MethodName := ⟨RX8, "move", "(I)Z"⟩
abbrev cX8_day : ByteArray := prog_1_method_8_code
def yX8_day : MethodName := ⟨RX8, "day", "(II)I"⟩
abbrev cX8_act : ByteArray := prog_1_method_9_code
def yX8_act : MethodName := ⟨RX8, "act", "(IIII)I"⟩
abbrev cX8_milking : ByteArray := prog_1_method_10_code
def yX8_milking : MethodName := ⟨RX8, "milking", "(I)Z"⟩
abbrev cX8_milk : ByteArray := prog_1_method_11_code
def yX8_milk : MethodName := ⟨RX8, "milk", "(II)Z"⟩
abbrev cX8_close : ByteArray := prog_1_method_12_code
def yX8_close : MethodName := ⟨RX8, "close", "(I)I"⟩
abbrev cX8_work : ByteArray := prog_1_method_13_code
def yX8_work : MethodName := ⟨RX8, "work", "(II)Z"⟩
abbrev cX8_look : ByteArray := prog_1_method_14_code
def yX8_look : MethodName := ⟨RX8, "look", "(IIII)I"⟩
abbrev cX8_credit : ByteArray := prog_1_method_15_code
def yX8_credit : MethodName := ⟨RX8, "credit", "(II)I"⟩
abbrev cX8_part : ByteArray := prog_1_method_16_code
def yX8_part : MethodName := ⟨RX8, "part", "(II)I"⟩
abbrev cX8_way : ByteArray := prog_1_method_17_code
def yX8_way : MethodName := ⟨RX8, "way", "(II)I"⟩
abbrev cX8_step : ByteArray := prog_1_method_18_code
def yX8_step : MethodName := ⟨RX8, "step", "(I)I"⟩
abbrev cX8_grass : ByteArray := prog_1_method_19_code
def yX8_grass : MethodName := ⟨RX8, "grass", "(II)I"⟩
abbrev cX8_told : ByteArray := prog_1_method_20_code
def yX8_told : MethodName := ⟨RX8, "told", "(II)J"⟩
abbrev cX8_entry : ByteArray := prog_1_method_21_code
def yX8_entry : MethodName := ⟨RX8, "entry", "(II)I"⟩
abbrev cX8_rule : ByteArray := prog_1_method_22_code
def yX8_rule : MethodName := ⟨RX8, "rule", "(I)I"⟩
abbrev cX8_count : ByteArray := prog_1_method_23_code
def yX8_count : MethodName := ⟨RX8, "count", "(I)J"⟩
abbrev cX8_beginNextYear : ByteArray := prog_1_method_24_code
def yX8_beginNextYear : MethodName := ⟨RX8, "beginNextYear", "()V"⟩
abbrev cX8_within : ByteArray := prog_1_method_25_code
def yX8_within : MethodName := ⟨RX8, "within", "(III)Z"⟩
abbrev cX8_isOwner : ByteArray := prog_1_method_26_code
def yX8_isOwner : MethodName := ⟨RX8, "isOwner", "(I)Z"⟩
abbrev cX8_isWarmth : ByteArray := prog_1_method_27_code
def yX8_isWarmth : MethodName := ⟨RX8, "isWarmth", "(I)Z"⟩
def RX9 : String := "FlockPassModel"
def TX9 : u_T := fun k => match k with
  | 0 => ("FlockPassModel", "tape", "[B", true)
  | 1 => ("FlockPassModel", "taped", "I", false)
  | 2 => ("FlockPassModel", "fault", "I", false)
  | 3 => ("FlockPassModel", "ruleL", "I", false)
  | 4 => ("FlockPassModel", "ruleM", "I", false)
  | 5 => ("FlockPassModel", "ruleW", "I", false)
  | 6 => ("FlockPassModel", "ruleV", "I", false)
  | 7 => ("FlockPassModel", "said", "[I", true)
  | 8 => ("FlockPassModel", "heights", "I", false)
  | 9 => ("FlockPassModel", "flock", "I", false)
  | 10 => ("FlockPassModel", "snow", "I", false)
  | 11 => ("FlockPassModel", "year", "I", false)
  | 12 => ("FlockPassModel", "days", "I", false)
  | 13 => ("FlockPassModel", "hunger", "I", false)
  | 14 => ("FlockPassModel", "grass", "[I", true)
  | 15 => ("FlockPassModel", "most", "[I", true)
  | 16 => ("FlockPassModel", "growth", "[I", true)
  | 17 => ("FlockPassModel", "eaten", "J", false)
  | 18 => ("FlockPassModel", "was", "[I", true)
  | 19 => ("FlockPassModel", "way", "[I", true)
  | 20 => ("FlockPassModel", "bestWay", "[I", true)
  | 21 => ("FlockPassModel", "ways", "I", false)
  | 22 => ("FlockPassModel", "bestHunger", "I", false)
  | 23 => ("FlockPassModel", "bestGrass", "I", false)
  | 24 => ("FlockPassModel", "sheep", "I", false)
  | 25 => ("FlockPassModel", "entries", "I", false)
  | 26 => ("FlockPassModel", "milkingDay", "I", false)
  | 27 => ("FlockPassModel", "owner", "[I", true)
  | 28 => ("FlockPassModel", "milk", "[I", true)
  | 29 => ("FlockPassModel", "wasDead", "[Z", true)
  | 30 => ("FlockPassModel", "what", "[I", true)
  | 31 => ("FlockPassModel", "of", "[I", true)
  | 32 => ("FlockPassModel", "on", "[I", true)
  | 33 => ("FlockPassModel", "to", "[I", true)
  | 34 => ("FlockPassModel", "isUp", "Z", false)
  | 35 => ("FlockPassModel", "isDead", "Z", false)
  | 36 => ("FlockPassModel", "has", "I", false)
  | 37 => ("FlockPassModel", "daysOf", "[I", true)
  | 38 => ("FlockPassModel", "parts", "[I", true)
  | 39 => ("FlockPassModel", "turn", "[I", true)
  | 40 => ("FlockPassModel", "cheeses", "[I", true)
  | 41 => ("FlockPassModel", "latest", "[I", true)
  | 42 => ("FlockPassModel", "balance", "[J", true)
  | 43 => ("FlockPassModel", "money", "[J", true)
  | _ => ("FlockPassModel", "own", "J", false)
def tyX9 : Nat → FieldType := fun k => match k with
  | 0 => .array .byte
  | 1 => .int
  | 2 => .int
  | 3 => .int
  | 4 => .int
  | 5 => .int
  | 6 => .int
  | 7 => .array .int
  | 8 => .int
  | 9 => .int
  | 10 => .int
  | 11 => .int
  | 12 => .int
  | 13 => .int
  | 14 => .array .int
  | 15 => .array .int
  | 16 => .array .int
  | 17 => .long
  | 18 => .array .int
  | 19 => .array .int
  | 20 => .array .int
  | 21 => .int
  | 22 => .int
  | 23 => .int
  | 24 => .int
  | 25 => .int
  | 26 => .int
  | 27 => .array .int
  | 28 => .array .int
  | 29 => .array .boolean
  | 30 => .array .int
  | 31 => .array .int
  | 32 => .array .int
  | 33 => .array .int
  | 34 => .boolean
  | 35 => .boolean
  | 36 => .int
  | 37 => .array .int
  | 38 => .array .int
  | 39 => .array .int
  | 40 => .array .int
  | 41 => .array .int
  | 42 => .array .long
  | 43 => .array .long
  | _ => .long
abbrev wsX90 : List Cond := u_ws RX9 TX9 45
theorem nmX9 : ∀ a, a < 45 → ∀ b, b < 45 → a ≠ b → (TX9 a).2.1 ≠ (TX9 b).2.1 := by decide +kernel
theorem tyX9_ok : ∀ k, k < 45 → parseFieldDescriptor (TX9 k).2.2.1 = some (tyX9 k) := by decide +kernel
abbrev cX9_init : ByteArray := prog_11_method_1_code
def yX9_init : MethodName := ⟨RX9, "<init>", "()V"⟩
abbrev cX9_types : ByteArray := prog_11_method_2_code
def yX9_types : MethodName := ⟨RX9, "types", "(I)V"⟩
abbrev cX9_feed : ByteArray := prog_11_method_3_code
def yX9_feed : MethodName := ⟨RX9, "feed", "(IIIII)I"⟩
abbrev cX9_letterOf : ByteArray := prog_11_method_4_code
def yX9_letterOf : MethodName := ⟨RX9, "letterOf", "(I)I"⟩
abbrev cX9_isDigit : ByteArray := prog_11_method_5_code
def yX9_isDigit : MethodName := ⟨RX9, "isDigit", "(II)Z"⟩
abbrev cX9_parse : ByteArray := prog_11_method_6_code
def yX9_parse : MethodName := ⟨RX9, "parse", "(I)I"⟩
abbrev cX9_rules : ByteArray := prog_11_method_7_code
def yX9_rules : MethodName := ⟨RX9, "rules", "(I)I"⟩
abbrev cX9_rule : ByteArray := prog_11_method_8_code
def yX9_rule : MethodName := ⟨RX9, "rule", "(I)I"⟩
abbrev cX9_alp : ByteArray := prog_11_method_9_code
def yX9_alp : MethodName := ⟨RX9, "alp", "(I)Z"⟩
abbrev cX9_isHeight : ByteArray := prog_11_method_10_code
def yX9_isHeight : MethodName := ⟨RX9, "isHeight", "(I)Z"⟩
abbrev cX9_height : ByteArray := prog_11_method_11_code
def yX9_height : MethodName := ⟨RX9, "height", "(IIII)Z"⟩
abbrev cX9_grass : ByteArray := prog_11_method_12_code
def yX9_grass : MethodName := ⟨RX9, "grass", "(II)I"⟩
abbrev cX9_move : ByteArray := prog_11_method_13_code
def yX9_move : MethodName := ⟨RX9, "move", "(I)Z"⟩
abbrev cX9_grows : ByteArray := prog_11_method_14_code
def yX9_grows : MethodName := ⟨RX9, "grows", "(I)V"⟩
abbrev cX9_eats : ByteArray := prog_11_method_15_code
def yX9_eats : MethodName := ⟨RX9, "eats", "(II)I"⟩
abbrev cX9_day : ByteArray := prog_11_method_16_code
def yX9_day : MethodName := ⟨RX9, "day", "(II)I"⟩
abbrev cX9_lays : ByteArray := prog_11_method_17_code
def yX9_lays : MethodName := ⟨RX9, "lays", "(II)Z"⟩
abbrev cX9_isLess : ByteArray := prog_11_method_18_code
def yX9_isLess : MethodName := ⟨RX9, "isLess", "(I)Z"⟩
abbrev cX9_way : ByteArray := prog_11_method_19_code
def yX9_way : MethodName := ⟨RX9, "way", "(II)I"⟩
abbrev cX9_step : ByteArray := prog_11_method_20_code
def yX9_step : MethodName := ⟨RX9, "step", "(I)I"⟩
abbrev cX9_sheep : ByteArray := prog_11_method_21_code
def yX9_sheep : MethodName := ⟨RX9, "sheep", "(I)I"⟩
abbrev cX9_isSheep : ByteArray := prog_11_method_22_code
def yX9_isSheep : MethodName := ⟨RX9, "isSheep", "(I)Z"⟩
abbrev cX9_fitsAct : ByteArray := prog_11_method_23_code
def yX9_fitsAct : MethodName := ⟨RX9, "fitsAct", "(I)Z"⟩
abbrev cX9_does : ByteArray := prog_11_method_24_code
def yX9_does : MethodName := ⟨RX9, "does", "(I)V"⟩
abbrev cX9_asks : ByteArray := prog_11_method_25_code
def yX9_asks : MethodName := ⟨RX9, "asks", "(III)Z"⟩
abbrev cX9_ups : ByteArray := prog_11_method_26_code
def yX9_ups : MethodName := ⟨RX9, "ups", "(I)I"⟩
abbrev cX9_act : ByteArray := prog_11_method_27_code
def yX9_act : MethodName := ⟨RX9, "act", "(IIII)I"⟩
abbrev cX9_entry : ByteArray := prog_11_method_28_code
def yX9_entry : MethodName := ⟨RX9, "entry", "(II)I"⟩
abbrev cX9_isKnowing : ByteArray := prog_11_method_29_code
def yX9_isKnowing : MethodName := ⟨RX9, "isKnowing", "(I)Z"⟩
abbrev cX9_look : ByteArray := prog_11_method_30_code
def yX9_look : MethodName := ⟨RX9, "look", "(IIII)I"⟩
abbrev cX9_milking : ByteArray := prog_11_method_31_code
def yX9_milking : MethodName := ⟨RX9, "milking", "(I)Z"⟩
abbrev cX9_milk : ByteArray := prog_11_method_32_code
def yX9_milk : MethodName := ⟨RX9, "milk", "(II)Z"⟩
abbrev cX9_creditOf : ByteArray := prog_11_method_33_code
def yX9_creditOf : MethodName := ⟨RX9, "creditOf", "(II)I"⟩
abbrev cX9_credit : ByteArray := prog_11_method_34_code
def yX9_credit : MethodName := ⟨RX9, "credit", "(II)I"⟩
abbrev cX9_reckons : ByteArray := prog_11_method_35_code
def yX9_reckons : MethodName := ⟨RX9, "reckons", "(I)V"⟩
abbrev cX9_part : ByteArray := prog_11_method_36_code
def yX9_part : MethodName := ⟨RX9, "part", "(II)I"⟩
abbrev cX9_all : ByteArray := prog_11_method_37_code
def yX9_all : MethodName := ⟨RX9, "all", "()J"⟩
abbrev cX9_gives : ByteArray := prog_11_method_38_code
def yX9_gives : MethodName := ⟨RX9, "gives", "(II)V"⟩
abbrev cX9_endsTurn : ByteArray := prog_11_method_39_code
def yX9_endsTurn : MethodName := ⟨RX9, "endsTurn", "(I)V"⟩
abbrev cX9_wasUp : ByteArray := prog_11_method_40_code
def yX9_wasUp : MethodName := ⟨RX9, "wasUp", "(I)Z"⟩
abbrev cX9_close : ByteArray := prog_11_method_41_code
def yX9_close : MethodName := ⟨RX9, "close", "(I)I"⟩
abbrev cX9_pays : ByteArray := prog_11_method_42_code
def yX9_pays : MethodName := ⟨RX9, "pays", "(J)V"⟩
abbrev cX9_begins : ByteArray := prog_11_method_43_code
def yX9_begins : MethodName := ⟨RX9, "begins", "()V"⟩
abbrev cX9_work : ByteArray := prog_11_method_44_code
def yX9_work : MethodName := ⟨RX9, "work", "(II)Z"⟩
abbrev cX9_herd : ByteArray := prog_11_method_45_code
def yX9_herd : MethodName := ⟨RX9, "herd", "(I)I"⟩
abbrev cX9_told : ByteArray := prog_11_method_46_code
def yX9_told : MethodName := ⟨RX9, "told", "(II)J"⟩
abbrev cX9_count : ByteArray := prog_11_method_47_code
def yX9_count : MethodName := ⟨RX9, "count", "(I)J"⟩
def RL : String := "FlockPassLaw"
abbrev cL_law : ByteArray := code
def yL_law : MethodName := ⟨RL, "law", "([I)Z"⟩
abbrev vwCl : List vw_C := [(RX0, TX0, 3), (RX1, TX1, 7), (RX2, TX2, 8), (RX3, TX3, 10), (RX4, TX4, 9), (RX5, TX5, 2), (RX6, TX6, 2), (RX7, TX7, 6), (RX8, TX8, 10), (RX9, TX9, 45)]
end
section
theorem dL_law_0 : decode cL_law 0 = .ok (.new 7, 3) := by decide +kernel
theorem dL_law_3 : decode cL_law 3 = .ok (.dup, 1) := by decide +kernel
theorem dL_law_4 : decode cL_law 4 = .ok (.invokespecial 9, 3) := by decide +kernel
theorem dL_law_7 : decode cL_law 7 = .ok (.astore_n 1, 1) := by decide +kernel
theorem dL_law_8 : decode cL_law 8 = .ok (.new 10, 3) := by decide +kernel
theorem dL_law_11 : decode cL_law 11 = .ok (.dup, 1) := by decide +kernel
theorem dL_law_12 : decode cL_law 12 = .ok (.invokespecial 12, 3) := by decide +kernel
theorem dL_law_15 : decode cL_law 15 = .ok (.astore_n 2, 1) := by decide +kernel
theorem dL_law_16 : decode cL_law 16 = .ok (.iconst 0, 1) := by decide +kernel
theorem dL_law_17 : decode cL_law 17 = .ok (.istore_n 3, 1) := by decide +kernel
theorem dL_law_18 : decode cL_law 18 = .ok (.iload_n 3, 1) := by decide +kernel
theorem dL_law_19 : decode cL_law 19 = .ok (.aload_n 0, 1) := by decide +kernel
theorem dL_law_20 : decode cL_law 20 = .ok (.arraylength, 1) := by decide +kernel
theorem dL_law_21 : decode cL_law 21 = .ok (.bipush 6, 2) := by decide +kernel
theorem dL_law_23 : decode cL_law 23 = .ok (.isub, 1) := by decide +kernel
theorem dL_law_24 : decode cL_law 24 = .ok (.if_icmp .gt 846, 3) := by decide +kernel
theorem dL_law_27 : decode cL_law 27 = .ok (.aload_n 0, 1) := by decide +kernel
theorem dL_law_28 : decode cL_law 28 = .ok (.iload_n 3, 1) := by decide +kernel
theorem dL_law_29 : decode cL_law 29 = .ok (.iaload, 1) := by decide +kernel
theorem dL_law_30 : decode cL_law 30 = .ok (.bipush 31, 2) := by decide +kernel
theorem dL_law_32 : decode cL_law 32 = .ok (.iand, 1) := by decide +kernel
theorem dL_law_33 : decode cL_law 33 = .ok (.tableswitch 831 0 21 #[103, 166, 189, 212, 265, 288, 311, 344, 397, 420, 453, 476, 509, 562, 595, 628, 661, 684, 717, 751, 784, 807], 103) := by decide +kernel
theorem dL_law_136 : decode cL_law 136 = .ok (.aload_n 1, 1) := by decide +kernel
theorem dL_law_137 : decode cL_law 137 = .ok (.aload_n 0, 1) := by decide +kernel
theorem dL_law_138 : decode cL_law 138 = .ok (.iload_n 3, 1) := by decide +kernel
theorem dL_law_139 : decode cL_law 139 = .ok (.iconst 1, 1) := by decide +kernel
theorem dL_law_140 : decode cL_law 140 = .ok (.iadd, 1) := by decide +kernel
theorem dL_law_141 : decode cL_law 141 = .ok (.iaload, 1) := by decide +kernel
theorem dL_law_142 : decode cL_law 142 = .ok (.aload_n 0, 1) := by decide +kernel
theorem dL_law_143 : decode cL_law 143 = .ok (.iload_n 3, 1) := by decide +kernel
theorem dL_law_144 : decode cL_law 144 = .ok (.iconst 2, 1) := by decide +kernel
theorem dL_law_145 : decode cL_law 145 = .ok (.iadd, 1) := by decide +kernel
theorem dL_law_146 : decode cL_law 146 = .ok (.iaload, 1) := by decide +kernel
theorem dL_law_147 : decode cL_law 147 = .ok (.aload_n 0, 1) := by decide +kernel
theorem dL_law_148 : decode cL_law 148 = .ok (.iload_n 3, 1) := by decide +kernel
theorem dL_law_149 : decode cL_law 149 = .ok (.iconst 3, 1) := by decide +kernel
theorem dL_law_150 : decode cL_law 150 = .ok (.iadd, 1) := by decide +kernel
theorem dL_law_151 : decode cL_law 151 = .ok (.iaload, 1) := by decide +kernel
theorem dL_law_152 : decode cL_law 152 = .ok (.aload_n 0, 1) := by decide +kernel
theorem dL_law_153 : decode cL_law 153 = .ok (.iload_n 3, 1) := by decide +kernel
theorem dL_law_154 : decode cL_law 154 = .ok (.iconst 4, 1) := by decide +kernel
theorem dL_law_155 : decode cL_law 155 = .ok (.iadd, 1) := by decide +kernel
theorem dL_law_156 : decode cL_law 156 = .ok (.iaload, 1) := by decide +kernel
theorem dL_law_157 : decode cL_law 157 = .ok (.aload_n 0, 1) := by decide +kernel
theorem dL_law_158 : decode cL_law 158 = .ok (.iload_n 3, 1) := by decide +kernel
theorem dL_law_159 : decode cL_law 159 = .ok (.iconst 5, 1) := by decide +kernel
theorem dL_law_160 : decode cL_law 160 = .ok (.iadd, 1) := by decide +kernel
theorem dL_law_161 : decode cL_law 161 = .ok (.iaload, 1) := by decide +kernel
theorem dL_law_162 : decode cL_law 162 = .ok (.invokevirtual 13, 3) := by decide +kernel
theorem dL_law_165 : decode cL_law 165 = .ok (.aload_n 2, 1) := by decide +kernel
theorem dL_law_166 : decode cL_law 166 = .ok (.aload_n 0, 1) := by decide +kernel
theorem dL_law_167 : decode cL_law 167 = .ok (.iload_n 3, 1) := by decide +kernel
theorem dL_law_168 : decode cL_law 168 = .ok (.iconst 1, 1) := by decide +kernel
theorem dL_law_169 : decode cL_law 169 = .ok (.iadd, 1) := by decide +kernel
theorem dL_law_170 : decode cL_law 170 = .ok (.iaload, 1) := by decide +kernel
theorem dL_law_171 : decode cL_law 171 = .ok (.aload_n 0, 1) := by decide +kernel
theorem dL_law_172 : decode cL_law 172 = .ok (.iload_n 3, 1) := by decide +kernel
theorem dL_law_173 : decode cL_law 173 = .ok (.iconst 2, 1) := by decide +kernel
theorem dL_law_174 : decode cL_law 174 = .ok (.iadd, 1) := by decide +kernel
theorem dL_law_175 : decode cL_law 175 = .ok (.iaload, 1) := by decide +kernel
theorem dL_law_176 : decode cL_law 176 = .ok (.aload_n 0, 1) := by decide +kernel
theorem dL_law_177 : decode cL_law 177 = .ok (.iload_n 3, 1) := by decide +kernel
theorem dL_law_178 : decode cL_law 178 = .ok (.iconst 3, 1) := by decide +kernel
theorem dL_law_179 : decode cL_law 179 = .ok (.iadd, 1) := by decide +kernel
theorem dL_law_180 : decode cL_law 180 = .ok (.iaload, 1) := by decide +kernel
theorem dL_law_181 : decode cL_law 181 = .ok (.aload_n 0, 1) := by decide +kernel
theorem dL_law_182 : decode cL_law 182 = .ok (.iload_n 3, 1) := by decide +kernel
theorem dL_law_183 : decode cL_law 183 = .ok (.iconst 4, 1) := by decide +kernel
theorem dL_law_184 : decode cL_law 184 = .ok (.iadd, 1) := by decide +kernel
theorem dL_law_185 : decode cL_law 185 = .ok (.iaload, 1) := by decide +kernel
theorem dL_law_186 : decode cL_law 186 = .ok (.aload_n 0, 1) := by decide +kernel
theorem dL_law_187 : decode cL_law 187 = .ok (.iload_n 3, 1) := by decide +kernel
theorem dL_law_188 : decode cL_law 188 = .ok (.iconst 5, 1) := by decide +kernel
theorem dL_law_189 : decode cL_law 189 = .ok (.iadd, 1) := by decide +kernel
theorem dL_law_190 : decode cL_law 190 = .ok (.iaload, 1) := by decide +kernel
theorem dL_law_191 : decode cL_law 191 = .ok (.invokevirtual 17, 3) := by decide +kernel
theorem dL_law_194 : decode cL_law 194 = .ok (.if_icmp .eq 670, 3) := by decide +kernel
theorem dL_law_197 : decode cL_law 197 = .ok (.iconst 0, 1) := by decide +kernel
theorem dL_law_198 : decode cL_law 198 = .ok (.ireturn, 1) := by decide +kernel
theorem dL_law_199 : decode cL_law 199 = .ok (.aload_n 1, 1) := by decide +kernel
theorem dL_law_200 : decode cL_law 200 = .ok (.aload_n 0, 1) := by decide +kernel
theorem dL_law_201 : decode cL_law 201 = .ok (.iload_n 3, 1) := by decide +kernel
theorem dL_law_202 : decode cL_law 202 = .ok (.iconst 1, 1) := by decide +kernel
theorem dL_law_203 : decode cL_law 203 = .ok (.iadd, 1) := by decide +kernel
theorem dL_law_204 : decode cL_law 204 = .ok (.iaload, 1) := by decide +kernel
theorem dL_law_205 : decode cL_law 205 = .ok (.invokevirtual 18, 3) := by decide +kernel
theorem dL_law_208 : decode cL_law 208 = .ok (.aload_n 2, 1) := by decide +kernel
theorem dL_law_209 : decode cL_law 209 = .ok (.aload_n 0, 1) := by decide +kernel
theorem dL_law_210 : decode cL_law 210 = .ok (.iload_n 3, 1) := by decide +kernel
theorem dL_law_211 : decode cL_law 211 = .ok (.iconst 1, 1) := by decide +kernel
theorem dL_law_212 : decode cL_law 212 = .ok (.iadd, 1) := by decide +kernel
theorem dL_law_213 : decode cL_law 213 = .ok (.iaload, 1) := by decide +kernel
theorem dL_law_214 : decode cL_law 214 = .ok (.invokevirtual 22, 3) := by decide +kernel
theorem dL_law_217 : decode cL_law 217 = .ok (.if_icmp .eq 647, 3) := by decide +kernel
theorem dL_law_220 : decode cL_law 220 = .ok (.iconst 0, 1) := by decide +kernel
theorem dL_law_221 : decode cL_law 221 = .ok (.ireturn, 1) := by decide +kernel
theorem dL_law_222 : decode cL_law 222 = .ok (.aload_n 1, 1) := by decide +kernel
theorem dL_law_223 : decode cL_law 223 = .ok (.aload_n 0, 1) := by decide +kernel
theorem dL_law_224 : decode cL_law 224 = .ok (.iload_n 3, 1) := by decide +kernel
theorem dL_law_225 : decode cL_law 225 = .ok (.iconst 1, 1) := by decide +kernel
theorem dL_law_226 : decode cL_law 226 = .ok (.iadd, 1) := by decide +kernel
theorem dL_law_227 : decode cL_law 227 = .ok (.iaload, 1) := by decide +kernel
theorem dL_law_228 : decode cL_law 228 = .ok (.invokevirtual 23, 3) := by decide +kernel
theorem dL_law_231 : decode cL_law 231 = .ok (.aload_n 2, 1) := by decide +kernel
theorem dL_law_232 : decode cL_law 232 = .ok (.aload_n 0, 1) := by decide +kernel
theorem dL_law_233 : decode cL_law 233 = .ok (.iload_n 3, 1) := by decide +kernel
theorem dL_law_234 : decode cL_law 234 = .ok (.iconst 1, 1) := by decide +kernel
theorem dL_law_235 : decode cL_law 235 = .ok (.iadd, 1) := by decide +kernel
theorem dL_law_236 : decode cL_law 236 = .ok (.iaload, 1) := by decide +kernel
theorem dL_law_237 : decode cL_law 237 = .ok (.invokevirtual 27, 3) := by decide +kernel
theorem dL_law_240 : decode cL_law 240 = .ok (.if_icmp .eq 624, 3) := by decide +kernel
theorem dL_law_243 : decode cL_law 243 = .ok (.iconst 0, 1) := by decide +kernel
theorem dL_law_244 : decode cL_law 244 = .ok (.ireturn, 1) := by decide +kernel
theorem dL_law_245 : decode cL_law 245 = .ok (.aload_n 1, 1) := by decide +kernel
theorem dL_law_246 : decode cL_law 246 = .ok (.aload_n 0, 1) := by decide +kernel
theorem dL_law_247 : decode cL_law 247 = .ok (.iload_n 3, 1) := by decide +kernel
theorem dL_law_248 : decode cL_law 248 = .ok (.iconst 1, 1) := by decide +kernel
theorem dL_law_249 : decode cL_law 249 = .ok (.iadd, 1) := by decide +kernel
theorem dL_law_250 : decode cL_law 250 = .ok (.iaload, 1) := by decide +kernel
theorem dL_law_251 : decode cL_law 251 = .ok (.aload_n 0, 1) := by decide +kernel
theorem dL_law_252 : decode cL_law 252 = .ok (.iload_n 3, 1) := by decide +kernel
theorem dL_law_253 : decode cL_law 253 = .ok (.iconst 2, 1) := by decide +kernel
theorem dL_law_254 : decode cL_law 254 = .ok (.iadd, 1) := by decide +kernel
theorem dL_law_255 : decode cL_law 255 = .ok (.iaload, 1) := by decide +kernel
theorem dL_law_256 : decode cL_law 256 = .ok (.aload_n 0, 1) := by decide +kernel
theorem dL_law_257 : decode cL_law 257 = .ok (.iload_n 3, 1) := by decide +kernel
theorem dL_law_258 : decode cL_law 258 = .ok (.iconst 3, 1) := by decide +kernel
theorem dL_law_259 : decode cL_law 259 = .ok (.iadd, 1) := by decide +kernel
theorem dL_law_260 : decode cL_law 260 = .ok (.iaload, 1) := by decide +kernel
theorem dL_law_261 : decode cL_law 261 = .ok (.aload_n 0, 1) := by decide +kernel
theorem dL_law_262 : decode cL_law 262 = .ok (.iload_n 3, 1) := by decide +kernel
theorem dL_law_263 : decode cL_law 263 = .ok (.iconst 4, 1) := by decide +kernel
theorem dL_law_264 : decode cL_law 264 = .ok (.iadd, 1) := by decide +kernel
theorem dL_law_265 : decode cL_law 265 = .ok (.iaload, 1) := by decide +kernel
theorem dL_law_266 : decode cL_law 266 = .ok (.invokevirtual 28, 3) := by decide +kernel
theorem dL_law_269 : decode cL_law 269 = .ok (.aload_n 2, 1) := by decide +kernel
theorem dL_law_270 : decode cL_law 270 = .ok (.aload_n 0, 1) := by decide +kernel
theorem dL_law_271 : decode cL_law 271 = .ok (.iload_n 3, 1) := by decide +kernel
theorem dL_law_272 : decode cL_law 272 = .ok (.iconst 1, 1) := by decide +kernel
theorem dL_law_273 : decode cL_law 273 = .ok (.iadd, 1) := by decide +kernel
theorem dL_law_274 : decode cL_law 274 = .ok (.iaload, 1) := by decide +kernel
theorem dL_law_275 : decode cL_law 275 = .ok (.aload_n 0, 1) := by decide +kernel
theorem dL_law_276 : decode cL_law 276 = .ok (.iload_n 3, 1) := by decide +kernel
theorem dL_law_277 : decode cL_law 277 = .ok (.iconst 2, 1) := by decide +kernel
theorem dL_law_278 : decode cL_law 278 = .ok (.iadd, 1) := by decide +kernel
theorem dL_law_279 : decode cL_law 279 = .ok (.iaload, 1) := by decide +kernel
theorem dL_law_280 : decode cL_law 280 = .ok (.aload_n 0, 1) := by decide +kernel
theorem dL_law_281 : decode cL_law 281 = .ok (.iload_n 3, 1) := by decide +kernel
theorem dL_law_282 : decode cL_law 282 = .ok (.iconst 3, 1) := by decide +kernel
theorem dL_law_283 : decode cL_law 283 = .ok (.iadd, 1) := by decide +kernel
theorem dL_law_284 : decode cL_law 284 = .ok (.iaload, 1) := by decide +kernel
theorem dL_law_285 : decode cL_law 285 = .ok (.aload_n 0, 1) := by decide +kernel
theorem dL_law_286 : decode cL_law 286 = .ok (.iload_n 3, 1) := by decide +kernel
theorem dL_law_287 : decode cL_law 287 = .ok (.iconst 4, 1) := by decide +kernel
theorem dL_law_288 : decode cL_law 288 = .ok (.iadd, 1) := by decide +kernel
theorem dL_law_289 : decode cL_law 289 = .ok (.iaload, 1) := by decide +kernel
theorem dL_law_290 : decode cL_law 290 = .ok (.invokevirtual 32, 3) := by decide +kernel
theorem dL_law_293 : decode cL_law 293 = .ok (.if_icmp .eq 571, 3) := by decide +kernel
theorem dL_law_296 : decode cL_law 296 = .ok (.iconst 0, 1) := by decide +kernel
theorem dL_law_297 : decode cL_law 297 = .ok (.ireturn, 1) := by decide +kernel
theorem dL_law_298 : decode cL_law 298 = .ok (.aload_n 1, 1) := by decide +kernel
theorem dL_law_299 : decode cL_law 299 = .ok (.aload_n 0, 1) := by decide +kernel
theorem dL_law_300 : decode cL_law 300 = .ok (.iload_n 3, 1) := by decide +kernel
theorem dL_law_301 : decode cL_law 301 = .ok (.iconst 1, 1) := by decide +kernel
theorem dL_law_302 : decode cL_law 302 = .ok (.iadd, 1) := by decide +kernel
theorem dL_law_303 : decode cL_law 303 = .ok (.iaload, 1) := by decide +kernel
theorem dL_law_304 : decode cL_law 304 = .ok (.invokevirtual 33, 3) := by decide +kernel
theorem dL_law_307 : decode cL_law 307 = .ok (.aload_n 2, 1) := by decide +kernel
theorem dL_law_308 : decode cL_law 308 = .ok (.aload_n 0, 1) := by decide +kernel
theorem dL_law_309 : decode cL_law 309 = .ok (.iload_n 3, 1) := by decide +kernel
theorem dL_law_310 : decode cL_law 310 = .ok (.iconst 1, 1) := by decide +kernel
theorem dL_law_311 : decode cL_law 311 = .ok (.iadd, 1) := by decide +kernel
theorem dL_law_312 : decode cL_law 312 = .ok (.iaload, 1) := by decide +kernel
theorem dL_law_313 : decode cL_law 313 = .ok (.invokevirtual 36, 3) := by decide +kernel
theorem dL_law_316 : decode cL_law 316 = .ok (.if_icmp .eq 548, 3) := by decide +kernel
theorem dL_law_319 : decode cL_law 319 = .ok (.iconst 0, 1) := by decide +kernel
theorem dL_law_320 : decode cL_law 320 = .ok (.ireturn, 1) := by decide +kernel
theorem dL_law_321 : decode cL_law 321 = .ok (.aload_n 1, 1) := by decide +kernel
theorem dL_law_322 : decode cL_law 322 = .ok (.aload_n 0, 1) := by decide +kernel
theorem dL_law_323 : decode cL_law 323 = .ok (.iload_n 3, 1) := by decide +kernel
theorem dL_law_324 : decode cL_law 324 = .ok (.iconst 1, 1) := by decide +kernel
theorem dL_law_325 : decode cL_law 325 = .ok (.iadd, 1) := by decide +kernel
theorem dL_law_326 : decode cL_law 326 = .ok (.iaload, 1) := by decide +kernel
theorem dL_law_327 : decode cL_law 327 = .ok (.invokevirtual 37, 3) := by decide +kernel
theorem dL_law_330 : decode cL_law 330 = .ok (.aload_n 2, 1) := by decide +kernel
theorem dL_law_331 : decode cL_law 331 = .ok (.aload_n 0, 1) := by decide +kernel
theorem dL_law_332 : decode cL_law 332 = .ok (.iload_n 3, 1) := by decide +kernel
theorem dL_law_333 : decode cL_law 333 = .ok (.iconst 1, 1) := by decide +kernel
theorem dL_law_334 : decode cL_law 334 = .ok (.iadd, 1) := by decide +kernel
theorem dL_law_335 : decode cL_law 335 = .ok (.iaload, 1) := by decide +kernel
theorem dL_law_336 : decode cL_law 336 = .ok (.invokevirtual 40, 3) := by decide +kernel
theorem dL_law_339 : decode cL_law 339 = .ok (.if_icmp .eq 525, 3) := by decide +kernel
theorem dL_law_342 : decode cL_law 342 = .ok (.iconst 0, 1) := by decide +kernel
theorem dL_law_343 : decode cL_law 343 = .ok (.ireturn, 1) := by decide +kernel
theorem dL_law_344 : decode cL_law 344 = .ok (.aload_n 1, 1) := by decide +kernel
theorem dL_law_345 : decode cL_law 345 = .ok (.aload_n 0, 1) := by decide +kernel
theorem dL_law_346 : decode cL_law 346 = .ok (.iload_n 3, 1) := by decide +kernel
theorem dL_law_347 : decode cL_law 347 = .ok (.iconst 1, 1) := by decide +kernel
theorem dL_law_348 : decode cL_law 348 = .ok (.iadd, 1) := by decide +kernel
theorem dL_law_349 : decode cL_law 349 = .ok (.iaload, 1) := by decide +kernel
theorem dL_law_350 : decode cL_law 350 = .ok (.aload_n 0, 1) := by decide +kernel
theorem dL_law_351 : decode cL_law 351 = .ok (.iload_n 3, 1) := by decide +kernel
theorem dL_law_352 : decode cL_law 352 = .ok (.iconst 2, 1) := by decide +kernel
theorem dL_law_353 : decode cL_law 353 = .ok (.iadd, 1) := by decide +kernel
theorem dL_law_354 : decode cL_law 354 = .ok (.iaload, 1) := by decide +kernel
theorem dL_law_355 : decode cL_law 355 = .ok (.invokevirtual 41, 3) := by decide +kernel
theorem dL_law_358 : decode cL_law 358 = .ok (.aload_n 2, 1) := by decide +kernel
theorem dL_law_359 : decode cL_law 359 = .ok (.aload_n 0, 1) := by decide +kernel
theorem dL_law_360 : decode cL_law 360 = .ok (.iload_n 3, 1) := by decide +kernel
theorem dL_law_361 : decode cL_law 361 = .ok (.iconst 1, 1) := by decide +kernel
theorem dL_law_362 : decode cL_law 362 = .ok (.iadd, 1) := by decide +kernel
theorem dL_law_363 : decode cL_law 363 = .ok (.iaload, 1) := by decide +kernel
theorem dL_law_364 : decode cL_law 364 = .ok (.aload_n 0, 1) := by decide +kernel
theorem dL_law_365 : decode cL_law 365 = .ok (.iload_n 3, 1) := by decide +kernel
theorem dL_law_366 : decode cL_law 366 = .ok (.iconst 2, 1) := by decide +kernel
theorem dL_law_367 : decode cL_law 367 = .ok (.iadd, 1) := by decide +kernel
theorem dL_law_368 : decode cL_law 368 = .ok (.iaload, 1) := by decide +kernel
theorem dL_law_369 : decode cL_law 369 = .ok (.invokevirtual 45, 3) := by decide +kernel
theorem dL_law_372 : decode cL_law 372 = .ok (.if_icmp .eq 492, 3) := by decide +kernel
theorem dL_law_375 : decode cL_law 375 = .ok (.iconst 0, 1) := by decide +kernel
theorem dL_law_376 : decode cL_law 376 = .ok (.ireturn, 1) := by decide +kernel
theorem dL_law_377 : decode cL_law 377 = .ok (.aload_n 1, 1) := by decide +kernel
theorem dL_law_378 : decode cL_law 378 = .ok (.aload_n 0, 1) := by decide +kernel
theorem dL_law_379 : decode cL_law 379 = .ok (.iload_n 3, 1) := by decide +kernel
theorem dL_law_380 : decode cL_law 380 = .ok (.iconst 1, 1) := by decide +kernel
theorem dL_law_381 : decode cL_law 381 = .ok (.iadd, 1) := by decide +kernel
theorem dL_law_382 : decode cL_law 382 = .ok (.iaload, 1) := by decide +kernel
theorem dL_law_383 : decode cL_law 383 = .ok (.aload_n 0, 1) := by decide +kernel
theorem dL_law_384 : decode cL_law 384 = .ok (.iload_n 3, 1) := by decide +kernel
theorem dL_law_385 : decode cL_law 385 = .ok (.iconst 2, 1) := by decide +kernel
theorem dL_law_386 : decode cL_law 386 = .ok (.iadd, 1) := by decide +kernel
theorem dL_law_387 : decode cL_law 387 = .ok (.iaload, 1) := by decide +kernel
theorem dL_law_388 : decode cL_law 388 = .ok (.aload_n 0, 1) := by decide +kernel
theorem dL_law_389 : decode cL_law 389 = .ok (.iload_n 3, 1) := by decide +kernel
theorem dL_law_390 : decode cL_law 390 = .ok (.iconst 3, 1) := by decide +kernel
theorem dL_law_391 : decode cL_law 391 = .ok (.iadd, 1) := by decide +kernel
theorem dL_law_392 : decode cL_law 392 = .ok (.iaload, 1) := by decide +kernel
theorem dL_law_393 : decode cL_law 393 = .ok (.aload_n 0, 1) := by decide +kernel
theorem dL_law_394 : decode cL_law 394 = .ok (.iload_n 3, 1) := by decide +kernel
theorem dL_law_395 : decode cL_law 395 = .ok (.iconst 4, 1) := by decide +kernel
theorem dL_law_396 : decode cL_law 396 = .ok (.iadd, 1) := by decide +kernel
theorem dL_law_397 : decode cL_law 397 = .ok (.iaload, 1) := by decide +kernel
theorem dL_law_398 : decode cL_law 398 = .ok (.invokevirtual 46, 3) := by decide +kernel
theorem dL_law_401 : decode cL_law 401 = .ok (.aload_n 2, 1) := by decide +kernel
theorem dL_law_402 : decode cL_law 402 = .ok (.aload_n 0, 1) := by decide +kernel
theorem dL_law_403 : decode cL_law 403 = .ok (.iload_n 3, 1) := by decide +kernel
theorem dL_law_404 : decode cL_law 404 = .ok (.iconst 1, 1) := by decide +kernel
theorem dL_law_405 : decode cL_law 405 = .ok (.iadd, 1) := by decide +kernel
theorem dL_law_406 : decode cL_law 406 = .ok (.iaload, 1) := by decide +kernel
theorem dL_law_407 : decode cL_law 407 = .ok (.aload_n 0, 1) := by decide +kernel
theorem dL_law_408 : decode cL_law 408 = .ok (.iload_n 3, 1) := by decide +kernel
theorem dL_law_409 : decode cL_law 409 = .ok (.iconst 2, 1) := by decide +kernel
theorem dL_law_410 : decode cL_law 410 = .ok (.iadd, 1) := by decide +kernel
theorem dL_law_411 : decode cL_law 411 = .ok (.iaload, 1) := by decide +kernel
theorem dL_law_412 : decode cL_law 412 = .ok (.aload_n 0, 1) := by decide +kernel
theorem dL_law_413 : decode cL_law 413 = .ok (.iload_n 3, 1) := by decide +kernel
theorem dL_law_414 : decode cL_law 414 = .ok (.iconst 3, 1) := by decide +kernel
theorem dL_law_415 : decode cL_law 415 = .ok (.iadd, 1) := by decide +kernel
theorem dL_law_416 : decode cL_law 416 = .ok (.iaload, 1) := by decide +kernel
theorem dL_law_417 : decode cL_law 417 = .ok (.aload_n 0, 1) := by decide +kernel
theorem dL_law_418 : decode cL_law 418 = .ok (.iload_n 3, 1) := by decide +kernel
theorem dL_law_419 : decode cL_law 419 = .ok (.iconst 4, 1) := by decide +kernel
theorem dL_law_420 : decode cL_law 420 = .ok (.iadd, 1) := by decide +kernel
theorem dL_law_421 : decode cL_law 421 = .ok (.iaload, 1) := by decide +kernel
theorem dL_law_422 : decode cL_law 422 = .ok (.invokevirtual 50, 3) := by decide +kernel
theorem dL_law_425 : decode cL_law 425 = .ok (.if_icmp .eq 439, 3) := by decide +kernel
theorem dL_law_428 : decode cL_law 428 = .ok (.iconst 0, 1) := by decide +kernel
theorem dL_law_429 : decode cL_law 429 = .ok (.ireturn, 1) := by decide +kernel
theorem dL_law_430 : decode cL_law 430 = .ok (.aload_n 1, 1) := by decide +kernel
theorem dL_law_431 : decode cL_law 431 = .ok (.aload_n 0, 1) := by decide +kernel
theorem dL_law_432 : decode cL_law 432 = .ok (.iload_n 3, 1) := by decide +kernel
theorem dL_law_433 : decode cL_law 433 = .ok (.iconst 1, 1) := by decide +kernel
theorem dL_law_434 : decode cL_law 434 = .ok (.iadd, 1) := by decide +kernel
theorem dL_law_435 : decode cL_law 435 = .ok (.iaload, 1) := by decide +kernel
theorem dL_law_436 : decode cL_law 436 = .ok (.invokevirtual 51, 3) := by decide +kernel
theorem dL_law_439 : decode cL_law 439 = .ok (.aload_n 2, 1) := by decide +kernel
theorem dL_law_440 : decode cL_law 440 = .ok (.aload_n 0, 1) := by decide +kernel
theorem dL_law_441 : decode cL_law 441 = .ok (.iload_n 3, 1) := by decide +kernel
theorem dL_law_442 : decode cL_law 442 = .ok (.iconst 1, 1) := by decide +kernel
theorem dL_law_443 : decode cL_law 443 = .ok (.iadd, 1) := by decide +kernel
theorem dL_law_444 : decode cL_law 444 = .ok (.iaload, 1) := by decide +kernel
theorem dL_law_445 : decode cL_law 445 = .ok (.invokevirtual 54, 3) := by decide +kernel
theorem dL_law_448 : decode cL_law 448 = .ok (.if_icmp .eq 416, 3) := by decide +kernel
theorem dL_law_451 : decode cL_law 451 = .ok (.iconst 0, 1) := by decide +kernel
theorem dL_law_452 : decode cL_law 452 = .ok (.ireturn, 1) := by decide +kernel
theorem dL_law_453 : decode cL_law 453 = .ok (.aload_n 1, 1) := by decide +kernel
theorem dL_law_454 : decode cL_law 454 = .ok (.aload_n 0, 1) := by decide +kernel
theorem dL_law_455 : decode cL_law 455 = .ok (.iload_n 3, 1) := by decide +kernel
theorem dL_law_456 : decode cL_law 456 = .ok (.iconst 1, 1) := by decide +kernel
theorem dL_law_457 : decode cL_law 457 = .ok (.iadd, 1) := by decide +kernel
theorem dL_law_458 : decode cL_law 458 = .ok (.iaload, 1) := by decide +kernel
theorem dL_law_459 : decode cL_law 459 = .ok (.aload_n 0, 1) := by decide +kernel
theorem dL_law_460 : decode cL_law 460 = .ok (.iload_n 3, 1) := by decide +kernel
theorem dL_law_461 : decode cL_law 461 = .ok (.iconst 2, 1) := by decide +kernel
theorem dL_law_462 : decode cL_law 462 = .ok (.iadd, 1) := by decide +kernel
theorem dL_law_463 : decode cL_law 463 = .ok (.iaload, 1) := by decide +kernel
theorem dL_law_464 : decode cL_law 464 = .ok (.invokevirtual 55, 3) := by decide +kernel
theorem dL_law_467 : decode cL_law 467 = .ok (.aload_n 2, 1) := by decide +kernel
theorem dL_law_468 : decode cL_law 468 = .ok (.aload_n 0, 1) := by decide +kernel
theorem dL_law_469 : decode cL_law 469 = .ok (.iload_n 3, 1) := by decide +kernel
theorem dL_law_470 : decode cL_law 470 = .ok (.iconst 1, 1) := by decide +kernel
theorem dL_law_471 : decode cL_law 471 = .ok (.iadd, 1) := by decide +kernel
theorem dL_law_472 : decode cL_law 472 = .ok (.iaload, 1) := by decide +kernel
theorem dL_law_473 : decode cL_law 473 = .ok (.aload_n 0, 1) := by decide +kernel
theorem dL_law_474 : decode cL_law 474 = .ok (.iload_n 3, 1) := by decide +kernel
theorem dL_law_475 : decode cL_law 475 = .ok (.iconst 2, 1) := by decide +kernel
theorem dL_law_476 : decode cL_law 476 = .ok (.iadd, 1) := by decide +kernel
theorem dL_law_477 : decode cL_law 477 = .ok (.iaload, 1) := by decide +kernel
theorem dL_law_478 : decode cL_law 478 = .ok (.invokevirtual 59, 3) := by decide +kernel
theorem dL_law_481 : decode cL_law 481 = .ok (.if_icmp .eq 383, 3) := by decide +kernel
theorem dL_law_484 : decode cL_law 484 = .ok (.iconst 0, 1) := by decide +kernel
theorem dL_law_485 : decode cL_law 485 = .ok (.ireturn, 1) := by decide +kernel
theorem dL_law_486 : decode cL_law 486 = .ok (.aload_n 1, 1) := by decide +kernel
theorem dL_law_487 : decode cL_law 487 = .ok (.aload_n 0, 1) := by decide +kernel
theorem dL_law_488 : decode cL_law 488 = .ok (.iload_n 3, 1) := by decide +kernel
theorem dL_law_489 : decode cL_law 489 = .ok (.iconst 1, 1) := by decide +kernel
theorem dL_law_490 : decode cL_law 490 = .ok (.iadd, 1) := by decide +kernel
theorem dL_law_491 : decode cL_law 491 = .ok (.iaload, 1) := by decide +kernel
theorem dL_law_492 : decode cL_law 492 = .ok (.invokevirtual 60, 3) := by decide +kernel
theorem dL_law_495 : decode cL_law 495 = .ok (.aload_n 2, 1) := by decide +kernel
theorem dL_law_496 : decode cL_law 496 = .ok (.aload_n 0, 1) := by decide +kernel
theorem dL_law_497 : decode cL_law 497 = .ok (.iload_n 3, 1) := by decide +kernel
theorem dL_law_498 : decode cL_law 498 = .ok (.iconst 1, 1) := by decide +kernel
theorem dL_law_499 : decode cL_law 499 = .ok (.iadd, 1) := by decide +kernel
theorem dL_law_500 : decode cL_law 500 = .ok (.iaload, 1) := by decide +kernel
theorem dL_law_501 : decode cL_law 501 = .ok (.invokevirtual 63, 3) := by decide +kernel
theorem dL_law_504 : decode cL_law 504 = .ok (.if_icmp .eq 360, 3) := by decide +kernel
theorem dL_law_507 : decode cL_law 507 = .ok (.iconst 0, 1) := by decide +kernel
theorem dL_law_508 : decode cL_law 508 = .ok (.ireturn, 1) := by decide +kernel
theorem dL_law_509 : decode cL_law 509 = .ok (.aload_n 1, 1) := by decide +kernel
theorem dL_law_510 : decode cL_law 510 = .ok (.aload_n 0, 1) := by decide +kernel
theorem dL_law_511 : decode cL_law 511 = .ok (.iload_n 3, 1) := by decide +kernel
theorem dL_law_512 : decode cL_law 512 = .ok (.iconst 1, 1) := by decide +kernel
theorem dL_law_513 : decode cL_law 513 = .ok (.iadd, 1) := by decide +kernel
theorem dL_law_514 : decode cL_law 514 = .ok (.iaload, 1) := by decide +kernel
theorem dL_law_515 : decode cL_law 515 = .ok (.aload_n 0, 1) := by decide +kernel
theorem dL_law_516 : decode cL_law 516 = .ok (.iload_n 3, 1) := by decide +kernel
theorem dL_law_517 : decode cL_law 517 = .ok (.iconst 2, 1) := by decide +kernel
theorem dL_law_518 : decode cL_law 518 = .ok (.iadd, 1) := by decide +kernel
theorem dL_law_519 : decode cL_law 519 = .ok (.iaload, 1) := by decide +kernel
theorem dL_law_520 : decode cL_law 520 = .ok (.invokevirtual 64, 3) := by decide +kernel
theorem dL_law_523 : decode cL_law 523 = .ok (.aload_n 2, 1) := by decide +kernel
theorem dL_law_524 : decode cL_law 524 = .ok (.aload_n 0, 1) := by decide +kernel
theorem dL_law_525 : decode cL_law 525 = .ok (.iload_n 3, 1) := by decide +kernel
theorem dL_law_526 : decode cL_law 526 = .ok (.iconst 1, 1) := by decide +kernel
theorem dL_law_527 : decode cL_law 527 = .ok (.iadd, 1) := by decide +kernel
theorem dL_law_528 : decode cL_law 528 = .ok (.iaload, 1) := by decide +kernel
theorem dL_law_529 : decode cL_law 529 = .ok (.aload_n 0, 1) := by decide +kernel
theorem dL_law_530 : decode cL_law 530 = .ok (.iload_n 3, 1) := by decide +kernel
theorem dL_law_531 : decode cL_law 531 = .ok (.iconst 2, 1) := by decide +kernel
theorem dL_law_532 : decode cL_law 532 = .ok (.iadd, 1) := by decide +kernel
theorem dL_law_533 : decode cL_law 533 = .ok (.iaload, 1) := by decide +kernel
theorem dL_law_534 : decode cL_law 534 = .ok (.invokevirtual 67, 3) := by decide +kernel
theorem dL_law_537 : decode cL_law 537 = .ok (.if_icmp .eq 327, 3) := by decide +kernel
theorem dL_law_540 : decode cL_law 540 = .ok (.iconst 0, 1) := by decide +kernel
theorem dL_law_541 : decode cL_law 541 = .ok (.ireturn, 1) := by decide +kernel
theorem dL_law_542 : decode cL_law 542 = .ok (.aload_n 1, 1) := by decide +kernel
theorem dL_law_543 : decode cL_law 543 = .ok (.aload_n 0, 1) := by decide +kernel
theorem dL_law_544 : decode cL_law 544 = .ok (.iload_n 3, 1) := by decide +kernel
theorem dL_law_545 : decode cL_law 545 = .ok (.iconst 1, 1) := by decide +kernel
theorem dL_law_546 : decode cL_law 546 = .ok (.iadd, 1) := by decide +kernel
theorem dL_law_547 : decode cL_law 547 = .ok (.iaload, 1) := by decide +kernel
theorem dL_law_548 : decode cL_law 548 = .ok (.aload_n 0, 1) := by decide +kernel
theorem dL_law_549 : decode cL_law 549 = .ok (.iload_n 3, 1) := by decide +kernel
theorem dL_law_550 : decode cL_law 550 = .ok (.iconst 2, 1) := by decide +kernel
theorem dL_law_551 : decode cL_law 551 = .ok (.iadd, 1) := by decide +kernel
theorem dL_law_552 : decode cL_law 552 = .ok (.iaload, 1) := by decide +kernel
theorem dL_law_553 : decode cL_law 553 = .ok (.aload_n 0, 1) := by decide +kernel
theorem dL_law_554 : decode cL_law 554 = .ok (.iload_n 3, 1) := by decide +kernel
theorem dL_law_555 : decode cL_law 555 = .ok (.iconst 3, 1) := by decide +kernel
theorem dL_law_556 : decode cL_law 556 = .ok (.iadd, 1) := by decide +kernel
theorem dL_law_557 : decode cL_law 557 = .ok (.iaload, 1) := by decide +kernel
theorem dL_law_558 : decode cL_law 558 = .ok (.aload_n 0, 1) := by decide +kernel
theorem dL_law_559 : decode cL_law 559 = .ok (.iload_n 3, 1) := by decide +kernel
theorem dL_law_560 : decode cL_law 560 = .ok (.iconst 4, 1) := by decide +kernel
theorem dL_law_561 : decode cL_law 561 = .ok (.iadd, 1) := by decide +kernel
theorem dL_law_562 : decode cL_law 562 = .ok (.iaload, 1) := by decide +kernel
theorem dL_law_563 : decode cL_law 563 = .ok (.invokevirtual 68, 3) := by decide +kernel
theorem dL_law_566 : decode cL_law 566 = .ok (.aload_n 2, 1) := by decide +kernel
theorem dL_law_567 : decode cL_law 567 = .ok (.aload_n 0, 1) := by decide +kernel
theorem dL_law_568 : decode cL_law 568 = .ok (.iload_n 3, 1) := by decide +kernel
theorem dL_law_569 : decode cL_law 569 = .ok (.iconst 1, 1) := by decide +kernel
theorem dL_law_570 : decode cL_law 570 = .ok (.iadd, 1) := by decide +kernel
theorem dL_law_571 : decode cL_law 571 = .ok (.iaload, 1) := by decide +kernel
theorem dL_law_572 : decode cL_law 572 = .ok (.aload_n 0, 1) := by decide +kernel
theorem dL_law_573 : decode cL_law 573 = .ok (.iload_n 3, 1) := by decide +kernel
theorem dL_law_574 : decode cL_law 574 = .ok (.iconst 2, 1) := by decide +kernel
theorem dL_law_575 : decode cL_law 575 = .ok (.iadd, 1) := by decide +kernel
theorem dL_law_576 : decode cL_law 576 = .ok (.iaload, 1) := by decide +kernel
theorem dL_law_577 : decode cL_law 577 = .ok (.aload_n 0, 1) := by decide +kernel
theorem dL_law_578 : decode cL_law 578 = .ok (.iload_n 3, 1) := by decide +kernel
theorem dL_law_579 : decode cL_law 579 = .ok (.iconst 3, 1) := by decide +kernel
theorem dL_law_580 : decode cL_law 580 = .ok (.iadd, 1) := by decide +kernel
theorem dL_law_581 : decode cL_law 581 = .ok (.iaload, 1) := by decide +kernel
theorem dL_law_582 : decode cL_law 582 = .ok (.aload_n 0, 1) := by decide +kernel
theorem dL_law_583 : decode cL_law 583 = .ok (.iload_n 3, 1) := by decide +kernel
theorem dL_law_584 : decode cL_law 584 = .ok (.iconst 4, 1) := by decide +kernel
theorem dL_law_585 : decode cL_law 585 = .ok (.iadd, 1) := by decide +kernel
theorem dL_law_586 : decode cL_law 586 = .ok (.iaload, 1) := by decide +kernel
theorem dL_law_587 : decode cL_law 587 = .ok (.invokevirtual 71, 3) := by decide +kernel
theorem dL_law_590 : decode cL_law 590 = .ok (.if_icmp .eq 274, 3) := by decide +kernel
theorem dL_law_593 : decode cL_law 593 = .ok (.iconst 0, 1) := by decide +kernel
theorem dL_law_594 : decode cL_law 594 = .ok (.ireturn, 1) := by decide +kernel
theorem dL_law_595 : decode cL_law 595 = .ok (.aload_n 1, 1) := by decide +kernel
theorem dL_law_596 : decode cL_law 596 = .ok (.aload_n 0, 1) := by decide +kernel
theorem dL_law_597 : decode cL_law 597 = .ok (.iload_n 3, 1) := by decide +kernel
theorem dL_law_598 : decode cL_law 598 = .ok (.iconst 1, 1) := by decide +kernel
theorem dL_law_599 : decode cL_law 599 = .ok (.iadd, 1) := by decide +kernel
theorem dL_law_600 : decode cL_law 600 = .ok (.iaload, 1) := by decide +kernel
theorem dL_law_601 : decode cL_law 601 = .ok (.aload_n 0, 1) := by decide +kernel
theorem dL_law_602 : decode cL_law 602 = .ok (.iload_n 3, 1) := by decide +kernel
theorem dL_law_603 : decode cL_law 603 = .ok (.iconst 2, 1) := by decide +kernel
theorem dL_law_604 : decode cL_law 604 = .ok (.iadd, 1) := by decide +kernel
theorem dL_law_605 : decode cL_law 605 = .ok (.iaload, 1) := by decide +kernel
theorem dL_law_606 : decode cL_law 606 = .ok (.invokevirtual 72, 3) := by decide +kernel
theorem dL_law_609 : decode cL_law 609 = .ok (.aload_n 2, 1) := by decide +kernel
theorem dL_law_610 : decode cL_law 610 = .ok (.aload_n 0, 1) := by decide +kernel
theorem dL_law_611 : decode cL_law 611 = .ok (.iload_n 3, 1) := by decide +kernel
theorem dL_law_612 : decode cL_law 612 = .ok (.iconst 1, 1) := by decide +kernel
theorem dL_law_613 : decode cL_law 613 = .ok (.iadd, 1) := by decide +kernel
theorem dL_law_614 : decode cL_law 614 = .ok (.iaload, 1) := by decide +kernel
theorem dL_law_615 : decode cL_law 615 = .ok (.aload_n 0, 1) := by decide +kernel
theorem dL_law_616 : decode cL_law 616 = .ok (.iload_n 3, 1) := by decide +kernel
theorem dL_law_617 : decode cL_law 617 = .ok (.iconst 2, 1) := by decide +kernel
theorem dL_law_618 : decode cL_law 618 = .ok (.iadd, 1) := by decide +kernel
theorem dL_law_619 : decode cL_law 619 = .ok (.iaload, 1) := by decide +kernel
theorem dL_law_620 : decode cL_law 620 = .ok (.invokevirtual 75, 3) := by decide +kernel
theorem dL_law_623 : decode cL_law 623 = .ok (.if_icmp .eq 241, 3) := by decide +kernel
theorem dL_law_626 : decode cL_law 626 = .ok (.iconst 0, 1) := by decide +kernel
theorem dL_law_627 : decode cL_law 627 = .ok (.ireturn, 1) := by decide +kernel
theorem dL_law_628 : decode cL_law 628 = .ok (.aload_n 1, 1) := by decide +kernel
theorem dL_law_629 : decode cL_law 629 = .ok (.aload_n 0, 1) := by decide +kernel
theorem dL_law_630 : decode cL_law 630 = .ok (.iload_n 3, 1) := by decide +kernel
theorem dL_law_631 : decode cL_law 631 = .ok (.iconst 1, 1) := by decide +kernel
theorem dL_law_632 : decode cL_law 632 = .ok (.iadd, 1) := by decide +kernel
theorem dL_law_633 : decode cL_law 633 = .ok (.iaload, 1) := by decide +kernel
theorem dL_law_634 : decode cL_law 634 = .ok (.aload_n 0, 1) := by decide +kernel
theorem dL_law_635 : decode cL_law 635 = .ok (.iload_n 3, 1) := by decide +kernel
theorem dL_law_636 : decode cL_law 636 = .ok (.iconst 2, 1) := by decide +kernel
theorem dL_law_637 : decode cL_law 637 = .ok (.iadd, 1) := by decide +kernel
theorem dL_law_638 : decode cL_law 638 = .ok (.iaload, 1) := by decide +kernel
theorem dL_law_639 : decode cL_law 639 = .ok (.invokevirtual 76, 3) := by decide +kernel
theorem dL_law_642 : decode cL_law 642 = .ok (.aload_n 2, 1) := by decide +kernel
theorem dL_law_643 : decode cL_law 643 = .ok (.aload_n 0, 1) := by decide +kernel
theorem dL_law_644 : decode cL_law 644 = .ok (.iload_n 3, 1) := by decide +kernel
theorem dL_law_645 : decode cL_law 645 = .ok (.iconst 1, 1) := by decide +kernel
theorem dL_law_646 : decode cL_law 646 = .ok (.iadd, 1) := by decide +kernel
theorem dL_law_647 : decode cL_law 647 = .ok (.iaload, 1) := by decide +kernel
theorem dL_law_648 : decode cL_law 648 = .ok (.aload_n 0, 1) := by decide +kernel
theorem dL_law_649 : decode cL_law 649 = .ok (.iload_n 3, 1) := by decide +kernel
theorem dL_law_650 : decode cL_law 650 = .ok (.iconst 2, 1) := by decide +kernel
theorem dL_law_651 : decode cL_law 651 = .ok (.iadd, 1) := by decide +kernel
theorem dL_law_652 : decode cL_law 652 = .ok (.iaload, 1) := by decide +kernel
theorem dL_law_653 : decode cL_law 653 = .ok (.invokevirtual 79, 3) := by decide +kernel
theorem dL_law_656 : decode cL_law 656 = .ok (.if_icmp .eq 208, 3) := by decide +kernel
theorem dL_law_659 : decode cL_law 659 = .ok (.iconst 0, 1) := by decide +kernel
theorem dL_law_660 : decode cL_law 660 = .ok (.ireturn, 1) := by decide +kernel
theorem dL_law_661 : decode cL_law 661 = .ok (.aload_n 1, 1) := by decide +kernel
theorem dL_law_662 : decode cL_law 662 = .ok (.aload_n 0, 1) := by decide +kernel
theorem dL_law_663 : decode cL_law 663 = .ok (.iload_n 3, 1) := by decide +kernel
theorem dL_law_664 : decode cL_law 664 = .ok (.iconst 1, 1) := by decide +kernel
theorem dL_law_665 : decode cL_law 665 = .ok (.iadd, 1) := by decide +kernel
theorem dL_law_666 : decode cL_law 666 = .ok (.iaload, 1) := by decide +kernel
theorem dL_law_667 : decode cL_law 667 = .ok (.aload_n 0, 1) := by decide +kernel
theorem dL_law_668 : decode cL_law 668 = .ok (.iload_n 3, 1) := by decide +kernel
theorem dL_law_669 : decode cL_law 669 = .ok (.iconst 2, 1) := by decide +kernel
theorem dL_law_670 : decode cL_law 670 = .ok (.iadd, 1) := by decide +kernel
theorem dL_law_671 : decode cL_law 671 = .ok (.iaload, 1) := by decide +kernel
theorem dL_law_672 : decode cL_law 672 = .ok (.invokevirtual 80, 3) := by decide +kernel
theorem dL_law_675 : decode cL_law 675 = .ok (.aload_n 2, 1) := by decide +kernel
theorem dL_law_676 : decode cL_law 676 = .ok (.aload_n 0, 1) := by decide +kernel
theorem dL_law_677 : decode cL_law 677 = .ok (.iload_n 3, 1) := by decide +kernel
theorem dL_law_678 : decode cL_law 678 = .ok (.iconst 1, 1) := by decide +kernel
theorem dL_law_679 : decode cL_law 679 = .ok (.iadd, 1) := by decide +kernel
theorem dL_law_680 : decode cL_law 680 = .ok (.iaload, 1) := by decide +kernel
theorem dL_law_681 : decode cL_law 681 = .ok (.aload_n 0, 1) := by decide +kernel
theorem dL_law_682 : decode cL_law 682 = .ok (.iload_n 3, 1) := by decide +kernel
theorem dL_law_683 : decode cL_law 683 = .ok (.iconst 2, 1) := by decide +kernel
theorem dL_law_684 : decode cL_law 684 = .ok (.iadd, 1) := by decide +kernel
theorem dL_law_685 : decode cL_law 685 = .ok (.iaload, 1) := by decide +kernel
theorem dL_law_686 : decode cL_law 686 = .ok (.invokevirtual 83, 3) := by decide +kernel
theorem dL_law_689 : decode cL_law 689 = .ok (.if_icmp .eq 175, 3) := by decide +kernel
theorem dL_law_692 : decode cL_law 692 = .ok (.iconst 0, 1) := by decide +kernel
theorem dL_law_693 : decode cL_law 693 = .ok (.ireturn, 1) := by decide +kernel
theorem dL_law_694 : decode cL_law 694 = .ok (.aload_n 1, 1) := by decide +kernel
theorem dL_law_695 : decode cL_law 695 = .ok (.aload_n 0, 1) := by decide +kernel
theorem dL_law_696 : decode cL_law 696 = .ok (.iload_n 3, 1) := by decide +kernel
theorem dL_law_697 : decode cL_law 697 = .ok (.iconst 1, 1) := by decide +kernel
theorem dL_law_698 : decode cL_law 698 = .ok (.iadd, 1) := by decide +kernel
theorem dL_law_699 : decode cL_law 699 = .ok (.iaload, 1) := by decide +kernel
theorem dL_law_700 : decode cL_law 700 = .ok (.invokevirtual 84, 3) := by decide +kernel
theorem dL_law_703 : decode cL_law 703 = .ok (.aload_n 2, 1) := by decide +kernel
theorem dL_law_704 : decode cL_law 704 = .ok (.aload_n 0, 1) := by decide +kernel
theorem dL_law_705 : decode cL_law 705 = .ok (.iload_n 3, 1) := by decide +kernel
theorem dL_law_706 : decode cL_law 706 = .ok (.iconst 1, 1) := by decide +kernel
theorem dL_law_707 : decode cL_law 707 = .ok (.iadd, 1) := by decide +kernel
theorem dL_law_708 : decode cL_law 708 = .ok (.iaload, 1) := by decide +kernel
theorem dL_law_709 : decode cL_law 709 = .ok (.invokevirtual 87, 3) := by decide +kernel
theorem dL_law_712 : decode cL_law 712 = .ok (.if_icmp .eq 152, 3) := by decide +kernel
theorem dL_law_715 : decode cL_law 715 = .ok (.iconst 0, 1) := by decide +kernel
theorem dL_law_716 : decode cL_law 716 = .ok (.ireturn, 1) := by decide +kernel
theorem dL_law_717 : decode cL_law 717 = .ok (.aload_n 1, 1) := by decide +kernel
theorem dL_law_718 : decode cL_law 718 = .ok (.aload_n 0, 1) := by decide +kernel
theorem dL_law_719 : decode cL_law 719 = .ok (.iload_n 3, 1) := by decide +kernel
theorem dL_law_720 : decode cL_law 720 = .ok (.iconst 1, 1) := by decide +kernel
theorem dL_law_721 : decode cL_law 721 = .ok (.iadd, 1) := by decide +kernel
theorem dL_law_722 : decode cL_law 722 = .ok (.iaload, 1) := by decide +kernel
theorem dL_law_723 : decode cL_law 723 = .ok (.aload_n 0, 1) := by decide +kernel
theorem dL_law_724 : decode cL_law 724 = .ok (.iload_n 3, 1) := by decide +kernel
theorem dL_law_725 : decode cL_law 725 = .ok (.iconst 2, 1) := by decide +kernel
theorem dL_law_726 : decode cL_law 726 = .ok (.iadd, 1) := by decide +kernel
theorem dL_law_727 : decode cL_law 727 = .ok (.iaload, 1) := by decide +kernel
theorem dL_law_728 : decode cL_law 728 = .ok (.invokevirtual 88, 3) := by decide +kernel
theorem dL_law_731 : decode cL_law 731 = .ok (.aload_n 2, 1) := by decide +kernel
theorem dL_law_732 : decode cL_law 732 = .ok (.aload_n 0, 1) := by decide +kernel
theorem dL_law_733 : decode cL_law 733 = .ok (.iload_n 3, 1) := by decide +kernel
theorem dL_law_734 : decode cL_law 734 = .ok (.iconst 1, 1) := by decide +kernel
theorem dL_law_735 : decode cL_law 735 = .ok (.iadd, 1) := by decide +kernel
theorem dL_law_736 : decode cL_law 736 = .ok (.iaload, 1) := by decide +kernel
theorem dL_law_737 : decode cL_law 737 = .ok (.aload_n 0, 1) := by decide +kernel
theorem dL_law_738 : decode cL_law 738 = .ok (.iload_n 3, 1) := by decide +kernel
theorem dL_law_739 : decode cL_law 739 = .ok (.iconst 2, 1) := by decide +kernel
theorem dL_law_740 : decode cL_law 740 = .ok (.iadd, 1) := by decide +kernel
theorem dL_law_741 : decode cL_law 741 = .ok (.iaload, 1) := by decide +kernel
theorem dL_law_742 : decode cL_law 742 = .ok (.invokevirtual 91, 3) := by decide +kernel
theorem dL_law_745 : decode cL_law 745 = .ok (.if_icmp .eq 119, 3) := by decide +kernel
theorem dL_law_748 : decode cL_law 748 = .ok (.iconst 0, 1) := by decide +kernel
theorem dL_law_749 : decode cL_law 749 = .ok (.ireturn, 1) := by decide +kernel
theorem dL_law_750 : decode cL_law 750 = .ok (.aload_n 1, 1) := by decide +kernel
theorem dL_law_751 : decode cL_law 751 = .ok (.aload_n 0, 1) := by decide +kernel
theorem dL_law_752 : decode cL_law 752 = .ok (.iload_n 3, 1) := by decide +kernel
theorem dL_law_753 : decode cL_law 753 = .ok (.iconst 1, 1) := by decide +kernel
theorem dL_law_754 : decode cL_law 754 = .ok (.iadd, 1) := by decide +kernel
theorem dL_law_755 : decode cL_law 755 = .ok (.iaload, 1) := by decide +kernel
theorem dL_law_756 : decode cL_law 756 = .ok (.aload_n 0, 1) := by decide +kernel
theorem dL_law_757 : decode cL_law 757 = .ok (.iload_n 3, 1) := by decide +kernel
theorem dL_law_758 : decode cL_law 758 = .ok (.iconst 2, 1) := by decide +kernel
theorem dL_law_759 : decode cL_law 759 = .ok (.iadd, 1) := by decide +kernel
theorem dL_law_760 : decode cL_law 760 = .ok (.iaload, 1) := by decide +kernel
theorem dL_law_761 : decode cL_law 761 = .ok (.invokevirtual 92, 3) := by decide +kernel
theorem dL_law_764 : decode cL_law 764 = .ok (.aload_n 2, 1) := by decide +kernel
theorem dL_law_765 : decode cL_law 765 = .ok (.aload_n 0, 1) := by decide +kernel
theorem dL_law_766 : decode cL_law 766 = .ok (.iload_n 3, 1) := by decide +kernel
theorem dL_law_767 : decode cL_law 767 = .ok (.iconst 1, 1) := by decide +kernel
theorem dL_law_768 : decode cL_law 768 = .ok (.iadd, 1) := by decide +kernel
theorem dL_law_769 : decode cL_law 769 = .ok (.iaload, 1) := by decide +kernel
theorem dL_law_770 : decode cL_law 770 = .ok (.aload_n 0, 1) := by decide +kernel
theorem dL_law_771 : decode cL_law 771 = .ok (.iload_n 3, 1) := by decide +kernel
theorem dL_law_772 : decode cL_law 772 = .ok (.iconst 2, 1) := by decide +kernel
theorem dL_law_773 : decode cL_law 773 = .ok (.iadd, 1) := by decide +kernel
theorem dL_law_774 : decode cL_law 774 = .ok (.iaload, 1) := by decide +kernel
theorem dL_law_775 : decode cL_law 775 = .ok (.invokevirtual 96, 3) := by decide +kernel
theorem dL_law_778 : decode cL_law 778 = .ok (.lcmp, 1) := by decide +kernel
theorem dL_law_779 : decode cL_law 779 = .ok (.ifCond .eq 85, 3) := by decide +kernel
theorem dL_law_782 : decode cL_law 782 = .ok (.iconst 0, 1) := by decide +kernel
theorem dL_law_783 : decode cL_law 783 = .ok (.ireturn, 1) := by decide +kernel
theorem dL_law_784 : decode cL_law 784 = .ok (.aload_n 1, 1) := by decide +kernel
theorem dL_law_785 : decode cL_law 785 = .ok (.aload_n 0, 1) := by decide +kernel
theorem dL_law_786 : decode cL_law 786 = .ok (.iload_n 3, 1) := by decide +kernel
theorem dL_law_787 : decode cL_law 787 = .ok (.iconst 1, 1) := by decide +kernel
theorem dL_law_788 : decode cL_law 788 = .ok (.iadd, 1) := by decide +kernel
theorem dL_law_789 : decode cL_law 789 = .ok (.iaload, 1) := by decide +kernel
theorem dL_law_790 : decode cL_law 790 = .ok (.aload_n 0, 1) := by decide +kernel
theorem dL_law_791 : decode cL_law 791 = .ok (.iload_n 3, 1) := by decide +kernel
theorem dL_law_792 : decode cL_law 792 = .ok (.iconst 2, 1) := by decide +kernel
theorem dL_law_793 : decode cL_law 793 = .ok (.iadd, 1) := by decide +kernel
theorem dL_law_794 : decode cL_law 794 = .ok (.iaload, 1) := by decide +kernel
theorem dL_law_795 : decode cL_law 795 = .ok (.invokevirtual 97, 3) := by decide +kernel
theorem dL_law_798 : decode cL_law 798 = .ok (.aload_n 2, 1) := by decide +kernel
theorem dL_law_799 : decode cL_law 799 = .ok (.aload_n 0, 1) := by decide +kernel
theorem dL_law_800 : decode cL_law 800 = .ok (.iload_n 3, 1) := by decide +kernel
theorem dL_law_801 : decode cL_law 801 = .ok (.iconst 1, 1) := by decide +kernel
theorem dL_law_802 : decode cL_law 802 = .ok (.iadd, 1) := by decide +kernel
theorem dL_law_803 : decode cL_law 803 = .ok (.iaload, 1) := by decide +kernel
theorem dL_law_804 : decode cL_law 804 = .ok (.aload_n 0, 1) := by decide +kernel
theorem dL_law_805 : decode cL_law 805 = .ok (.iload_n 3, 1) := by decide +kernel
theorem dL_law_806 : decode cL_law 806 = .ok (.iconst 2, 1) := by decide +kernel
theorem dL_law_807 : decode cL_law 807 = .ok (.iadd, 1) := by decide +kernel
theorem dL_law_808 : decode cL_law 808 = .ok (.iaload, 1) := by decide +kernel
theorem dL_law_809 : decode cL_law 809 = .ok (.invokevirtual 100, 3) := by decide +kernel
theorem dL_law_812 : decode cL_law 812 = .ok (.if_icmp .eq 52, 3) := by decide +kernel
theorem dL_law_815 : decode cL_law 815 = .ok (.iconst 0, 1) := by decide +kernel
theorem dL_law_816 : decode cL_law 816 = .ok (.ireturn, 1) := by decide +kernel
theorem dL_law_817 : decode cL_law 817 = .ok (.aload_n 1, 1) := by decide +kernel
theorem dL_law_818 : decode cL_law 818 = .ok (.aload_n 0, 1) := by decide +kernel
theorem dL_law_819 : decode cL_law 819 = .ok (.iload_n 3, 1) := by decide +kernel
theorem dL_law_820 : decode cL_law 820 = .ok (.iconst 1, 1) := by decide +kernel
theorem dL_law_821 : decode cL_law 821 = .ok (.iadd, 1) := by decide +kernel
theorem dL_law_822 : decode cL_law 822 = .ok (.iaload, 1) := by decide +kernel
theorem dL_law_823 : decode cL_law 823 = .ok (.invokevirtual 101, 3) := by decide +kernel
theorem dL_law_826 : decode cL_law 826 = .ok (.aload_n 2, 1) := by decide +kernel
theorem dL_law_827 : decode cL_law 827 = .ok (.aload_n 0, 1) := by decide +kernel
theorem dL_law_828 : decode cL_law 828 = .ok (.iload_n 3, 1) := by decide +kernel
theorem dL_law_829 : decode cL_law 829 = .ok (.iconst 1, 1) := by decide +kernel
theorem dL_law_830 : decode cL_law 830 = .ok (.iadd, 1) := by decide +kernel
theorem dL_law_831 : decode cL_law 831 = .ok (.iaload, 1) := by decide +kernel
theorem dL_law_832 : decode cL_law 832 = .ok (.invokevirtual 104, 3) := by decide +kernel
theorem dL_law_835 : decode cL_law 835 = .ok (.if_icmp .eq 29, 3) := by decide +kernel
theorem dL_law_838 : decode cL_law 838 = .ok (.iconst 0, 1) := by decide +kernel
theorem dL_law_839 : decode cL_law 839 = .ok (.ireturn, 1) := by decide +kernel
theorem dL_law_840 : decode cL_law 840 = .ok (.aload_n 1, 1) := by decide +kernel
theorem dL_law_841 : decode cL_law 841 = .ok (.aload_n 0, 1) := by decide +kernel
theorem dL_law_842 : decode cL_law 842 = .ok (.iload_n 3, 1) := by decide +kernel
theorem dL_law_843 : decode cL_law 843 = .ok (.iconst 1, 1) := by decide +kernel
theorem dL_law_844 : decode cL_law 844 = .ok (.iadd, 1) := by decide +kernel
theorem dL_law_845 : decode cL_law 845 = .ok (.iaload, 1) := by decide +kernel
theorem dL_law_846 : decode cL_law 846 = .ok (.invokevirtual 105, 3) := by decide +kernel
theorem dL_law_849 : decode cL_law 849 = .ok (.aload_n 2, 1) := by decide +kernel
theorem dL_law_850 : decode cL_law 850 = .ok (.aload_n 0, 1) := by decide +kernel
theorem dL_law_851 : decode cL_law 851 = .ok (.iload_n 3, 1) := by decide +kernel
theorem dL_law_852 : decode cL_law 852 = .ok (.iconst 1, 1) := by decide +kernel
theorem dL_law_853 : decode cL_law 853 = .ok (.iadd, 1) := by decide +kernel
theorem dL_law_854 : decode cL_law 854 = .ok (.iaload, 1) := by decide +kernel
theorem dL_law_855 : decode cL_law 855 = .ok (.invokevirtual 109, 3) := by decide +kernel
theorem dL_law_858 : decode cL_law 858 = .ok (.lcmp, 1) := by decide +kernel
theorem dL_law_859 : decode cL_law 859 = .ok (.ifCond .eq 5, 3) := by decide +kernel
theorem dL_law_862 : decode cL_law 862 = .ok (.iconst 0, 1) := by decide +kernel
theorem dL_law_863 : decode cL_law 863 = .ok (.ireturn, 1) := by decide +kernel
theorem dL_law_864 : decode cL_law 864 = .ok (.iinc 3 6, 3) := by decide +kernel
theorem dL_law_867 : decode cL_law 867 = .ok (.goto (-849), 3) := by decide +kernel
theorem dL_law_870 : decode cL_law 870 = .ok (.iconst 1, 1) := by decide +kernel
theorem dL_law_871 : decode cL_law 871 = .ok (.ireturn, 1) := by decide +kernel
end
section
theorem dX0_init_0 : decode cX0_init 0 = .ok (.aload_n 0, 1) := by decide +kernel
theorem dX0_init_1 : decode cX0_init 1 = .ok (.invokespecial 3, 3) := by decide +kernel
theorem dX0_init_4 : decode cX0_init 4 = .ok (.aload_n 0, 1) := by decide +kernel
theorem dX0_init_5 : decode cX0_init 5 = .ok (.bipush 80, 2) := by decide +kernel
theorem dX0_init_7 : decode cX0_init 7 = .ok (.newarray .int, 2) := by decide +kernel
theorem dX0_init_9 : decode cX0_init 9 = .ok (.putfield 9, 3) := by decide +kernel
theorem dX0_init_12 : decode cX0_init 12 = .ok (.aload_n 0, 1) := by decide +kernel
theorem dX0_init_13 : decode cX0_init 13 = .ok (.bipush 12, 2) := by decide +kernel
theorem dX0_init_15 : decode cX0_init 15 = .ok (.newarray .int, 2) := by decide +kernel
theorem dX0_init_17 : decode cX0_init 17 = .ok (.putfield 15, 3) := by decide +kernel
theorem dX0_init_20 : decode cX0_init 20 = .ok (.aload_n 0, 1) := by decide +kernel
theorem dX0_init_21 : decode cX0_init 21 = .ok (.iconst (-1), 1) := by decide +kernel
theorem dX0_init_22 : decode cX0_init 22 = .ok (.putfield 18, 3) := by decide +kernel
theorem dX0_init_25 : decode cX0_init 25 = .ok (.return_, 1) := by decide +kernel
theorem dX0_beginYear_0 : decode cX0_beginYear 0 = .ok (.aload_n 0, 1) := by decide +kernel
theorem dX0_beginYear_1 : decode cX0_beginYear 1 = .ok (.getfield 9, 3) := by decide +kernel
theorem dX0_beginYear_4 : decode cX0_beginYear 4 = .ok (.iconst 0, 1) := by decide +kernel
theorem dX0_beginYear_5 : decode cX0_beginYear 5 = .ok (.invokestatic 22, 3) := by decide +kernel
theorem dX0_beginYear_8 : decode cX0_beginYear 8 = .ok (.aload_n 0, 1) := by decide +kernel
theorem dX0_beginYear_9 : decode cX0_beginYear 9 = .ok (.iconst (-1), 1) := by decide +kernel
theorem dX0_beginYear_10 : decode cX0_beginYear 10 = .ok (.putfield 18, 3) := by decide +kernel
theorem dX0_beginYear_13 : decode cX0_beginYear 13 = .ok (.return_, 1) := by decide +kernel
theorem dX0_creditOf_0 : decode cX0_creditOf 0 = .ok (.iload 6, 2) := by decide +kernel
theorem dX0_creditOf_2 : decode cX0_creditOf 2 = .ok (.iconst 1, 1) := by decide +kernel
theorem dX0_creditOf_3 : decode cX0_creditOf 3 = .ok (.if_icmp .lt 21, 3) := by decide +kernel
theorem dX0_creditOf_6 : decode cX0_creditOf 6 = .ok (.aload_n 0, 1) := by decide +kernel
theorem dX0_creditOf_7 : decode cX0_creditOf 7 = .ok (.getfield 18, 3) := by decide +kernel
theorem dX0_creditOf_10 : decode cX0_creditOf 10 = .ok (.iconst (-1), 1) := by decide +kernel
theorem dX0_creditOf_11 : decode cX0_creditOf 11 = .ok (.if_icmp .eq 13, 3) := by decide +kernel
theorem dX0_creditOf_14 : decode cX0_creditOf 14 = .ok (.aload_n 0, 1) := by decide +kernel
theorem dX0_creditOf_15 : decode cX0_creditOf 15 = .ok (.getfield 9, 3) := by decide +kernel
theorem dX0_creditOf_18 : decode cX0_creditOf 18 = .ok (.iload 5, 2) := by decide +kernel
theorem dX0_creditOf_20 : decode cX0_creditOf 20 = .ok (.iaload, 1) := by decide +kernel
theorem dX0_creditOf_21 : decode cX0_creditOf 21 = .ok (.ifCond .ne 5, 3) := by decide +kernel
theorem dX0_creditOf_24 : decode cX0_creditOf 24 = .ok (.iconst 0, 1) := by decide +kernel
theorem dX0_creditOf_25 : decode cX0_creditOf 25 = .ok (.ireturn, 1) := by decide +kernel
theorem dX0_creditOf_26 : decode cX0_creditOf 26 = .ok (.aload_n 3, 1) := by decide +kernel
theorem dX0_creditOf_27 : decode cX0_creditOf 27 = .ok (.aload_n 1, 1) := by decide +kernel
theorem dX0_creditOf_28 : decode cX0_creditOf 28 = .ok (.iload 5, 2) := by decide +kernel
theorem dX0_creditOf_30 : decode cX0_creditOf 30 = .ok (.iload 4, 2) := by decide +kernel
theorem dX0_creditOf_32 : decode cX0_creditOf 32 = .ok (.aload_n 0, 1) := by decide +kernel
theorem dX0_creditOf_33 : decode cX0_creditOf 33 = .ok (.getfield 18, 3) := by decide +kernel
theorem dX0_creditOf_36 : decode cX0_creditOf 36 = .ok (.invokevirtual 28, 3) := by decide +kernel
theorem dX0_creditOf_39 : decode cX0_creditOf 39 = .ok (.pop, 1) := by decide +kernel
theorem dX0_creditOf_40 : decode cX0_creditOf 40 = .ok (.aload_n 3, 1) := by decide +kernel
theorem dX0_creditOf_41 : decode cX0_creditOf 41 = .ok (.getfield 34, 3) := by decide +kernel
theorem dX0_creditOf_44 : decode cX0_creditOf 44 = .ok (.ifCond .ne 5, 3) := by decide +kernel
theorem dX0_creditOf_47 : decode cX0_creditOf 47 = .ok (.iconst 0, 1) := by decide +kernel
theorem dX0_creditOf_48 : decode cX0_creditOf 48 = .ok (.ireturn, 1) := by decide +kernel
theorem dX0_creditOf_49 : decode cX0_creditOf 49 = .ok (.aload_n 3, 1) := by decide +kernel
theorem dX0_creditOf_50 : decode cX0_creditOf 50 = .ok (.aload_n 1, 1) := by decide +kernel
theorem dX0_creditOf_51 : decode cX0_creditOf 51 = .ok (.iload 5, 2) := by decide +kernel
theorem dX0_creditOf_53 : decode cX0_creditOf 53 = .ok (.iload 4, 2) := by decide +kernel
theorem dX0_creditOf_55 : decode cX0_creditOf 55 = .ok (.iload 6, 2) := by decide +kernel
theorem dX0_creditOf_57 : decode cX0_creditOf 57 = .ok (.invokevirtual 28, 3) := by decide +kernel
theorem dX0_creditOf_60 : decode cX0_creditOf 60 = .ok (.pop, 1) := by decide +kernel
theorem dX0_creditOf_61 : decode cX0_creditOf 61 = .ok (.aload_n 2, 1) := by decide +kernel
theorem dX0_creditOf_62 : decode cX0_creditOf 62 = .ok (.getfield 38, 3) := by decide +kernel
theorem dX0_creditOf_65 : decode cX0_creditOf 65 = .ok (.iconst 0, 1) := by decide +kernel
theorem dX0_creditOf_66 : decode cX0_creditOf 66 = .ok (.iaload, 1) := by decide +kernel
theorem dX0_creditOf_67 : decode cX0_creditOf 67 = .ok (.iload 6, 2) := by decide +kernel
theorem dX0_creditOf_69 : decode cX0_creditOf 69 = .ok (.aload_n 3, 1) := by decide +kernel
theorem dX0_creditOf_70 : decode cX0_creditOf 70 = .ok (.getfield 43, 3) := by decide +kernel
theorem dX0_creditOf_73 : decode cX0_creditOf 73 = .ok (.isub, 1) := by decide +kernel
theorem dX0_creditOf_74 : decode cX0_creditOf 74 = .ok (.imul, 1) := by decide +kernel
theorem dX0_creditOf_75 : decode cX0_creditOf 75 = .ok (.istore 7, 2) := by decide +kernel
theorem dX0_creditOf_77 : decode cX0_creditOf 77 = .ok (.aload_n 2, 1) := by decide +kernel
theorem dX0_creditOf_78 : decode cX0_creditOf 78 = .ok (.getfield 38, 3) := by decide +kernel
theorem dX0_creditOf_81 : decode cX0_creditOf 81 = .ok (.iconst 1, 1) := by decide +kernel
theorem dX0_creditOf_82 : decode cX0_creditOf 82 = .ok (.iaload, 1) := by decide +kernel
theorem dX0_creditOf_83 : decode cX0_creditOf 83 = .ok (.sipush 1000, 3) := by decide +kernel
theorem dX0_creditOf_86 : decode cX0_creditOf 86 = .ok (.invokestatic 46, 3) := by decide +kernel
theorem dX0_creditOf_89 : decode cX0_creditOf 89 = .ok (.istore 8, 2) := by decide +kernel
theorem dX0_creditOf_91 : decode cX0_creditOf 91 = .ok (.aload_n 0, 1) := by decide +kernel
theorem dX0_creditOf_92 : decode cX0_creditOf 92 = .ok (.getfield 9, 3) := by decide +kernel
theorem dX0_creditOf_95 : decode cX0_creditOf 95 = .ok (.iload 5, 2) := by decide +kernel
theorem dX0_creditOf_97 : decode cX0_creditOf 97 = .ok (.iaload, 1) := by decide +kernel
theorem dX0_creditOf_98 : decode cX0_creditOf 98 = .ok (.sipush 1000, 3) := by decide +kernel
theorem dX0_creditOf_101 : decode cX0_creditOf 101 = .ok (.iload 7, 2) := by decide +kernel
theorem dX0_creditOf_103 : decode cX0_creditOf 103 = .ok (.isub, 1) := by decide +kernel
theorem dX0_creditOf_104 : decode cX0_creditOf 104 = .ok (.iload 8, 2) := by decide +kernel
theorem dX0_creditOf_106 : decode cX0_creditOf 106 = .ok (.invokestatic 52, 3) := by decide +kernel
theorem dX0_creditOf_109 : decode cX0_creditOf 109 = .ok (.imul, 1) := by decide +kernel
theorem dX0_creditOf_110 : decode cX0_creditOf 110 = .ok (.sipush 1000, 3) := by decide +kernel
theorem dX0_creditOf_113 : decode cX0_creditOf 113 = .ok (.idiv, 1) := by decide +kernel
theorem dX0_creditOf_114 : decode cX0_creditOf 114 = .ok (.ireturn, 1) := by decide +kernel
theorem dX0_shareOut_0 : decode cX0_shareOut 0 = .ok (.aload_n 0, 1) := by decide +kernel
theorem dX0_shareOut_1 : decode cX0_shareOut 1 = .ok (.getfield 15, 3) := by decide +kernel
theorem dX0_shareOut_4 : decode cX0_shareOut 4 = .ok (.iconst 0, 1) := by decide +kernel
theorem dX0_shareOut_5 : decode cX0_shareOut 5 = .ok (.invokestatic 22, 3) := by decide +kernel
theorem dX0_shareOut_8 : decode cX0_shareOut 8 = .ok (.iconst 0, 1) := by decide +kernel
theorem dX0_shareOut_9 : decode cX0_shareOut 9 = .ok (.istore 6, 2) := by decide +kernel
theorem dX0_shareOut_11 : decode cX0_shareOut 11 = .ok (.iload 6, 2) := by decide +kernel
theorem dX0_shareOut_13 : decode cX0_shareOut 13 = .ok (.aload_n 1, 1) := by decide +kernel
theorem dX0_shareOut_14 : decode cX0_shareOut 14 = .ok (.getfield 55, 3) := by decide +kernel
theorem dX0_shareOut_17 : decode cX0_shareOut 17 = .ok (.if_icmp .ge 50, 3) := by decide +kernel
theorem dX0_shareOut_20 : decode cX0_shareOut 20 = .ok (.aload_n 0, 1) := by decide +kernel
theorem dX0_shareOut_21 : decode cX0_shareOut 21 = .ok (.aload_n 1, 1) := by decide +kernel
theorem dX0_shareOut_22 : decode cX0_shareOut 22 = .ok (.aload_n 2, 1) := by decide +kernel
theorem dX0_shareOut_23 : decode cX0_shareOut 23 = .ok (.aload_n 3, 1) := by decide +kernel
theorem dX0_shareOut_24 : decode cX0_shareOut 24 = .ok (.iload 4, 2) := by decide +kernel
theorem dX0_shareOut_26 : decode cX0_shareOut 26 = .ok (.iload 6, 2) := by decide +kernel
theorem dX0_shareOut_28 : decode cX0_shareOut 28 = .ok (.iload 5, 2) := by decide +kernel
theorem dX0_shareOut_30 : decode cX0_shareOut 30 = .ok (.invokevirtual 60, 3) := by decide +kernel
theorem dX0_shareOut_33 : decode cX0_shareOut 33 = .ok (.istore 7, 2) := by decide +kernel
theorem dX0_shareOut_35 : decode cX0_shareOut 35 = .ok (.iload 7, 2) := by decide +kernel
theorem dX0_shareOut_37 : decode cX0_shareOut 37 = .ok (.ifCond .le 24, 3) := by decide +kernel
theorem dX0_shareOut_40 : decode cX0_shareOut 40 = .ok (.aload_n 3, 1) := by decide +kernel
theorem dX0_shareOut_41 : decode cX0_shareOut 41 = .ok (.aload_n 1, 1) := by decide +kernel
theorem dX0_shareOut_42 : decode cX0_shareOut 42 = .ok (.iload 6, 2) := by decide +kernel
theorem dX0_shareOut_44 : decode cX0_shareOut 44 = .ok (.iload 4, 2) := by decide +kernel
theorem dX0_shareOut_46 : decode cX0_shareOut 46 = .ok (.iload 5, 2) := by decide +kernel
theorem dX0_shareOut_48 : decode cX0_shareOut 48 = .ok (.invokevirtual 28, 3) := by decide +kernel
theorem dX0_shareOut_51 : decode cX0_shareOut 51 = .ok (.pop, 1) := by decide +kernel
theorem dX0_shareOut_52 : decode cX0_shareOut 52 = .ok (.aload_n 0, 1) := by decide +kernel
theorem dX0_shareOut_53 : decode cX0_shareOut 53 = .ok (.iload 7, 2) := by decide +kernel
theorem dX0_shareOut_55 : decode cX0_shareOut 55 = .ok (.aload_n 3, 1) := by decide +kernel
theorem dX0_shareOut_56 : decode cX0_shareOut 56 = .ok (.iload 5, 2) := by decide +kernel
theorem dX0_shareOut_58 : decode cX0_shareOut 58 = .ok (.invokevirtual 64, 3) := by decide +kernel
theorem dX0_shareOut_61 : decode cX0_shareOut 61 = .ok (.iinc 6 1, 3) := by decide +kernel
theorem dX0_shareOut_64 : decode cX0_shareOut 64 = .ok (.goto (-53), 3) := by decide +kernel
theorem dX0_shareOut_67 : decode cX0_shareOut 67 = .ok (.return_, 1) := by decide +kernel
theorem dX0_divide_0 : decode cX0_divide 0 = .ok (.iload_n 3, 1) := by decide +kernel
theorem dX0_divide_1 : decode cX0_divide 1 = .ok (.iconst 1, 1) := by decide +kernel
theorem dX0_divide_2 : decode cX0_divide 2 = .ok (.if_icmp .ge 4, 3) := by decide +kernel
theorem dX0_divide_5 : decode cX0_divide 5 = .ok (.return_, 1) := by decide +kernel
theorem dX0_divide_6 : decode cX0_divide 6 = .ok (.iload_n 1, 1) := by decide +kernel
theorem dX0_divide_7 : decode cX0_divide 7 = .ok (.istore 4, 2) := by decide +kernel
theorem dX0_divide_9 : decode cX0_divide 9 = .ok (.iconst 0, 1) := by decide +kernel
theorem dX0_divide_10 : decode cX0_divide 10 = .ok (.istore 5, 2) := by decide +kernel
theorem dX0_divide_12 : decode cX0_divide 12 = .ok (.iload 5, 2) := by decide +kernel
theorem dX0_divide_14 : decode cX0_divide 14 = .ok (.bipush 12, 2) := by decide +kernel
theorem dX0_divide_16 : decode cX0_divide 16 = .ok (.if_icmp .ge 41, 3) := by decide +kernel
theorem dX0_divide_19 : decode cX0_divide 19 = .ok (.iload_n 1, 1) := by decide +kernel
theorem dX0_divide_20 : decode cX0_divide 20 = .ok (.aload_n 2, 1) := by decide +kernel
theorem dX0_divide_21 : decode cX0_divide 21 = .ok (.getfield 68, 3) := by decide +kernel
theorem dX0_divide_24 : decode cX0_divide 24 = .ok (.iload 5, 2) := by decide +kernel
theorem dX0_divide_26 : decode cX0_divide 26 = .ok (.iaload, 1) := by decide +kernel
theorem dX0_divide_27 : decode cX0_divide 27 = .ok (.imul, 1) := by decide +kernel
theorem dX0_divide_28 : decode cX0_divide 28 = .ok (.iload_n 3, 1) := by decide +kernel
theorem dX0_divide_29 : decode cX0_divide 29 = .ok (.idiv, 1) := by decide +kernel
theorem dX0_divide_30 : decode cX0_divide 30 = .ok (.istore 6, 2) := by decide +kernel
theorem dX0_divide_32 : decode cX0_divide 32 = .ok (.aload_n 0, 1) := by decide +kernel
theorem dX0_divide_33 : decode cX0_divide 33 = .ok (.getfield 15, 3) := by decide +kernel
theorem dX0_divide_36 : decode cX0_divide 36 = .ok (.iload 5, 2) := by decide +kernel
theorem dX0_divide_38 : decode cX0_divide 38 = .ok (.dup2, 1) := by decide +kernel
theorem dX0_divide_39 : decode cX0_divide 39 = .ok (.iaload, 1) := by decide +kernel
theorem dX0_divide_40 : decode cX0_divide 40 = .ok (.iload 6, 2) := by decide +kernel
theorem dX0_divide_42 : decode cX0_divide 42 = .ok (.iadd, 1) := by decide +kernel
theorem dX0_divide_43 : decode cX0_divide 43 = .ok (.iastore, 1) := by decide +kernel
theorem dX0_divide_44 : decode cX0_divide 44 = .ok (.iload 4, 2) := by decide +kernel
theorem dX0_divide_46 : decode cX0_divide 46 = .ok (.iload 6, 2) := by decide +kernel
theorem dX0_divide_48 : decode cX0_divide 48 = .ok (.isub, 1) := by decide +kernel
theorem dX0_divide_49 : decode cX0_divide 49 = .ok (.istore 4, 2) := by decide +kernel
theorem dX0_divide_51 : decode cX0_divide 51 = .ok (.iinc 5 1, 3) := by decide +kernel
theorem dX0_divide_54 : decode cX0_divide 54 = .ok (.goto (-42), 3) := by decide +kernel
theorem dX0_divide_57 : decode cX0_divide 57 = .ok (.aload_n 0, 1) := by decide +kernel
theorem dX0_divide_58 : decode cX0_divide 58 = .ok (.getfield 15, 3) := by decide +kernel
theorem dX0_divide_61 : decode cX0_divide 61 = .ok (.aload_n 2, 1) := by decide +kernel
theorem dX0_divide_62 : decode cX0_divide 62 = .ok (.getfield 71, 3) := by decide +kernel
theorem dX0_divide_65 : decode cX0_divide 65 = .ok (.dup2, 1) := by decide +kernel
theorem dX0_divide_66 : decode cX0_divide 66 = .ok (.iaload, 1) := by decide +kernel
theorem dX0_divide_67 : decode cX0_divide 67 = .ok (.iload 4, 2) := by decide +kernel
theorem dX0_divide_69 : decode cX0_divide 69 = .ok (.iadd, 1) := by decide +kernel
theorem dX0_divide_70 : decode cX0_divide 70 = .ok (.iastore, 1) := by decide +kernel
theorem dX0_divide_71 : decode cX0_divide 71 = .ok (.return_, 1) := by decide +kernel
end
section
theorem dX1_init_0 : decode cX1_init 0 = .ok (.aload_n 0, 1) := by decide +kernel
theorem dX1_init_1 : decode cX1_init 1 = .ok (.invokespecial 3, 3) := by decide +kernel
theorem dX1_init_4 : decode cX1_init 4 = .ok (.aload_n 0, 1) := by decide +kernel
theorem dX1_init_5 : decode cX1_init 5 = .ok (.bipush 12, 2) := by decide +kernel
theorem dX1_init_7 : decode cX1_init 7 = .ok (.newarray .long, 2) := by decide +kernel
theorem dX1_init_9 : decode cX1_init 9 = .ok (.putfield 9, 3) := by decide +kernel
theorem dX1_init_12 : decode cX1_init 12 = .ok (.aload_n 0, 1) := by decide +kernel
theorem dX1_init_13 : decode cX1_init 13 = .ok (.bipush 12, 2) := by decide +kernel
theorem dX1_init_15 : decode cX1_init 15 = .ok (.newarray .int, 2) := by decide +kernel
theorem dX1_init_17 : decode cX1_init 17 = .ok (.putfield 15, 3) := by decide +kernel
theorem dX1_init_20 : decode cX1_init 20 = .ok (.aload_n 0, 1) := by decide +kernel
theorem dX1_init_21 : decode cX1_init 21 = .ok (.bipush 12, 2) := by decide +kernel
theorem dX1_init_23 : decode cX1_init 23 = .ok (.newarray .long, 2) := by decide +kernel
theorem dX1_init_25 : decode cX1_init 25 = .ok (.putfield 19, 3) := by decide +kernel
theorem dX1_init_28 : decode cX1_init 28 = .ok (.aload_n 0, 1) := by decide +kernel
theorem dX1_init_29 : decode cX1_init 29 = .ok (.bipush 12, 2) := by decide +kernel
theorem dX1_init_31 : decode cX1_init 31 = .ok (.newarray .long, 2) := by decide +kernel
theorem dX1_init_33 : decode cX1_init 33 = .ok (.putfield 22, 3) := by decide +kernel
theorem dX1_init_36 : decode cX1_init 36 = .ok (.aload_n 0, 1) := by decide +kernel
theorem dX1_init_37 : decode cX1_init 37 = .ok (.lconst 0, 1) := by decide +kernel
theorem dX1_init_38 : decode cX1_init 38 = .ok (.putfield 25, 3) := by decide +kernel
theorem dX1_init_41 : decode cX1_init 41 = .ok (.aload_n 0, 1) := by decide +kernel
theorem dX1_init_42 : decode cX1_init 42 = .ok (.bipush 12, 2) := by decide +kernel
theorem dX1_init_44 : decode cX1_init 44 = .ok (.newarray .int, 2) := by decide +kernel
theorem dX1_init_46 : decode cX1_init 46 = .ok (.putfield 29, 3) := by decide +kernel
theorem dX1_init_49 : decode cX1_init 49 = .ok (.aload_n 0, 1) := by decide +kernel
theorem dX1_init_50 : decode cX1_init 50 = .ok (.lconst 0, 1) := by decide +kernel
theorem dX1_init_51 : decode cX1_init 51 = .ok (.putfield 32, 3) := by decide +kernel
theorem dX1_init_54 : decode cX1_init 54 = .ok (.iconst 0, 1) := by decide +kernel
theorem dX1_init_55 : decode cX1_init 55 = .ok (.istore_n 1, 1) := by decide +kernel
theorem dX1_init_56 : decode cX1_init 56 = .ok (.iload_n 1, 1) := by decide +kernel
theorem dX1_init_57 : decode cX1_init 57 = .ok (.bipush 12, 2) := by decide +kernel
theorem dX1_init_59 : decode cX1_init 59 = .ok (.if_icmp .ge 16, 3) := by decide +kernel
theorem dX1_init_62 : decode cX1_init 62 = .ok (.aload_n 0, 1) := by decide +kernel
theorem dX1_init_63 : decode cX1_init 63 = .ok (.getfield 29, 3) := by decide +kernel
theorem dX1_init_66 : decode cX1_init 66 = .ok (.iload_n 1, 1) := by decide +kernel
theorem dX1_init_67 : decode cX1_init 67 = .ok (.iload_n 1, 1) := by decide +kernel
theorem dX1_init_68 : decode cX1_init 68 = .ok (.iastore, 1) := by decide +kernel
theorem dX1_init_69 : decode cX1_init 69 = .ok (.iinc 1 1, 3) := by decide +kernel
theorem dX1_init_72 : decode cX1_init 72 = .ok (.goto (-16), 3) := by decide +kernel
theorem dX1_init_75 : decode cX1_init 75 = .ok (.return_, 1) := by decide +kernel
theorem dX1_placeOf_0 : decode cX1_placeOf 0 = .ok (.iconst 0, 1) := by decide +kernel
theorem dX1_placeOf_1 : decode cX1_placeOf 1 = .ok (.istore_n 2, 1) := by decide +kernel
theorem dX1_placeOf_2 : decode cX1_placeOf 2 = .ok (.iload_n 2, 1) := by decide +kernel
theorem dX1_placeOf_3 : decode cX1_placeOf 3 = .ok (.bipush 12, 2) := by decide +kernel
theorem dX1_placeOf_5 : decode cX1_placeOf 5 = .ok (.if_icmp .ge 21, 3) := by decide +kernel
theorem dX1_placeOf_8 : decode cX1_placeOf 8 = .ok (.aload_n 0, 1) := by decide +kernel
theorem dX1_placeOf_9 : decode cX1_placeOf 9 = .ok (.getfield 29, 3) := by decide +kernel
theorem dX1_placeOf_12 : decode cX1_placeOf 12 = .ok (.iload_n 2, 1) := by decide +kernel
theorem dX1_placeOf_13 : decode cX1_placeOf 13 = .ok (.iaload, 1) := by decide +kernel
theorem dX1_placeOf_14 : decode cX1_placeOf 14 = .ok (.iload_n 1, 1) := by decide +kernel
theorem dX1_placeOf_15 : decode cX1_placeOf 15 = .ok (.if_icmp .ne 5, 3) := by decide +kernel
theorem dX1_placeOf_18 : decode cX1_placeOf 18 = .ok (.iload_n 2, 1) := by decide +kernel
theorem dX1_placeOf_19 : decode cX1_placeOf 19 = .ok (.ireturn, 1) := by decide +kernel
theorem dX1_placeOf_20 : decode cX1_placeOf 20 = .ok (.iinc 2 1, 3) := by decide +kernel
theorem dX1_placeOf_23 : decode cX1_placeOf 23 = .ok (.goto (-21), 3) := by decide +kernel
theorem dX1_placeOf_26 : decode cX1_placeOf 26 = .ok (.iconst (-1), 1) := by decide +kernel
theorem dX1_placeOf_27 : decode cX1_placeOf 27 = .ok (.ireturn, 1) := by decide +kernel
theorem dX1_partCheeses_0 : decode cX1_partCheeses 0 = .ok (.iload_n 2, 1) := by decide +kernel
theorem dX1_partCheeses_1 : decode cX1_partCheeses 1 = .ok (.istore_n 3, 1) := by decide +kernel
theorem dX1_partCheeses_2 : decode cX1_partCheeses 2 = .ok (.iconst 0, 1) := by decide +kernel
theorem dX1_partCheeses_3 : decode cX1_partCheeses 3 = .ok (.istore 4, 2) := by decide +kernel
theorem dX1_partCheeses_5 : decode cX1_partCheeses 5 = .ok (.iload 4, 2) := by decide +kernel
theorem dX1_partCheeses_7 : decode cX1_partCheeses 7 = .ok (.bipush 12, 2) := by decide +kernel
theorem dX1_partCheeses_9 : decode cX1_partCheeses 9 = .ok (.if_icmp .ge 35, 3) := by decide +kernel
theorem dX1_partCheeses_12 : decode cX1_partCheeses 12 = .ok (.aload_n 0, 1) := by decide +kernel
theorem dX1_partCheeses_13 : decode cX1_partCheeses 13 = .ok (.getfield 15, 3) := by decide +kernel
theorem dX1_partCheeses_16 : decode cX1_partCheeses 16 = .ok (.iload 4, 2) := by decide +kernel
theorem dX1_partCheeses_18 : decode cX1_partCheeses 18 = .ok (.iload_n 2, 1) := by decide +kernel
theorem dX1_partCheeses_19 : decode cX1_partCheeses 19 = .ok (.i2l, 1) := by decide +kernel
theorem dX1_partCheeses_20 : decode cX1_partCheeses 20 = .ok (.iload 4, 2) := by decide +kernel
theorem dX1_partCheeses_22 : decode cX1_partCheeses 22 = .ok (.aload_n 1, 1) := by decide +kernel
theorem dX1_partCheeses_23 : decode cX1_partCheeses 23 = .ok (.invokestatic 35, 3) := by decide +kernel
theorem dX1_partCheeses_26 : decode cX1_partCheeses 26 = .ok (.l2i, 1) := by decide +kernel
theorem dX1_partCheeses_27 : decode cX1_partCheeses 27 = .ok (.iastore, 1) := by decide +kernel
theorem dX1_partCheeses_28 : decode cX1_partCheeses 28 = .ok (.iload_n 3, 1) := by decide +kernel
theorem dX1_partCheeses_29 : decode cX1_partCheeses 29 = .ok (.aload_n 0, 1) := by decide +kernel
theorem dX1_partCheeses_30 : decode cX1_partCheeses 30 = .ok (.getfield 15, 3) := by decide +kernel
theorem dX1_partCheeses_33 : decode cX1_partCheeses 33 = .ok (.iload 4, 2) := by decide +kernel
theorem dX1_partCheeses_35 : decode cX1_partCheeses 35 = .ok (.iaload, 1) := by decide +kernel
theorem dX1_partCheeses_36 : decode cX1_partCheeses 36 = .ok (.isub, 1) := by decide +kernel
theorem dX1_partCheeses_37 : decode cX1_partCheeses 37 = .ok (.istore_n 3, 1) := by decide +kernel
theorem dX1_partCheeses_38 : decode cX1_partCheeses 38 = .ok (.iinc 4 1, 3) := by decide +kernel
theorem dX1_partCheeses_41 : decode cX1_partCheeses 41 = .ok (.goto (-36), 3) := by decide +kernel
theorem dX1_partCheeses_44 : decode cX1_partCheeses 44 = .ok (.iconst 0, 1) := by decide +kernel
theorem dX1_partCheeses_45 : decode cX1_partCheeses 45 = .ok (.istore 4, 2) := by decide +kernel
theorem dX1_partCheeses_47 : decode cX1_partCheeses 47 = .ok (.iload 4, 2) := by decide +kernel
theorem dX1_partCheeses_49 : decode cX1_partCheeses 49 = .ok (.bipush 12, 2) := by decide +kernel
theorem dX1_partCheeses_51 : decode cX1_partCheeses 51 = .ok (.if_icmp .ge 43, 3) := by decide +kernel
theorem dX1_partCheeses_54 : decode cX1_partCheeses 54 = .ok (.iload_n 3, 1) := by decide +kernel
theorem dX1_partCheeses_55 : decode cX1_partCheeses 55 = .ok (.ifCond .le 39, 3) := by decide +kernel
theorem dX1_partCheeses_58 : decode cX1_partCheeses 58 = .ok (.aload_n 0, 1) := by decide +kernel
theorem dX1_partCheeses_59 : decode cX1_partCheeses 59 = .ok (.aload_n 1, 1) := by decide +kernel
theorem dX1_partCheeses_60 : decode cX1_partCheeses 60 = .ok (.invokevirtual 39, 3) := by decide +kernel
theorem dX1_partCheeses_63 : decode cX1_partCheeses 63 = .ok (.istore 5, 2) := by decide +kernel
theorem dX1_partCheeses_65 : decode cX1_partCheeses 65 = .ok (.iload 5, 2) := by decide +kernel
theorem dX1_partCheeses_67 : decode cX1_partCheeses 67 = .ok (.iconst (-1), 1) := by decide +kernel
theorem dX1_partCheeses_68 : decode cX1_partCheeses 68 = .ok (.if_icmp .ne 6, 3) := by decide +kernel
theorem dX1_partCheeses_71 : decode cX1_partCheeses 71 = .ok (.goto 23, 3) := by decide +kernel
theorem dX1_partCheeses_74 : decode cX1_partCheeses 74 = .ok (.aload_n 0, 1) := by decide +kernel
theorem dX1_partCheeses_75 : decode cX1_partCheeses 75 = .ok (.getfield 15, 3) := by decide +kernel
theorem dX1_partCheeses_78 : decode cX1_partCheeses 78 = .ok (.iload 5, 2) := by decide +kernel
theorem dX1_partCheeses_80 : decode cX1_partCheeses 80 = .ok (.dup2, 1) := by decide +kernel
theorem dX1_partCheeses_81 : decode cX1_partCheeses 81 = .ok (.iaload, 1) := by decide +kernel
theorem dX1_partCheeses_82 : decode cX1_partCheeses 82 = .ok (.iconst 1, 1) := by decide +kernel
theorem dX1_partCheeses_83 : decode cX1_partCheeses 83 = .ok (.iadd, 1) := by decide +kernel
theorem dX1_partCheeses_84 : decode cX1_partCheeses 84 = .ok (.iastore, 1) := by decide +kernel
theorem dX1_partCheeses_85 : decode cX1_partCheeses 85 = .ok (.iinc 3 (-1), 3) := by decide +kernel
theorem dX1_partCheeses_88 : decode cX1_partCheeses 88 = .ok (.iinc 4 1, 3) := by decide +kernel
theorem dX1_partCheeses_91 : decode cX1_partCheeses 91 = .ok (.goto (-44), 3) := by decide +kernel
theorem dX1_partCheeses_94 : decode cX1_partCheeses 94 = .ok (.iconst 0, 1) := by decide +kernel
theorem dX1_partCheeses_95 : decode cX1_partCheeses 95 = .ok (.istore 4, 2) := by decide +kernel
theorem dX1_partCheeses_97 : decode cX1_partCheeses 97 = .ok (.iload 4, 2) := by decide +kernel
theorem dX1_partCheeses_99 : decode cX1_partCheeses 99 = .ok (.bipush 12, 2) := by decide +kernel
theorem dX1_partCheeses_101 : decode cX1_partCheeses 101 = .ok (.if_icmp .ge 27, 3) := by decide +kernel
theorem dX1_partCheeses_104 : decode cX1_partCheeses 104 = .ok (.aload_n 0, 1) := by decide +kernel
theorem dX1_partCheeses_105 : decode cX1_partCheeses 105 = .ok (.getfield 9, 3) := by decide +kernel
theorem dX1_partCheeses_108 : decode cX1_partCheeses 108 = .ok (.iload 4, 2) := by decide +kernel
theorem dX1_partCheeses_110 : decode cX1_partCheeses 110 = .ok (.dup2, 1) := by decide +kernel
theorem dX1_partCheeses_111 : decode cX1_partCheeses 111 = .ok (.laload, 1) := by decide +kernel
theorem dX1_partCheeses_112 : decode cX1_partCheeses 112 = .ok (.aload_n 0, 1) := by decide +kernel
theorem dX1_partCheeses_113 : decode cX1_partCheeses 113 = .ok (.getfield 15, 3) := by decide +kernel
theorem dX1_partCheeses_116 : decode cX1_partCheeses 116 = .ok (.iload 4, 2) := by decide +kernel
theorem dX1_partCheeses_118 : decode cX1_partCheeses 118 = .ok (.iaload, 1) := by decide +kernel
theorem dX1_partCheeses_119 : decode cX1_partCheeses 119 = .ok (.i2l, 1) := by decide +kernel
theorem dX1_partCheeses_120 : decode cX1_partCheeses 120 = .ok (.ladd, 1) := by decide +kernel
theorem dX1_partCheeses_121 : decode cX1_partCheeses 121 = .ok (.lastore, 1) := by decide +kernel
theorem dX1_partCheeses_122 : decode cX1_partCheeses 122 = .ok (.iinc 4 1, 3) := by decide +kernel
theorem dX1_partCheeses_125 : decode cX1_partCheeses 125 = .ok (.goto (-28), 3) := by decide +kernel
theorem dX1_partCheeses_128 : decode cX1_partCheeses 128 = .ok (.iload_n 3, 1) := by decide +kernel
theorem dX1_partCheeses_129 : decode cX1_partCheeses 129 = .ok (.ireturn, 1) := by decide +kernel
theorem dX1_takeTurn_0 : decode cX1_takeTurn 0 = .ok (.iconst 0, 1) := by decide +kernel
theorem dX1_takeTurn_1 : decode cX1_takeTurn 1 = .ok (.istore_n 2, 1) := by decide +kernel
theorem dX1_takeTurn_2 : decode cX1_takeTurn 2 = .ok (.iload_n 2, 1) := by decide +kernel
theorem dX1_takeTurn_3 : decode cX1_takeTurn 3 = .ok (.bipush 12, 2) := by decide +kernel
theorem dX1_takeTurn_5 : decode cX1_takeTurn 5 = .ok (.if_icmp .ge 20, 3) := by decide +kernel
theorem dX1_takeTurn_8 : decode cX1_takeTurn 8 = .ok (.aload_n 1, 1) := by decide +kernel
theorem dX1_takeTurn_9 : decode cX1_takeTurn 9 = .ok (.aload_n 0, 1) := by decide +kernel
theorem dX1_takeTurn_10 : decode cX1_takeTurn 10 = .ok (.getfield 29, 3) := by decide +kernel
theorem dX1_takeTurn_13 : decode cX1_takeTurn 13 = .ok (.iload_n 2, 1) := by decide +kernel
theorem dX1_takeTurn_14 : decode cX1_takeTurn 14 = .ok (.iaload, 1) := by decide +kernel
theorem dX1_takeTurn_15 : decode cX1_takeTurn 15 = .ok (.iaload, 1) := by decide +kernel
theorem dX1_takeTurn_16 : decode cX1_takeTurn 16 = .ok (.ifCond .ne 9, 3) := by decide +kernel
theorem dX1_takeTurn_19 : decode cX1_takeTurn 19 = .ok (.iinc 2 1, 3) := by decide +kernel
theorem dX1_takeTurn_22 : decode cX1_takeTurn 22 = .ok (.goto (-20), 3) := by decide +kernel
theorem dX1_takeTurn_25 : decode cX1_takeTurn 25 = .ok (.iload_n 2, 1) := by decide +kernel
theorem dX1_takeTurn_26 : decode cX1_takeTurn 26 = .ok (.bipush 12, 2) := by decide +kernel
theorem dX1_takeTurn_28 : decode cX1_takeTurn 28 = .ok (.if_icmp .lt 5, 3) := by decide +kernel
theorem dX1_takeTurn_31 : decode cX1_takeTurn 31 = .ok (.iconst (-1), 1) := by decide +kernel
theorem dX1_takeTurn_32 : decode cX1_takeTurn 32 = .ok (.ireturn, 1) := by decide +kernel
theorem dX1_takeTurn_33 : decode cX1_takeTurn 33 = .ok (.aload_n 0, 1) := by decide +kernel
theorem dX1_takeTurn_34 : decode cX1_takeTurn 34 = .ok (.getfield 29, 3) := by decide +kernel
theorem dX1_takeTurn_37 : decode cX1_takeTurn 37 = .ok (.iload_n 2, 1) := by decide +kernel
theorem dX1_takeTurn_38 : decode cX1_takeTurn 38 = .ok (.iaload, 1) := by decide +kernel
theorem dX1_takeTurn_39 : decode cX1_takeTurn 39 = .ok (.istore_n 3, 1) := by decide +kernel
theorem dX1_takeTurn_40 : decode cX1_takeTurn 40 = .ok (.iload_n 2, 1) := by decide +kernel
theorem dX1_takeTurn_41 : decode cX1_takeTurn 41 = .ok (.istore 4, 2) := by decide +kernel
theorem dX1_takeTurn_43 : decode cX1_takeTurn 43 = .ok (.iload 4, 2) := by decide +kernel
theorem dX1_takeTurn_45 : decode cX1_takeTurn 45 = .ok (.bipush 11, 2) := by decide +kernel
theorem dX1_takeTurn_47 : decode cX1_takeTurn 47 = .ok (.if_icmp .ge 25, 3) := by decide +kernel
theorem dX1_takeTurn_50 : decode cX1_takeTurn 50 = .ok (.aload_n 0, 1) := by decide +kernel
theorem dX1_takeTurn_51 : decode cX1_takeTurn 51 = .ok (.getfield 29, 3) := by decide +kernel
theorem dX1_takeTurn_54 : decode cX1_takeTurn 54 = .ok (.iload 4, 2) := by decide +kernel
theorem dX1_takeTurn_56 : decode cX1_takeTurn 56 = .ok (.aload_n 0, 1) := by decide +kernel
theorem dX1_takeTurn_57 : decode cX1_takeTurn 57 = .ok (.getfield 29, 3) := by decide +kernel
theorem dX1_takeTurn_60 : decode cX1_takeTurn 60 = .ok (.iload 4, 2) := by decide +kernel
theorem dX1_takeTurn_62 : decode cX1_takeTurn 62 = .ok (.iconst 1, 1) := by decide +kernel
theorem dX1_takeTurn_63 : decode cX1_takeTurn 63 = .ok (.iadd, 1) := by decide +kernel
theorem dX1_takeTurn_64 : decode cX1_takeTurn 64 = .ok (.iaload, 1) := by decide +kernel
theorem dX1_takeTurn_65 : decode cX1_takeTurn 65 = .ok (.iastore, 1) := by decide +kernel
theorem dX1_takeTurn_66 : decode cX1_takeTurn 66 = .ok (.iinc 4 1, 3) := by decide +kernel
theorem dX1_takeTurn_69 : decode cX1_takeTurn 69 = .ok (.goto (-26), 3) := by decide +kernel
theorem dX1_takeTurn_72 : decode cX1_takeTurn 72 = .ok (.aload_n 0, 1) := by decide +kernel
theorem dX1_takeTurn_73 : decode cX1_takeTurn 73 = .ok (.getfield 29, 3) := by decide +kernel
theorem dX1_takeTurn_76 : decode cX1_takeTurn 76 = .ok (.bipush 11, 2) := by decide +kernel
theorem dX1_takeTurn_78 : decode cX1_takeTurn 78 = .ok (.iload_n 3, 1) := by decide +kernel
theorem dX1_takeTurn_79 : decode cX1_takeTurn 79 = .ok (.iastore, 1) := by decide +kernel
theorem dX1_takeTurn_80 : decode cX1_takeTurn 80 = .ok (.iload_n 3, 1) := by decide +kernel
theorem dX1_takeTurn_81 : decode cX1_takeTurn 81 = .ok (.ireturn, 1) := by decide +kernel
theorem dX1_oweWork_0 : decode cX1_oweWork 0 = .ok (.iconst 0, 1) := by decide +kernel
theorem dX1_oweWork_1 : decode cX1_oweWork 1 = .ok (.istore_n 3, 1) := by decide +kernel
theorem dX1_oweWork_2 : decode cX1_oweWork 2 = .ok (.iload_n 3, 1) := by decide +kernel
theorem dX1_oweWork_3 : decode cX1_oweWork 3 = .ok (.bipush 12, 2) := by decide +kernel
theorem dX1_oweWork_5 : decode cX1_oweWork 5 = .ok (.if_icmp .ge 33, 3) := by decide +kernel
theorem dX1_oweWork_8 : decode cX1_oweWork 8 = .ok (.aload_n 0, 1) := by decide +kernel
theorem dX1_oweWork_9 : decode cX1_oweWork 9 = .ok (.getfield 19, 3) := by decide +kernel
theorem dX1_oweWork_12 : decode cX1_oweWork 12 = .ok (.iload_n 3, 1) := by decide +kernel
theorem dX1_oweWork_13 : decode cX1_oweWork 13 = .ok (.dup2, 1) := by decide +kernel
theorem dX1_oweWork_14 : decode cX1_oweWork 14 = .ok (.laload, 1) := by decide +kernel
theorem dX1_oweWork_15 : decode cX1_oweWork 15 = .ok (.iload_n 2, 1) := by decide +kernel
theorem dX1_oweWork_16 : decode cX1_oweWork 16 = .ok (.i2l, 1) := by decide +kernel
theorem dX1_oweWork_17 : decode cX1_oweWork 17 = .ok (.aload_n 1, 1) := by decide +kernel
theorem dX1_oweWork_18 : decode cX1_oweWork 18 = .ok (.iload_n 3, 1) := by decide +kernel
theorem dX1_oweWork_19 : decode cX1_oweWork 19 = .ok (.iaload, 1) := by decide +kernel
theorem dX1_oweWork_20 : decode cX1_oweWork 20 = .ok (.i2l, 1) := by decide +kernel
theorem dX1_oweWork_21 : decode cX1_oweWork 21 = .ok (.lmul, 1) := by decide +kernel
theorem dX1_oweWork_22 : decode cX1_oweWork 22 = .ok (.ldc2_w 43, 3) := by decide +kernel
theorem dX1_oweWork_25 : decode cX1_oweWork 25 = .ok (.ladd, 1) := by decide +kernel
theorem dX1_oweWork_26 : decode cX1_oweWork 26 = .ok (.ldc2_w 45, 3) := by decide +kernel
theorem dX1_oweWork_29 : decode cX1_oweWork 29 = .ok (.ldiv, 1) := by decide +kernel
theorem dX1_oweWork_30 : decode cX1_oweWork 30 = .ok (.ladd, 1) := by decide +kernel
theorem dX1_oweWork_31 : decode cX1_oweWork 31 = .ok (.lastore, 1) := by decide +kernel
theorem dX1_oweWork_32 : decode cX1_oweWork 32 = .ok (.iinc 3 1, 3) := by decide +kernel
theorem dX1_oweWork_35 : decode cX1_oweWork 35 = .ok (.goto (-33), 3) := by decide +kernel
theorem dX1_oweWork_38 : decode cX1_oweWork 38 = .ok (.return_, 1) := by decide +kernel
theorem dX1_payLosses_0 : decode cX1_payLosses 0 = .ok (.aload_n 0, 1) := by decide +kernel
theorem dX1_payLosses_1 : decode cX1_payLosses 1 = .ok (.lconst 0, 1) := by decide +kernel
theorem dX1_payLosses_2 : decode cX1_payLosses 2 = .ok (.putfield 32, 3) := by decide +kernel
theorem dX1_payLosses_5 : decode cX1_payLosses 5 = .ok (.iconst 0, 1) := by decide +kernel
theorem dX1_payLosses_6 : decode cX1_payLosses 6 = .ok (.istore 5, 2) := by decide +kernel
theorem dX1_payLosses_8 : decode cX1_payLosses 8 = .ok (.iload 5, 2) := by decide +kernel
theorem dX1_payLosses_10 : decode cX1_payLosses 10 = .ok (.aload_n 1, 1) := by decide +kernel
theorem dX1_payLosses_11 : decode cX1_payLosses 11 = .ok (.getfield 47, 3) := by decide +kernel
theorem dX1_payLosses_14 : decode cX1_payLosses 14 = .ok (.if_icmp .ge 95, 3) := by decide +kernel
theorem dX1_payLosses_17 : decode cX1_payLosses 17 = .ok (.aload_n 1, 1) := by decide +kernel
theorem dX1_payLosses_18 : decode cX1_payLosses 18 = .ok (.getfield 53, 3) := by decide +kernel
theorem dX1_payLosses_21 : decode cX1_payLosses 21 = .ok (.iload 5, 2) := by decide +kernel
theorem dX1_payLosses_23 : decode cX1_payLosses 23 = .ok (.baload, 1) := by decide +kernel
theorem dX1_payLosses_24 : decode cX1_payLosses 24 = .ok (.ifCond .eq 6, 3) := by decide +kernel
theorem dX1_payLosses_27 : decode cX1_payLosses 27 = .ok (.goto 76, 3) := by decide +kernel
theorem dX1_payLosses_30 : decode cX1_payLosses 30 = .ok (.aload_n 2, 1) := by decide +kernel
theorem dX1_payLosses_31 : decode cX1_payLosses 31 = .ok (.aload_n 1, 1) := by decide +kernel
theorem dX1_payLosses_32 : decode cX1_payLosses 32 = .ok (.iload 5, 2) := by decide +kernel
theorem dX1_payLosses_34 : decode cX1_payLosses 34 = .ok (.aload_n 1, 1) := by decide +kernel
theorem dX1_payLosses_35 : decode cX1_payLosses 35 = .ok (.getfield 57, 3) := by decide +kernel
theorem dX1_payLosses_38 : decode cX1_payLosses 38 = .ok (.iload_n 3, 1) := by decide +kernel
theorem dX1_payLosses_39 : decode cX1_payLosses 39 = .ok (.invokevirtual 60, 3) := by decide +kernel
theorem dX1_payLosses_42 : decode cX1_payLosses 42 = .ok (.pop, 1) := by decide +kernel
theorem dX1_payLosses_43 : decode cX1_payLosses 43 = .ok (.aload_n 2, 1) := by decide +kernel
theorem dX1_payLosses_44 : decode cX1_payLosses 44 = .ok (.getfield 66, 3) := by decide +kernel
theorem dX1_payLosses_47 : decode cX1_payLosses 47 = .ok (.ifCond .le 14, 3) := by decide +kernel
theorem dX1_payLosses_50 : decode cX1_payLosses 50 = .ok (.aload_n 2, 1) := by decide +kernel
theorem dX1_payLosses_51 : decode cX1_payLosses 51 = .ok (.getfield 69, 3) := by decide +kernel
theorem dX1_payLosses_54 : decode cX1_payLosses 54 = .ok (.ifCond .ne 7, 3) := by decide +kernel
theorem dX1_payLosses_57 : decode cX1_payLosses 57 = .ok (.iconst 1, 1) := by decide +kernel
theorem dX1_payLosses_58 : decode cX1_payLosses 58 = .ok (.goto 4, 3) := by decide +kernel
theorem dX1_payLosses_61 : decode cX1_payLosses 61 = .ok (.iconst 0, 1) := by decide +kernel
theorem dX1_payLosses_62 : decode cX1_payLosses 62 = .ok (.istore 6, 2) := by decide +kernel
theorem dX1_payLosses_64 : decode cX1_payLosses 64 = .ok (.aload_n 2, 1) := by decide +kernel
theorem dX1_payLosses_65 : decode cX1_payLosses 65 = .ok (.getfield 73, 3) := by decide +kernel
theorem dX1_payLosses_68 : decode cX1_payLosses 68 = .ok (.ifCond .ne 8, 3) := by decide +kernel
theorem dX1_payLosses_71 : decode cX1_payLosses 71 = .ok (.iload 6, 2) := by decide +kernel
theorem dX1_payLosses_73 : decode cX1_payLosses 73 = .ok (.ifCond .eq 30, 3) := by decide +kernel
theorem dX1_payLosses_76 : decode cX1_payLosses 76 = .ok (.aload_n 0, 1) := by decide +kernel
theorem dX1_payLosses_77 : decode cX1_payLosses 77 = .ok (.getfield 22, 3) := by decide +kernel
theorem dX1_payLosses_80 : decode cX1_payLosses 80 = .ok (.aload_n 2, 1) := by decide +kernel
theorem dX1_payLosses_81 : decode cX1_payLosses 81 = .ok (.getfield 76, 3) := by decide +kernel
theorem dX1_payLosses_84 : decode cX1_payLosses 84 = .ok (.dup2, 1) := by decide +kernel
theorem dX1_payLosses_85 : decode cX1_payLosses 85 = .ok (.laload, 1) := by decide +kernel
theorem dX1_payLosses_86 : decode cX1_payLosses 86 = .ok (.iload 4, 2) := by decide +kernel
theorem dX1_payLosses_88 : decode cX1_payLosses 88 = .ok (.i2l, 1) := by decide +kernel
theorem dX1_payLosses_89 : decode cX1_payLosses 89 = .ok (.ladd, 1) := by decide +kernel
theorem dX1_payLosses_90 : decode cX1_payLosses 90 = .ok (.lastore, 1) := by decide +kernel
theorem dX1_payLosses_91 : decode cX1_payLosses 91 = .ok (.aload_n 0, 1) := by decide +kernel
theorem dX1_payLosses_92 : decode cX1_payLosses 92 = .ok (.dup, 1) := by decide +kernel
theorem dX1_payLosses_93 : decode cX1_payLosses 93 = .ok (.getfield 32, 3) := by decide +kernel
theorem dX1_payLosses_96 : decode cX1_payLosses 96 = .ok (.iload 4, 2) := by decide +kernel
theorem dX1_payLosses_98 : decode cX1_payLosses 98 = .ok (.i2l, 1) := by decide +kernel
theorem dX1_payLosses_99 : decode cX1_payLosses 99 = .ok (.ladd, 1) := by decide +kernel
theorem dX1_payLosses_100 : decode cX1_payLosses 100 = .ok (.putfield 32, 3) := by decide +kernel
theorem dX1_payLosses_103 : decode cX1_payLosses 103 = .ok (.iinc 5 1, 3) := by decide +kernel
theorem dX1_payLosses_106 : decode cX1_payLosses 106 = .ok (.goto (-98), 3) := by decide +kernel
theorem dX1_payLosses_109 : decode cX1_payLosses 109 = .ok (.return_, 1) := by decide +kernel
theorem dX1_payIn_0 : decode cX1_payIn 0 = .ok (.aload_n 0, 1) := by decide +kernel
theorem dX1_payIn_1 : decode cX1_payIn 1 = .ok (.getfield 32, 3) := by decide +kernel
theorem dX1_payIn_4 : decode cX1_payIn 4 = .ok (.lstore_n 2, 1) := by decide +kernel
theorem dX1_payIn_5 : decode cX1_payIn 5 = .ok (.iconst 0, 1) := by decide +kernel
theorem dX1_payIn_6 : decode cX1_payIn 6 = .ok (.istore 4, 2) := by decide +kernel
theorem dX1_payIn_8 : decode cX1_payIn 8 = .ok (.iload 4, 2) := by decide +kernel
theorem dX1_payIn_10 : decode cX1_payIn 10 = .ok (.bipush 12, 2) := by decide +kernel
theorem dX1_payIn_12 : decode cX1_payIn 12 = .ok (.if_icmp .ge 38, 3) := by decide +kernel
theorem dX1_payIn_15 : decode cX1_payIn 15 = .ok (.aload_n 0, 1) := by decide +kernel
theorem dX1_payIn_16 : decode cX1_payIn 16 = .ok (.getfield 32, 3) := by decide +kernel
theorem dX1_payIn_19 : decode cX1_payIn 19 = .ok (.iload 4, 2) := by decide +kernel
theorem dX1_payIn_21 : decode cX1_payIn 21 = .ok (.aload_n 1, 1) := by decide +kernel
theorem dX1_payIn_22 : decode cX1_payIn 22 = .ok (.invokestatic 35, 3) := by decide +kernel
theorem dX1_payIn_25 : decode cX1_payIn 25 = .ok (.lstore 5, 2) := by decide +kernel
theorem dX1_payIn_27 : decode cX1_payIn 27 = .ok (.aload_n 0, 1) := by decide +kernel
theorem dX1_payIn_28 : decode cX1_payIn 28 = .ok (.getfield 22, 3) := by decide +kernel
theorem dX1_payIn_31 : decode cX1_payIn 31 = .ok (.iload 4, 2) := by decide +kernel
theorem dX1_payIn_33 : decode cX1_payIn 33 = .ok (.dup2, 1) := by decide +kernel
theorem dX1_payIn_34 : decode cX1_payIn 34 = .ok (.laload, 1) := by decide +kernel
theorem dX1_payIn_35 : decode cX1_payIn 35 = .ok (.lload 5, 2) := by decide +kernel
theorem dX1_payIn_37 : decode cX1_payIn 37 = .ok (.lsub, 1) := by decide +kernel
theorem dX1_payIn_38 : decode cX1_payIn 38 = .ok (.lastore, 1) := by decide +kernel
theorem dX1_payIn_39 : decode cX1_payIn 39 = .ok (.lload_n 2, 1) := by decide +kernel
theorem dX1_payIn_40 : decode cX1_payIn 40 = .ok (.lload 5, 2) := by decide +kernel
theorem dX1_payIn_42 : decode cX1_payIn 42 = .ok (.lsub, 1) := by decide +kernel
theorem dX1_payIn_43 : decode cX1_payIn 43 = .ok (.lstore_n 2, 1) := by decide +kernel
theorem dX1_payIn_44 : decode cX1_payIn 44 = .ok (.iinc 4 1, 3) := by decide +kernel
theorem dX1_payIn_47 : decode cX1_payIn 47 = .ok (.goto (-39), 3) := by decide +kernel
theorem dX1_payIn_50 : decode cX1_payIn 50 = .ok (.aload_n 0, 1) := by decide +kernel
theorem dX1_payIn_51 : decode cX1_payIn 51 = .ok (.dup, 1) := by decide +kernel
theorem dX1_payIn_52 : decode cX1_payIn 52 = .ok (.getfield 25, 3) := by decide +kernel
theorem dX1_payIn_55 : decode cX1_payIn 55 = .ok (.lload_n 2, 1) := by decide +kernel
theorem dX1_payIn_56 : decode cX1_payIn 56 = .ok (.ladd, 1) := by decide +kernel
theorem dX1_payIn_57 : decode cX1_payIn 57 = .ok (.putfield 25, 3) := by decide +kernel
theorem dX1_payIn_60 : decode cX1_payIn 60 = .ok (.return_, 1) := by decide +kernel
theorem dX1_shareOf_0 : decode cX1_shareOf 0 = .ok (.lconst 0, 1) := by decide +kernel
theorem dX1_shareOf_1 : decode cX1_shareOf 1 = .ok (.lstore 4, 2) := by decide +kernel
theorem dX1_shareOf_3 : decode cX1_shareOf 3 = .ok (.iconst 0, 1) := by decide +kernel
theorem dX1_shareOf_4 : decode cX1_shareOf 4 = .ok (.istore 6, 2) := by decide +kernel
theorem dX1_shareOf_6 : decode cX1_shareOf 6 = .ok (.iload 6, 2) := by decide +kernel
theorem dX1_shareOf_8 : decode cX1_shareOf 8 = .ok (.bipush 12, 2) := by decide +kernel
theorem dX1_shareOf_10 : decode cX1_shareOf 10 = .ok (.if_icmp .ge 19, 3) := by decide +kernel
theorem dX1_shareOf_13 : decode cX1_shareOf 13 = .ok (.lload 4, 2) := by decide +kernel
theorem dX1_shareOf_15 : decode cX1_shareOf 15 = .ok (.aload_n 3, 1) := by decide +kernel
theorem dX1_shareOf_16 : decode cX1_shareOf 16 = .ok (.iload 6, 2) := by decide +kernel
theorem dX1_shareOf_18 : decode cX1_shareOf 18 = .ok (.iaload, 1) := by decide +kernel
theorem dX1_shareOf_19 : decode cX1_shareOf 19 = .ok (.i2l, 1) := by decide +kernel
theorem dX1_shareOf_20 : decode cX1_shareOf 20 = .ok (.ladd, 1) := by decide +kernel
theorem dX1_shareOf_21 : decode cX1_shareOf 21 = .ok (.lstore 4, 2) := by decide +kernel
theorem dX1_shareOf_23 : decode cX1_shareOf 23 = .ok (.iinc 6 1, 3) := by decide +kernel
theorem dX1_shareOf_26 : decode cX1_shareOf 26 = .ok (.goto (-20), 3) := by decide +kernel
theorem dX1_shareOf_29 : decode cX1_shareOf 29 = .ok (.lload 4, 2) := by decide +kernel
theorem dX1_shareOf_31 : decode cX1_shareOf 31 = .ok (.lconst 0, 1) := by decide +kernel
theorem dX1_shareOf_32 : decode cX1_shareOf 32 = .ok (.lcmp, 1) := by decide +kernel
theorem dX1_shareOf_33 : decode cX1_shareOf 33 = .ok (.ifCond .le 15, 3) := by decide +kernel
theorem dX1_shareOf_36 : decode cX1_shareOf 36 = .ok (.lload_n 0, 1) := by decide +kernel
theorem dX1_shareOf_37 : decode cX1_shareOf 37 = .ok (.aload_n 3, 1) := by decide +kernel
theorem dX1_shareOf_38 : decode cX1_shareOf 38 = .ok (.iload_n 2, 1) := by decide +kernel
theorem dX1_shareOf_39 : decode cX1_shareOf 39 = .ok (.iaload, 1) := by decide +kernel
theorem dX1_shareOf_40 : decode cX1_shareOf 40 = .ok (.i2l, 1) := by decide +kernel
theorem dX1_shareOf_41 : decode cX1_shareOf 41 = .ok (.lmul, 1) := by decide +kernel
theorem dX1_shareOf_42 : decode cX1_shareOf 42 = .ok (.lload 4, 2) := by decide +kernel
theorem dX1_shareOf_44 : decode cX1_shareOf 44 = .ok (.ldiv, 1) := by decide +kernel
theorem dX1_shareOf_45 : decode cX1_shareOf 45 = .ok (.goto 4, 3) := by decide +kernel
theorem dX1_shareOf_48 : decode cX1_shareOf 48 = .ok (.lconst 0, 1) := by decide +kernel
theorem dX1_shareOf_49 : decode cX1_shareOf 49 = .ok (.lreturn, 1) := by decide +kernel
end
section
theorem dX2_init_0 : decode cX2_init 0 = .ok (.aload_n 0, 1) := by decide +kernel
theorem dX2_init_1 : decode cX2_init 1 = .ok (.invokespecial 3, 3) := by decide +kernel
theorem dX2_init_4 : decode cX2_init 4 = .ok (.aload_n 0, 1) := by decide +kernel
theorem dX2_init_5 : decode cX2_init 5 = .ok (.bipush 6, 2) := by decide +kernel
theorem dX2_init_7 : decode cX2_init 7 = .ok (.newarray .int, 2) := by decide +kernel
theorem dX2_init_9 : decode cX2_init 9 = .ok (.putfield 9, 3) := by decide +kernel
theorem dX2_init_12 : decode cX2_init 12 = .ok (.aload_n 0, 1) := by decide +kernel
theorem dX2_init_13 : decode cX2_init 13 = .ok (.bipush 6, 2) := by decide +kernel
theorem dX2_init_15 : decode cX2_init 15 = .ok (.newarray .int, 2) := by decide +kernel
theorem dX2_init_17 : decode cX2_init 17 = .ok (.putfield 15, 3) := by decide +kernel
theorem dX2_init_20 : decode cX2_init 20 = .ok (.aload_n 0, 1) := by decide +kernel
theorem dX2_init_21 : decode cX2_init 21 = .ok (.bipush 6, 2) := by decide +kernel
theorem dX2_init_23 : decode cX2_init 23 = .ok (.newarray .int, 2) := by decide +kernel
theorem dX2_init_25 : decode cX2_init 25 = .ok (.putfield 18, 3) := by decide +kernel
theorem dX2_init_28 : decode cX2_init 28 = .ok (.aload_n 0, 1) := by decide +kernel
theorem dX2_init_29 : decode cX2_init 29 = .ok (.iconst 0, 1) := by decide +kernel
theorem dX2_init_30 : decode cX2_init 30 = .ok (.putfield 21, 3) := by decide +kernel
theorem dX2_init_33 : decode cX2_init 33 = .ok (.aload_n 0, 1) := by decide +kernel
theorem dX2_init_34 : decode cX2_init 34 = .ok (.iconst (-1), 1) := by decide +kernel
theorem dX2_init_35 : decode cX2_init 35 = .ok (.putfield 25, 3) := by decide +kernel
theorem dX2_init_38 : decode cX2_init 38 = .ok (.aload_n 0, 1) := by decide +kernel
theorem dX2_init_39 : decode cX2_init 39 = .ok (.iconst 0, 1) := by decide +kernel
theorem dX2_init_40 : decode cX2_init 40 = .ok (.putfield 28, 3) := by decide +kernel
theorem dX2_init_43 : decode cX2_init 43 = .ok (.aload_n 0, 1) := by decide +kernel
theorem dX2_init_44 : decode cX2_init 44 = .ok (.lconst 0, 1) := by decide +kernel
theorem dX2_init_45 : decode cX2_init 45 = .ok (.putfield 31, 3) := by decide +kernel
theorem dX2_init_48 : decode cX2_init 48 = .ok (.aload_n 0, 1) := by decide +kernel
theorem dX2_init_49 : decode cX2_init 49 = .ok (.iconst 1, 1) := by decide +kernel
theorem dX2_init_50 : decode cX2_init 50 = .ok (.invokevirtual 35, 3) := by decide +kernel
theorem dX2_init_53 : decode cX2_init 53 = .ok (.return_, 1) := by decide +kernel
theorem dX2_makeHeights_0 : decode cX2_makeHeights 0 = .ok (.aload_n 0, 1) := by decide +kernel
theorem dX2_makeHeights_1 : decode cX2_makeHeights 1 = .ok (.iload_n 1, 1) := by decide +kernel
theorem dX2_makeHeights_2 : decode cX2_makeHeights 2 = .ok (.putfield 39, 3) := by decide +kernel
theorem dX2_makeHeights_5 : decode cX2_makeHeights 5 = .ok (.aload_n 0, 1) := by decide +kernel
theorem dX2_makeHeights_6 : decode cX2_makeHeights 6 = .ok (.getfield 9, 3) := by decide +kernel
theorem dX2_makeHeights_9 : decode cX2_makeHeights 9 = .ok (.iconst 0, 1) := by decide +kernel
theorem dX2_makeHeights_10 : decode cX2_makeHeights 10 = .ok (.invokestatic 42, 3) := by decide +kernel
theorem dX2_makeHeights_13 : decode cX2_makeHeights 13 = .ok (.aload_n 0, 1) := by decide +kernel
theorem dX2_makeHeights_14 : decode cX2_makeHeights 14 = .ok (.getfield 15, 3) := by decide +kernel
theorem dX2_makeHeights_17 : decode cX2_makeHeights 17 = .ok (.iconst 1, 1) := by decide +kernel
theorem dX2_makeHeights_18 : decode cX2_makeHeights 18 = .ok (.invokestatic 42, 3) := by decide +kernel
theorem dX2_makeHeights_21 : decode cX2_makeHeights 21 = .ok (.aload_n 0, 1) := by decide +kernel
theorem dX2_makeHeights_22 : decode cX2_makeHeights 22 = .ok (.getfield 18, 3) := by decide +kernel
theorem dX2_makeHeights_25 : decode cX2_makeHeights 25 = .ok (.iconst 0, 1) := by decide +kernel
theorem dX2_makeHeights_26 : decode cX2_makeHeights 26 = .ok (.invokestatic 42, 3) := by decide +kernel
theorem dX2_makeHeights_29 : decode cX2_makeHeights 29 = .ok (.return_, 1) := by decide +kernel
theorem dX2_has_0 : decode cX2_has 0 = .ok (.iload_n 1, 1) := by decide +kernel
theorem dX2_has_1 : decode cX2_has 1 = .ok (.iconst 0, 1) := by decide +kernel
theorem dX2_has_2 : decode cX2_has 2 = .ok (.aload_n 0, 1) := by decide +kernel
theorem dX2_has_3 : decode cX2_has 3 = .ok (.getfield 39, 3) := by decide +kernel
theorem dX2_has_6 : decode cX2_has 6 = .ok (.iconst 1, 1) := by decide +kernel
theorem dX2_has_7 : decode cX2_has 7 = .ok (.isub, 1) := by decide +kernel
theorem dX2_has_8 : decode cX2_has 8 = .ok (.invokestatic 48, 3) := by decide +kernel
theorem dX2_has_11 : decode cX2_has 11 = .ok (.ireturn, 1) := by decide +kernel
theorem dX2_isOpen_0 : decode cX2_isOpen 0 = .ok (.aload_n 0, 1) := by decide +kernel
theorem dX2_isOpen_1 : decode cX2_isOpen 1 = .ok (.getfield 21, 3) := by decide +kernel
theorem dX2_isOpen_4 : decode cX2_isOpen 4 = .ok (.bipush 20, 2) := by decide +kernel
theorem dX2_isOpen_6 : decode cX2_isOpen 6 = .ok (.if_icmp .gt 7, 3) := by decide +kernel
theorem dX2_isOpen_9 : decode cX2_isOpen 9 = .ok (.iconst 1, 1) := by decide +kernel
theorem dX2_isOpen_10 : decode cX2_isOpen 10 = .ok (.goto 4, 3) := by decide +kernel
theorem dX2_isOpen_13 : decode cX2_isOpen 13 = .ok (.iconst 0, 1) := by decide +kernel
theorem dX2_isOpen_14 : decode cX2_isOpen 14 = .ok (.ireturn, 1) := by decide +kernel
theorem dX2_canReach_0 : decode cX2_canReach 0 = .ok (.iload_n 1, 1) := by decide +kernel
theorem dX2_canReach_1 : decode cX2_canReach 1 = .ok (.iconst (-1), 1) := by decide +kernel
theorem dX2_canReach_2 : decode cX2_canReach 2 = .ok (.if_icmp .eq 13, 3) := by decide +kernel
theorem dX2_canReach_5 : decode cX2_canReach 5 = .ok (.aload_n 0, 1) := by decide +kernel
theorem dX2_canReach_6 : decode cX2_canReach 6 = .ok (.iload_n 1, 1) := by decide +kernel
theorem dX2_canReach_7 : decode cX2_canReach 7 = .ok (.invokevirtual 52, 3) := by decide +kernel
theorem dX2_canReach_10 : decode cX2_canReach 10 = .ok (.ifCond .ne 5, 3) := by decide +kernel
theorem dX2_canReach_13 : decode cX2_canReach 13 = .ok (.iconst 0, 1) := by decide +kernel
theorem dX2_canReach_14 : decode cX2_canReach 14 = .ok (.ireturn, 1) := by decide +kernel
theorem dX2_canReach_15 : decode cX2_canReach 15 = .ok (.iload_n 1, 1) := by decide +kernel
theorem dX2_canReach_16 : decode cX2_canReach 16 = .ok (.aload_n 0, 1) := by decide +kernel
theorem dX2_canReach_17 : decode cX2_canReach 17 = .ok (.getfield 25, 3) := by decide +kernel
theorem dX2_canReach_20 : decode cX2_canReach 20 = .ok (.isub, 1) := by decide +kernel
theorem dX2_canReach_21 : decode cX2_canReach 21 = .ok (.invokestatic 56, 3) := by decide +kernel
theorem dX2_canReach_24 : decode cX2_canReach 24 = .ok (.iconst 1, 1) := by decide +kernel
theorem dX2_canReach_25 : decode cX2_canReach 25 = .ok (.if_icmp .ne 7, 3) := by decide +kernel
theorem dX2_canReach_28 : decode cX2_canReach 28 = .ok (.iconst 1, 1) := by decide +kernel
theorem dX2_canReach_29 : decode cX2_canReach 29 = .ok (.goto 4, 3) := by decide +kernel
theorem dX2_canReach_32 : decode cX2_canReach 32 = .ok (.iconst 0, 1) := by decide +kernel
theorem dX2_canReach_33 : decode cX2_canReach 33 = .ok (.istore_n 2, 1) := by decide +kernel
theorem dX2_canReach_34 : decode cX2_canReach 34 = .ok (.iload_n 1, 1) := by decide +kernel
theorem dX2_canReach_35 : decode cX2_canReach 35 = .ok (.iconst (-1), 1) := by decide +kernel
theorem dX2_canReach_36 : decode cX2_canReach 36 = .ok (.if_icmp .eq 11, 3) := by decide +kernel
theorem dX2_canReach_39 : decode cX2_canReach 39 = .ok (.aload_n 0, 1) := by decide +kernel
theorem dX2_canReach_40 : decode cX2_canReach 40 = .ok (.getfield 25, 3) := by decide +kernel
theorem dX2_canReach_43 : decode cX2_canReach 43 = .ok (.iconst (-1), 1) := by decide +kernel
theorem dX2_canReach_44 : decode cX2_canReach 44 = .ok (.if_icmp .ne 7, 3) := by decide +kernel
theorem dX2_canReach_47 : decode cX2_canReach 47 = .ok (.iconst 1, 1) := by decide +kernel
theorem dX2_canReach_48 : decode cX2_canReach 48 = .ok (.goto 4, 3) := by decide +kernel
theorem dX2_canReach_51 : decode cX2_canReach 51 = .ok (.iconst 0, 1) := by decide +kernel
theorem dX2_canReach_52 : decode cX2_canReach 52 = .ok (.istore_n 3, 1) := by decide +kernel
theorem dX2_canReach_53 : decode cX2_canReach 53 = .ok (.iload_n 2, 1) := by decide +kernel
theorem dX2_canReach_54 : decode cX2_canReach 54 = .ok (.ifCond .eq 18, 3) := by decide +kernel
theorem dX2_canReach_57 : decode cX2_canReach 57 = .ok (.iload_n 3, 1) := by decide +kernel
theorem dX2_canReach_58 : decode cX2_canReach 58 = .ok (.ifCond .eq 10, 3) := by decide +kernel
theorem dX2_canReach_61 : decode cX2_canReach 61 = .ok (.aload_n 0, 1) := by decide +kernel
theorem dX2_canReach_62 : decode cX2_canReach 62 = .ok (.invokevirtual 62, 3) := by decide +kernel
theorem dX2_canReach_65 : decode cX2_canReach 65 = .ok (.ifCond .eq 7, 3) := by decide +kernel
theorem dX2_canReach_68 : decode cX2_canReach 68 = .ok (.iconst 1, 1) := by decide +kernel
theorem dX2_canReach_69 : decode cX2_canReach 69 = .ok (.goto 4, 3) := by decide +kernel
theorem dX2_canReach_72 : decode cX2_canReach 72 = .ok (.iconst 0, 1) := by decide +kernel
theorem dX2_canReach_73 : decode cX2_canReach 73 = .ok (.ireturn, 1) := by decide +kernel
theorem dX2_passDay_0 : decode cX2_passDay 0 = .ok (.aload_n 0, 1) := by decide +kernel
theorem dX2_passDay_1 : decode cX2_passDay 1 = .ok (.dup, 1) := by decide +kernel
theorem dX2_passDay_2 : decode cX2_passDay 2 = .ok (.getfield 21, 3) := by decide +kernel
theorem dX2_passDay_5 : decode cX2_passDay 5 = .ok (.iload_n 2, 1) := by decide +kernel
theorem dX2_passDay_6 : decode cX2_passDay 6 = .ok (.iadd, 1) := by decide +kernel
theorem dX2_passDay_7 : decode cX2_passDay 7 = .ok (.putfield 21, 3) := by decide +kernel
theorem dX2_passDay_10 : decode cX2_passDay 10 = .ok (.iload_n 1, 1) := by decide +kernel
theorem dX2_passDay_11 : decode cX2_passDay 11 = .ok (.ifCond .le 19, 3) := by decide +kernel
theorem dX2_passDay_14 : decode cX2_passDay 14 = .ok (.aload_n 0, 1) := by decide +kernel
theorem dX2_passDay_15 : decode cX2_passDay 15 = .ok (.iconst 0, 1) := by decide +kernel
theorem dX2_passDay_16 : decode cX2_passDay 16 = .ok (.aload_n 0, 1) := by decide +kernel
theorem dX2_passDay_17 : decode cX2_passDay 17 = .ok (.getfield 21, 3) := by decide +kernel
theorem dX2_passDay_20 : decode cX2_passDay 20 = .ok (.iconst 4, 1) := by decide +kernel
theorem dX2_passDay_21 : decode cX2_passDay 21 = .ok (.iload_n 1, 1) := by decide +kernel
theorem dX2_passDay_22 : decode cX2_passDay 22 = .ok (.imul, 1) := by decide +kernel
theorem dX2_passDay_23 : decode cX2_passDay 23 = .ok (.isub, 1) := by decide +kernel
theorem dX2_passDay_24 : decode cX2_passDay 24 = .ok (.invokestatic 66, 3) := by decide +kernel
theorem dX2_passDay_27 : decode cX2_passDay 27 = .ok (.putfield 21, 3) := by decide +kernel
theorem dX2_passDay_30 : decode cX2_passDay 30 = .ok (.iconst 0, 1) := by decide +kernel
theorem dX2_passDay_31 : decode cX2_passDay 31 = .ok (.istore 4, 2) := by decide +kernel
theorem dX2_passDay_33 : decode cX2_passDay 33 = .ok (.iload 4, 2) := by decide +kernel
theorem dX2_passDay_35 : decode cX2_passDay 35 = .ok (.aload_n 0, 1) := by decide +kernel
theorem dX2_passDay_36 : decode cX2_passDay 36 = .ok (.getfield 39, 3) := by decide +kernel
theorem dX2_passDay_39 : decode cX2_passDay 39 = .ok (.if_icmp .ge 40, 3) := by decide +kernel
theorem dX2_passDay_42 : decode cX2_passDay 42 = .ok (.aload_n 0, 1) := by decide +kernel
theorem dX2_passDay_43 : decode cX2_passDay 43 = .ok (.getfield 9, 3) := by decide +kernel
theorem dX2_passDay_46 : decode cX2_passDay 46 = .ok (.iload 4, 2) := by decide +kernel
theorem dX2_passDay_48 : decode cX2_passDay 48 = .ok (.aload_n 0, 1) := by decide +kernel
theorem dX2_passDay_49 : decode cX2_passDay 49 = .ok (.getfield 9, 3) := by decide +kernel
theorem dX2_passDay_52 : decode cX2_passDay 52 = .ok (.iload 4, 2) := by decide +kernel
theorem dX2_passDay_54 : decode cX2_passDay 54 = .ok (.iaload, 1) := by decide +kernel
theorem dX2_passDay_55 : decode cX2_passDay 55 = .ok (.aload_n 0, 1) := by decide +kernel
theorem dX2_passDay_56 : decode cX2_passDay 56 = .ok (.getfield 15, 3) := by decide +kernel
theorem dX2_passDay_59 : decode cX2_passDay 59 = .ok (.iload 4, 2) := by decide +kernel
theorem dX2_passDay_61 : decode cX2_passDay 61 = .ok (.iaload, 1) := by decide +kernel
theorem dX2_passDay_62 : decode cX2_passDay 62 = .ok (.aload_n 0, 1) := by decide +kernel
theorem dX2_passDay_63 : decode cX2_passDay 63 = .ok (.iload 4, 2) := by decide +kernel
theorem dX2_passDay_65 : decode cX2_passDay 65 = .ok (.iload_n 1, 1) := by decide +kernel
theorem dX2_passDay_66 : decode cX2_passDay 66 = .ok (.invokevirtual 70, 3) := by decide +kernel
theorem dX2_passDay_69 : decode cX2_passDay 69 = .ok (.invokestatic 73, 3) := by decide +kernel
theorem dX2_passDay_72 : decode cX2_passDay 72 = .ok (.iastore, 1) := by decide +kernel
theorem dX2_passDay_73 : decode cX2_passDay 73 = .ok (.iinc 4 1, 3) := by decide +kernel
theorem dX2_passDay_76 : decode cX2_passDay 76 = .ok (.goto (-43), 3) := by decide +kernel
theorem dX2_passDay_79 : decode cX2_passDay 79 = .ok (.aload_n 0, 1) := by decide +kernel
theorem dX2_passDay_80 : decode cX2_passDay 80 = .ok (.getfield 25, 3) := by decide +kernel
theorem dX2_passDay_83 : decode cX2_passDay 83 = .ok (.iconst (-1), 1) := by decide +kernel
theorem dX2_passDay_84 : decode cX2_passDay 84 = .ok (.if_icmp .eq 11, 3) := by decide +kernel
theorem dX2_passDay_87 : decode cX2_passDay 87 = .ok (.aload_n 0, 1) := by decide +kernel
theorem dX2_passDay_88 : decode cX2_passDay 88 = .ok (.bipush 10, 2) := by decide +kernel
theorem dX2_passDay_90 : decode cX2_passDay 90 = .ok (.iload_n 3, 1) := by decide +kernel
theorem dX2_passDay_91 : decode cX2_passDay 91 = .ok (.imul, 1) := by decide +kernel
theorem dX2_passDay_92 : decode cX2_passDay 92 = .ok (.invokevirtual 77, 3) := by decide +kernel
theorem dX2_passDay_95 : decode cX2_passDay 95 = .ok (.return_, 1) := by decide +kernel
theorem dX2_graze_0 : decode cX2_graze 0 = .ok (.iload_n 1, 1) := by decide +kernel
theorem dX2_graze_1 : decode cX2_graze 1 = .ok (.aload_n 0, 1) := by decide +kernel
theorem dX2_graze_2 : decode cX2_graze 2 = .ok (.getfield 9, 3) := by decide +kernel
theorem dX2_graze_5 : decode cX2_graze 5 = .ok (.aload_n 0, 1) := by decide +kernel
theorem dX2_graze_6 : decode cX2_graze 6 = .ok (.getfield 25, 3) := by decide +kernel
theorem dX2_graze_9 : decode cX2_graze 9 = .ok (.iaload, 1) := by decide +kernel
theorem dX2_graze_10 : decode cX2_graze 10 = .ok (.invokestatic 80, 3) := by decide +kernel
theorem dX2_graze_13 : decode cX2_graze 13 = .ok (.istore_n 2, 1) := by decide +kernel
theorem dX2_graze_14 : decode cX2_graze 14 = .ok (.aload_n 0, 1) := by decide +kernel
theorem dX2_graze_15 : decode cX2_graze 15 = .ok (.getfield 9, 3) := by decide +kernel
theorem dX2_graze_18 : decode cX2_graze 18 = .ok (.aload_n 0, 1) := by decide +kernel
theorem dX2_graze_19 : decode cX2_graze 19 = .ok (.getfield 25, 3) := by decide +kernel
theorem dX2_graze_22 : decode cX2_graze 22 = .ok (.dup2, 1) := by decide +kernel
theorem dX2_graze_23 : decode cX2_graze 23 = .ok (.iaload, 1) := by decide +kernel
theorem dX2_graze_24 : decode cX2_graze 24 = .ok (.iload_n 2, 1) := by decide +kernel
theorem dX2_graze_25 : decode cX2_graze 25 = .ok (.isub, 1) := by decide +kernel
theorem dX2_graze_26 : decode cX2_graze 26 = .ok (.iastore, 1) := by decide +kernel
theorem dX2_graze_27 : decode cX2_graze 27 = .ok (.aload_n 0, 1) := by decide +kernel
theorem dX2_graze_28 : decode cX2_graze 28 = .ok (.dup, 1) := by decide +kernel
theorem dX2_graze_29 : decode cX2_graze 29 = .ok (.getfield 31, 3) := by decide +kernel
theorem dX2_graze_32 : decode cX2_graze 32 = .ok (.iload_n 2, 1) := by decide +kernel
theorem dX2_graze_33 : decode cX2_graze 33 = .ok (.i2l, 1) := by decide +kernel
theorem dX2_graze_34 : decode cX2_graze 34 = .ok (.ladd, 1) := by decide +kernel
theorem dX2_graze_35 : decode cX2_graze 35 = .ok (.putfield 31, 3) := by decide +kernel
theorem dX2_graze_38 : decode cX2_graze 38 = .ok (.aload_n 0, 1) := by decide +kernel
theorem dX2_graze_39 : decode cX2_graze 39 = .ok (.dup, 1) := by decide +kernel
theorem dX2_graze_40 : decode cX2_graze 40 = .ok (.getfield 28, 3) := by decide +kernel
theorem dX2_graze_43 : decode cX2_graze 43 = .ok (.iload_n 1, 1) := by decide +kernel
theorem dX2_graze_44 : decode cX2_graze 44 = .ok (.iload_n 2, 1) := by decide +kernel
theorem dX2_graze_45 : decode cX2_graze 45 = .ok (.isub, 1) := by decide +kernel
theorem dX2_graze_46 : decode cX2_graze 46 = .ok (.iadd, 1) := by decide +kernel
theorem dX2_graze_47 : decode cX2_graze 47 = .ok (.putfield 28, 3) := by decide +kernel
theorem dX2_graze_50 : decode cX2_graze 50 = .ok (.return_, 1) := by decide +kernel
theorem dX2_gainOn_0 : decode cX2_gainOn 0 = .ok (.aload_n 0, 1) := by decide +kernel
theorem dX2_gainOn_1 : decode cX2_gainOn 1 = .ok (.getfield 18, 3) := by decide +kernel
theorem dX2_gainOn_4 : decode cX2_gainOn 4 = .ok (.iload_n 1, 1) := by decide +kernel
theorem dX2_gainOn_5 : decode cX2_gainOn 5 = .ok (.iaload, 1) := by decide +kernel
theorem dX2_gainOn_6 : decode cX2_gainOn 6 = .ok (.iload_n 2, 1) := by decide +kernel
theorem dX2_gainOn_7 : decode cX2_gainOn 7 = .ok (.iconst 3, 1) := by decide +kernel
theorem dX2_gainOn_8 : decode cX2_gainOn 8 = .ok (.iload_n 1, 1) := by decide +kernel
theorem dX2_gainOn_9 : decode cX2_gainOn 9 = .ok (.imul, 1) := by decide +kernel
theorem dX2_gainOn_10 : decode cX2_gainOn 10 = .ok (.isub, 1) := by decide +kernel
theorem dX2_gainOn_11 : decode cX2_gainOn 11 = .ok (.imul, 1) := by decide +kernel
theorem dX2_gainOn_12 : decode cX2_gainOn 12 = .ok (.ireturn, 1) := by decide +kernel
theorem dX2_grown_0 : decode cX2_grown 0 = .ok (.iload_n 2, 1) := by decide +kernel
theorem dX2_grown_1 : decode cX2_grown 1 = .ok (.ifCond .le 8, 3) := by decide +kernel
theorem dX2_grown_4 : decode cX2_grown 4 = .ok (.iload_n 0, 1) := by decide +kernel
theorem dX2_grown_5 : decode cX2_grown 5 = .ok (.iload_n 1, 1) := by decide +kernel
theorem dX2_grown_6 : decode cX2_grown 6 = .ok (.if_icmp .lt 5, 3) := by decide +kernel
theorem dX2_grown_9 : decode cX2_grown 9 = .ok (.iload_n 0, 1) := by decide +kernel
theorem dX2_grown_10 : decode cX2_grown 10 = .ok (.ireturn, 1) := by decide +kernel
theorem dX2_grown_11 : decode cX2_grown 11 = .ok (.iload_n 0, 1) := by decide +kernel
theorem dX2_grown_12 : decode cX2_grown 12 = .ok (.iload_n 2, 1) := by decide +kernel
theorem dX2_grown_13 : decode cX2_grown 13 = .ok (.iadd, 1) := by decide +kernel
theorem dX2_grown_14 : decode cX2_grown 14 = .ok (.iload_n 1, 1) := by decide +kernel
theorem dX2_grown_15 : decode cX2_grown 15 = .ok (.invokestatic 80, 3) := by decide +kernel
theorem dX2_grown_18 : decode cX2_grown 18 = .ok (.ireturn, 1) := by decide +kernel
end
section
theorem dX3_init_0 : decode cX3_init 0 = .ok (.aload_n 0, 1) := by decide +kernel
theorem dX3_init_1 : decode cX3_init 1 = .ok (.invokespecial 3, 3) := by decide +kernel
theorem dX3_init_4 : decode cX3_init 4 = .ok (.aload_n 0, 1) := by decide +kernel
theorem dX3_init_5 : decode cX3_init 5 = .ok (.bipush 8, 2) := by decide +kernel
theorem dX3_init_7 : decode cX3_init 7 = .ok (.newarray .int, 2) := by decide +kernel
theorem dX3_init_9 : decode cX3_init 9 = .ok (.putfield 9, 3) := by decide +kernel
theorem dX3_init_12 : decode cX3_init 12 = .ok (.aload_n 0, 1) := by decide +kernel
theorem dX3_init_13 : decode cX3_init 13 = .ok (.iconst 0, 1) := by decide +kernel
theorem dX3_init_14 : decode cX3_init 14 = .ok (.putfield 15, 3) := by decide +kernel
theorem dX3_init_17 : decode cX3_init 17 = .ok (.aload_n 0, 1) := by decide +kernel
theorem dX3_init_18 : decode cX3_init 18 = .ok (.bipush 8, 2) := by decide +kernel
theorem dX3_init_20 : decode cX3_init 20 = .ok (.newarray .int, 2) := by decide +kernel
theorem dX3_init_22 : decode cX3_init 22 = .ok (.putfield 19, 3) := by decide +kernel
theorem dX3_init_25 : decode cX3_init 25 = .ok (.aload_n 0, 1) := by decide +kernel
theorem dX3_init_26 : decode cX3_init 26 = .ok (.bipush 54, 2) := by decide +kernel
theorem dX3_init_28 : decode cX3_init 28 = .ok (.newarray .int, 2) := by decide +kernel
theorem dX3_init_30 : decode cX3_init 30 = .ok (.putfield 22, 3) := by decide +kernel
theorem dX3_init_33 : decode cX3_init 33 = .ok (.aload_n 0, 1) := by decide +kernel
theorem dX3_init_34 : decode cX3_init 34 = .ok (.bipush 6, 2) := by decide +kernel
theorem dX3_init_36 : decode cX3_init 36 = .ok (.newarray .int, 2) := by decide +kernel
theorem dX3_init_38 : decode cX3_init 38 = .ok (.putfield 25, 3) := by decide +kernel
theorem dX3_init_41 : decode cX3_init 41 = .ok (.aload_n 0, 1) := by decide +kernel
theorem dX3_init_42 : decode cX3_init 42 = .ok (.bipush 6, 2) := by decide +kernel
theorem dX3_init_44 : decode cX3_init 44 = .ok (.newarray .int, 2) := by decide +kernel
theorem dX3_init_46 : decode cX3_init 46 = .ok (.putfield 28, 3) := by decide +kernel
theorem dX3_init_49 : decode cX3_init 49 = .ok (.aload_n 0, 1) := by decide +kernel
theorem dX3_init_50 : decode cX3_init 50 = .ok (.iconst 0, 1) := by decide +kernel
theorem dX3_init_51 : decode cX3_init 51 = .ok (.putfield 31, 3) := by decide +kernel
theorem dX3_init_54 : decode cX3_init 54 = .ok (.aload_n 0, 1) := by decide +kernel
theorem dX3_init_55 : decode cX3_init 55 = .ok (.iconst 0, 1) := by decide +kernel
theorem dX3_init_56 : decode cX3_init 56 = .ok (.putfield 34, 3) := by decide +kernel
theorem dX3_init_59 : decode cX3_init 59 = .ok (.aload_n 0, 1) := by decide +kernel
theorem dX3_init_60 : decode cX3_init 60 = .ok (.iconst 0, 1) := by decide +kernel
theorem dX3_init_61 : decode cX3_init 61 = .ok (.putfield 37, 3) := by decide +kernel
theorem dX3_init_64 : decode cX3_init 64 = .ok (.aload_n 0, 1) := by decide +kernel
theorem dX3_init_65 : decode cX3_init 65 = .ok (.iconst 0, 1) := by decide +kernel
theorem dX3_init_66 : decode cX3_init 66 = .ok (.putfield 40, 3) := by decide +kernel
theorem dX3_init_69 : decode cX3_init 69 = .ok (.return_, 1) := by decide +kernel
theorem dX3_findBest_0 : decode cX3_findBest 0 = .ok (.aload_n 0, 1) := by decide +kernel
theorem dX3_findBest_1 : decode cX3_findBest 1 = .ok (.aload_n 1, 1) := by decide +kernel
theorem dX3_findBest_2 : decode cX3_findBest 2 = .ok (.getfield 43, 3) := by decide +kernel
theorem dX3_findBest_5 : decode cX3_findBest 5 = .ok (.putfield 31, 3) := by decide +kernel
theorem dX3_findBest_8 : decode cX3_findBest 8 = .ok (.iconst 0, 1) := by decide +kernel
theorem dX3_findBest_9 : decode cX3_findBest 9 = .ok (.istore 5, 2) := by decide +kernel
theorem dX3_findBest_11 : decode cX3_findBest 11 = .ok (.iload 5, 2) := by decide +kernel
theorem dX3_findBest_13 : decode cX3_findBest 13 = .ok (.aload_n 0, 1) := by decide +kernel
theorem dX3_findBest_14 : decode cX3_findBest 14 = .ok (.getfield 31, 3) := by decide +kernel
theorem dX3_findBest_17 : decode cX3_findBest 17 = .ok (.if_icmp .ge 52, 3) := by decide +kernel
theorem dX3_findBest_20 : decode cX3_findBest 20 = .ok (.aload_n 0, 1) := by decide +kernel
theorem dX3_findBest_21 : decode cX3_findBest 21 = .ok (.getfield 22, 3) := by decide +kernel
theorem dX3_findBest_24 : decode cX3_findBest 24 = .ok (.iload 5, 2) := by decide +kernel
theorem dX3_findBest_26 : decode cX3_findBest 26 = .ok (.aload_n 1, 1) := by decide +kernel
theorem dX3_findBest_27 : decode cX3_findBest 27 = .ok (.getfield 46, 3) := by decide +kernel
theorem dX3_findBest_30 : decode cX3_findBest 30 = .ok (.iload 5, 2) := by decide +kernel
theorem dX3_findBest_32 : decode cX3_findBest 32 = .ok (.iaload, 1) := by decide +kernel
theorem dX3_findBest_33 : decode cX3_findBest 33 = .ok (.iastore, 1) := by decide +kernel
theorem dX3_findBest_34 : decode cX3_findBest 34 = .ok (.aload_n 0, 1) := by decide +kernel
theorem dX3_findBest_35 : decode cX3_findBest 35 = .ok (.getfield 25, 3) := by decide +kernel
theorem dX3_findBest_38 : decode cX3_findBest 38 = .ok (.iload 5, 2) := by decide +kernel
theorem dX3_findBest_40 : decode cX3_findBest 40 = .ok (.aload_n 1, 1) := by decide +kernel
theorem dX3_findBest_41 : decode cX3_findBest 41 = .ok (.getfield 49, 3) := by decide +kernel
theorem dX3_findBest_44 : decode cX3_findBest 44 = .ok (.iload 5, 2) := by decide +kernel
theorem dX3_findBest_46 : decode cX3_findBest 46 = .ok (.iaload, 1) := by decide +kernel
theorem dX3_findBest_47 : decode cX3_findBest 47 = .ok (.iastore, 1) := by decide +kernel
theorem dX3_findBest_48 : decode cX3_findBest 48 = .ok (.aload_n 0, 1) := by decide +kernel
theorem dX3_findBest_49 : decode cX3_findBest 49 = .ok (.getfield 28, 3) := by decide +kernel
theorem dX3_findBest_52 : decode cX3_findBest 52 = .ok (.iload 5, 2) := by decide +kernel
theorem dX3_findBest_54 : decode cX3_findBest 54 = .ok (.aload_n 1, 1) := by decide +kernel
theorem dX3_findBest_55 : decode cX3_findBest 55 = .ok (.iload 5, 2) := by decide +kernel
theorem dX3_findBest_57 : decode cX3_findBest 57 = .ok (.iload 4, 2) := by decide +kernel
theorem dX3_findBest_59 : decode cX3_findBest 59 = .ok (.invokevirtual 50, 3) := by decide +kernel
theorem dX3_findBest_62 : decode cX3_findBest 62 = .ok (.iastore, 1) := by decide +kernel
theorem dX3_findBest_63 : decode cX3_findBest 63 = .ok (.iinc 5 1, 3) := by decide +kernel
theorem dX3_findBest_66 : decode cX3_findBest 66 = .ok (.goto (-55), 3) := by decide +kernel
theorem dX3_findBest_69 : decode cX3_findBest 69 = .ok (.aload_n 0, 1) := by decide +kernel
theorem dX3_findBest_70 : decode cX3_findBest 70 = .ok (.iload_n 3, 1) := by decide +kernel
theorem dX3_findBest_71 : decode cX3_findBest 71 = .ok (.putfield 15, 3) := by decide +kernel
theorem dX3_findBest_74 : decode cX3_findBest 74 = .ok (.aload_n 0, 1) := by decide +kernel
theorem dX3_findBest_75 : decode cX3_findBest 75 = .ok (.bipush 10, 2) := by decide +kernel
theorem dX3_findBest_77 : decode cX3_findBest 77 = .ok (.iload_n 2, 1) := by decide +kernel
theorem dX3_findBest_78 : decode cX3_findBest 78 = .ok (.imul, 1) := by decide +kernel
theorem dX3_findBest_79 : decode cX3_findBest 79 = .ok (.putfield 34, 3) := by decide +kernel
theorem dX3_findBest_82 : decode cX3_findBest 82 = .ok (.aload_n 0, 1) := by decide +kernel
theorem dX3_findBest_83 : decode cX3_findBest 83 = .ok (.ldc 56, 2) := by decide +kernel
theorem dX3_findBest_85 : decode cX3_findBest 85 = .ok (.putfield 37, 3) := by decide +kernel
theorem dX3_findBest_88 : decode cX3_findBest 88 = .ok (.aload_n 0, 1) := by decide +kernel
theorem dX3_findBest_89 : decode cX3_findBest 89 = .ok (.iconst 0, 1) := by decide +kernel
theorem dX3_findBest_90 : decode cX3_findBest 90 = .ok (.putfield 40, 3) := by decide +kernel
theorem dX3_findBest_93 : decode cX3_findBest 93 = .ok (.aload_n 0, 1) := by decide +kernel
theorem dX3_findBest_94 : decode cX3_findBest 94 = .ok (.iconst 0, 1) := by decide +kernel
theorem dX3_findBest_95 : decode cX3_findBest 95 = .ok (.aload_n 1, 1) := by decide +kernel
theorem dX3_findBest_96 : decode cX3_findBest 96 = .ok (.getfield 57, 3) := by decide +kernel
theorem dX3_findBest_99 : decode cX3_findBest 99 = .ok (.iconst 0, 1) := by decide +kernel
theorem dX3_findBest_100 : decode cX3_findBest 100 = .ok (.invokestatic 60, 3) := by decide +kernel
theorem dX3_findBest_103 : decode cX3_findBest 103 = .ok (.aload_n 0, 1) := by decide +kernel
theorem dX3_findBest_104 : decode cX3_findBest 104 = .ok (.getfield 37, 3) := by decide +kernel
theorem dX3_findBest_107 : decode cX3_findBest 107 = .ok (.ireturn, 1) := by decide +kernel
theorem dX3_explore_0 : decode cX3_explore 0 = .ok (.iload_n 3, 1) := by decide +kernel
theorem dX3_explore_1 : decode cX3_explore 1 = .ok (.aload_n 0, 1) := by decide +kernel
theorem dX3_explore_2 : decode cX3_explore 2 = .ok (.getfield 37, 3) := by decide +kernel
theorem dX3_explore_5 : decode cX3_explore 5 = .ok (.if_icmp .le 4, 3) := by decide +kernel
theorem dX3_explore_8 : decode cX3_explore 8 = .ok (.return_, 1) := by decide +kernel
theorem dX3_explore_9 : decode cX3_explore 9 = .ok (.iload_n 1, 1) := by decide +kernel
theorem dX3_explore_10 : decode cX3_explore 10 = .ok (.aload_n 0, 1) := by decide +kernel
theorem dX3_explore_11 : decode cX3_explore 11 = .ok (.getfield 15, 3) := by decide +kernel
theorem dX3_explore_14 : decode cX3_explore 14 = .ok (.if_icmp .lt 9, 3) := by decide +kernel
theorem dX3_explore_17 : decode cX3_explore 17 = .ok (.aload_n 0, 1) := by decide +kernel
theorem dX3_explore_18 : decode cX3_explore 18 = .ok (.iload_n 3, 1) := by decide +kernel
theorem dX3_explore_19 : decode cX3_explore 19 = .ok (.invokevirtual 64, 3) := by decide +kernel
theorem dX3_explore_22 : decode cX3_explore 22 = .ok (.return_, 1) := by decide +kernel
theorem dX3_explore_23 : decode cX3_explore 23 = .ok (.aload_n 0, 1) := by decide +kernel
theorem dX3_explore_24 : decode cX3_explore 24 = .ok (.getfield 31, 3) := by decide +kernel
theorem dX3_explore_27 : decode cX3_explore 27 = .ok (.iconst 1, 1) := by decide +kernel
theorem dX3_explore_28 : decode cX3_explore 28 = .ok (.isub, 1) := by decide +kernel
theorem dX3_explore_29 : decode cX3_explore 29 = .ok (.iload_n 2, 1) := by decide +kernel
theorem dX3_explore_30 : decode cX3_explore 30 = .ok (.iconst 1, 1) := by decide +kernel
theorem dX3_explore_31 : decode cX3_explore 31 = .ok (.iadd, 1) := by decide +kernel
theorem dX3_explore_32 : decode cX3_explore 32 = .ok (.invokestatic 68, 3) := by decide +kernel
theorem dX3_explore_35 : decode cX3_explore 35 = .ok (.istore 4, 2) := by decide +kernel
theorem dX3_explore_37 : decode cX3_explore 37 = .ok (.iconst 0, 1) := by decide +kernel
theorem dX3_explore_38 : decode cX3_explore 38 = .ok (.iload_n 2, 1) := by decide +kernel
theorem dX3_explore_39 : decode cX3_explore 39 = .ok (.iconst 1, 1) := by decide +kernel
theorem dX3_explore_40 : decode cX3_explore 40 = .ok (.isub, 1) := by decide +kernel
theorem dX3_explore_41 : decode cX3_explore 41 = .ok (.invokestatic 73, 3) := by decide +kernel
theorem dX3_explore_44 : decode cX3_explore 44 = .ok (.istore 5, 2) := by decide +kernel
theorem dX3_explore_46 : decode cX3_explore 46 = .ok (.iload 5, 2) := by decide +kernel
theorem dX3_explore_48 : decode cX3_explore 48 = .ok (.iload 4, 2) := by decide +kernel
theorem dX3_explore_50 : decode cX3_explore 50 = .ok (.if_icmp .gt 39, 3) := by decide +kernel
theorem dX3_explore_53 : decode cX3_explore 53 = .ok (.aload_n 0, 1) := by decide +kernel
theorem dX3_explore_54 : decode cX3_explore 54 = .ok (.getfield 19, 3) := by decide +kernel
theorem dX3_explore_57 : decode cX3_explore 57 = .ok (.iload_n 1, 1) := by decide +kernel
theorem dX3_explore_58 : decode cX3_explore 58 = .ok (.iload 5, 2) := by decide +kernel
theorem dX3_explore_60 : decode cX3_explore 60 = .ok (.iastore, 1) := by decide +kernel
theorem dX3_explore_61 : decode cX3_explore 61 = .ok (.aload_n 0, 1) := by decide +kernel
theorem dX3_explore_62 : decode cX3_explore 62 = .ok (.iload_n 1, 1) := by decide +kernel
theorem dX3_explore_63 : decode cX3_explore 63 = .ok (.iload 5, 2) := by decide +kernel
theorem dX3_explore_65 : decode cX3_explore 65 = .ok (.invokevirtual 76, 3) := by decide +kernel
theorem dX3_explore_68 : decode cX3_explore 68 = .ok (.istore 6, 2) := by decide +kernel
theorem dX3_explore_70 : decode cX3_explore 70 = .ok (.aload_n 0, 1) := by decide +kernel
theorem dX3_explore_71 : decode cX3_explore 71 = .ok (.iload_n 1, 1) := by decide +kernel
theorem dX3_explore_72 : decode cX3_explore 72 = .ok (.iconst 1, 1) := by decide +kernel
theorem dX3_explore_73 : decode cX3_explore 73 = .ok (.iadd, 1) := by decide +kernel
theorem dX3_explore_74 : decode cX3_explore 74 = .ok (.iload 5, 2) := by decide +kernel
theorem dX3_explore_76 : decode cX3_explore 76 = .ok (.iload_n 3, 1) := by decide +kernel
theorem dX3_explore_77 : decode cX3_explore 77 = .ok (.iload 6, 2) := by decide +kernel
theorem dX3_explore_79 : decode cX3_explore 79 = .ok (.iadd, 1) := by decide +kernel
theorem dX3_explore_80 : decode cX3_explore 80 = .ok (.invokestatic 60, 3) := by decide +kernel
theorem dX3_explore_83 : decode cX3_explore 83 = .ok (.iinc 5 1, 3) := by decide +kernel
theorem dX3_explore_86 : decode cX3_explore 86 = .ok (.goto (-40), 3) := by decide +kernel
theorem dX3_explore_89 : decode cX3_explore 89 = .ok (.return_, 1) := by decide +kernel
theorem dX3_passDay_0 : decode cX3_passDay 0 = .ok (.iload_n 1, 1) := by decide +kernel
theorem dX3_passDay_1 : decode cX3_passDay 1 = .ok (.bipush 6, 2) := by decide +kernel
theorem dX3_passDay_3 : decode cX3_passDay 3 = .ok (.imul, 1) := by decide +kernel
theorem dX3_passDay_4 : decode cX3_passDay 4 = .ok (.istore_n 3, 1) := by decide +kernel
theorem dX3_passDay_5 : decode cX3_passDay 5 = .ok (.iload_n 3, 1) := by decide +kernel
theorem dX3_passDay_6 : decode cX3_passDay 6 = .ok (.bipush 6, 2) := by decide +kernel
theorem dX3_passDay_8 : decode cX3_passDay 8 = .ok (.iadd, 1) := by decide +kernel
theorem dX3_passDay_9 : decode cX3_passDay 9 = .ok (.istore 4, 2) := by decide +kernel
theorem dX3_passDay_11 : decode cX3_passDay 11 = .ok (.iconst 0, 1) := by decide +kernel
theorem dX3_passDay_12 : decode cX3_passDay 12 = .ok (.istore 5, 2) := by decide +kernel
theorem dX3_passDay_14 : decode cX3_passDay 14 = .ok (.iload 5, 2) := by decide +kernel
theorem dX3_passDay_16 : decode cX3_passDay 16 = .ok (.aload_n 0, 1) := by decide +kernel
theorem dX3_passDay_17 : decode cX3_passDay 17 = .ok (.getfield 31, 3) := by decide +kernel
theorem dX3_passDay_20 : decode cX3_passDay 20 = .ok (.if_icmp .ge 45, 3) := by decide +kernel
theorem dX3_passDay_23 : decode cX3_passDay 23 = .ok (.aload_n 0, 1) := by decide +kernel
theorem dX3_passDay_24 : decode cX3_passDay 24 = .ok (.getfield 22, 3) := by decide +kernel
theorem dX3_passDay_27 : decode cX3_passDay 27 = .ok (.iload 4, 2) := by decide +kernel
theorem dX3_passDay_29 : decode cX3_passDay 29 = .ok (.iload 5, 2) := by decide +kernel
theorem dX3_passDay_31 : decode cX3_passDay 31 = .ok (.iadd, 1) := by decide +kernel
theorem dX3_passDay_32 : decode cX3_passDay 32 = .ok (.aload_n 0, 1) := by decide +kernel
theorem dX3_passDay_33 : decode cX3_passDay 33 = .ok (.getfield 22, 3) := by decide +kernel
theorem dX3_passDay_36 : decode cX3_passDay 36 = .ok (.iload_n 3, 1) := by decide +kernel
theorem dX3_passDay_37 : decode cX3_passDay 37 = .ok (.iload 5, 2) := by decide +kernel
theorem dX3_passDay_39 : decode cX3_passDay 39 = .ok (.iadd, 1) := by decide +kernel
theorem dX3_passDay_40 : decode cX3_passDay 40 = .ok (.iaload, 1) := by decide +kernel
theorem dX3_passDay_41 : decode cX3_passDay 41 = .ok (.aload_n 0, 1) := by decide +kernel
theorem dX3_passDay_42 : decode cX3_passDay 42 = .ok (.getfield 25, 3) := by decide +kernel
theorem dX3_passDay_45 : decode cX3_passDay 45 = .ok (.iload 5, 2) := by decide +kernel
theorem dX3_passDay_47 : decode cX3_passDay 47 = .ok (.iaload, 1) := by decide +kernel
theorem dX3_passDay_48 : decode cX3_passDay 48 = .ok (.aload_n 0, 1) := by decide +kernel
theorem dX3_passDay_49 : decode cX3_passDay 49 = .ok (.getfield 28, 3) := by decide +kernel
theorem dX3_passDay_52 : decode cX3_passDay 52 = .ok (.iload 5, 2) := by decide +kernel
theorem dX3_passDay_54 : decode cX3_passDay 54 = .ok (.iaload, 1) := by decide +kernel
theorem dX3_passDay_55 : decode cX3_passDay 55 = .ok (.invokestatic 79, 3) := by decide +kernel
theorem dX3_passDay_58 : decode cX3_passDay 58 = .ok (.iastore, 1) := by decide +kernel
theorem dX3_passDay_59 : decode cX3_passDay 59 = .ok (.iinc 5 1, 3) := by decide +kernel
theorem dX3_passDay_62 : decode cX3_passDay 62 = .ok (.goto (-48), 3) := by decide +kernel
theorem dX3_passDay_65 : decode cX3_passDay 65 = .ok (.aload_n 0, 1) := by decide +kernel
theorem dX3_passDay_66 : decode cX3_passDay 66 = .ok (.getfield 34, 3) := by decide +kernel
theorem dX3_passDay_69 : decode cX3_passDay 69 = .ok (.aload_n 0, 1) := by decide +kernel
theorem dX3_passDay_70 : decode cX3_passDay 70 = .ok (.getfield 22, 3) := by decide +kernel
theorem dX3_passDay_73 : decode cX3_passDay 73 = .ok (.iload 4, 2) := by decide +kernel
theorem dX3_passDay_75 : decode cX3_passDay 75 = .ok (.iload_n 2, 1) := by decide +kernel
theorem dX3_passDay_76 : decode cX3_passDay 76 = .ok (.iadd, 1) := by decide +kernel
theorem dX3_passDay_77 : decode cX3_passDay 77 = .ok (.iaload, 1) := by decide +kernel
theorem dX3_passDay_78 : decode cX3_passDay 78 = .ok (.invokestatic 68, 3) := by decide +kernel
theorem dX3_passDay_81 : decode cX3_passDay 81 = .ok (.istore 5, 2) := by decide +kernel
theorem dX3_passDay_83 : decode cX3_passDay 83 = .ok (.aload_n 0, 1) := by decide +kernel
theorem dX3_passDay_84 : decode cX3_passDay 84 = .ok (.getfield 22, 3) := by decide +kernel
theorem dX3_passDay_87 : decode cX3_passDay 87 = .ok (.iload 4, 2) := by decide +kernel
theorem dX3_passDay_89 : decode cX3_passDay 89 = .ok (.iload_n 2, 1) := by decide +kernel
theorem dX3_passDay_90 : decode cX3_passDay 90 = .ok (.iadd, 1) := by decide +kernel
theorem dX3_passDay_91 : decode cX3_passDay 91 = .ok (.dup2, 1) := by decide +kernel
theorem dX3_passDay_92 : decode cX3_passDay 92 = .ok (.iaload, 1) := by decide +kernel
theorem dX3_passDay_93 : decode cX3_passDay 93 = .ok (.iload 5, 2) := by decide +kernel
theorem dX3_passDay_95 : decode cX3_passDay 95 = .ok (.isub, 1) := by decide +kernel
theorem dX3_passDay_96 : decode cX3_passDay 96 = .ok (.iastore, 1) := by decide +kernel
theorem dX3_passDay_97 : decode cX3_passDay 97 = .ok (.aload_n 0, 1) := by decide +kernel
theorem dX3_passDay_98 : decode cX3_passDay 98 = .ok (.getfield 34, 3) := by decide +kernel
theorem dX3_passDay_101 : decode cX3_passDay 101 = .ok (.iload 5, 2) := by decide +kernel
theorem dX3_passDay_103 : decode cX3_passDay 103 = .ok (.isub, 1) := by decide +kernel
theorem dX3_passDay_104 : decode cX3_passDay 104 = .ok (.ireturn, 1) := by decide +kernel
theorem dX3_judge_0 : decode cX3_judge 0 = .ok (.aload_n 0, 1) := by decide +kernel
theorem dX3_judge_1 : decode cX3_judge 1 = .ok (.getfield 15, 3) := by decide +kernel
theorem dX3_judge_4 : decode cX3_judge 4 = .ok (.bipush 6, 2) := by decide +kernel
theorem dX3_judge_6 : decode cX3_judge 6 = .ok (.imul, 1) := by decide +kernel
theorem dX3_judge_7 : decode cX3_judge 7 = .ok (.istore_n 2, 1) := by decide +kernel
theorem dX3_judge_8 : decode cX3_judge 8 = .ok (.iconst 0, 1) := by decide +kernel
theorem dX3_judge_9 : decode cX3_judge 9 = .ok (.istore_n 3, 1) := by decide +kernel
theorem dX3_judge_10 : decode cX3_judge 10 = .ok (.iconst 0, 1) := by decide +kernel
theorem dX3_judge_11 : decode cX3_judge 11 = .ok (.istore 4, 2) := by decide +kernel
theorem dX3_judge_13 : decode cX3_judge 13 = .ok (.iload 4, 2) := by decide +kernel
theorem dX3_judge_15 : decode cX3_judge 15 = .ok (.aload_n 0, 1) := by decide +kernel
theorem dX3_judge_16 : decode cX3_judge 16 = .ok (.getfield 31, 3) := by decide +kernel
theorem dX3_judge_19 : decode cX3_judge 19 = .ok (.if_icmp .ge 21, 3) := by decide +kernel
theorem dX3_judge_22 : decode cX3_judge 22 = .ok (.iload_n 3, 1) := by decide +kernel
theorem dX3_judge_23 : decode cX3_judge 23 = .ok (.aload_n 0, 1) := by decide +kernel
theorem dX3_judge_24 : decode cX3_judge 24 = .ok (.getfield 22, 3) := by decide +kernel
theorem dX3_judge_27 : decode cX3_judge 27 = .ok (.iload_n 2, 1) := by decide +kernel
theorem dX3_judge_28 : decode cX3_judge 28 = .ok (.iload 4, 2) := by decide +kernel
theorem dX3_judge_30 : decode cX3_judge 30 = .ok (.iadd, 1) := by decide +kernel
theorem dX3_judge_31 : decode cX3_judge 31 = .ok (.iaload, 1) := by decide +kernel
theorem dX3_judge_32 : decode cX3_judge 32 = .ok (.iadd, 1) := by decide +kernel
theorem dX3_judge_33 : decode cX3_judge 33 = .ok (.istore_n 3, 1) := by decide +kernel
theorem dX3_judge_34 : decode cX3_judge 34 = .ok (.iinc 4 1, 3) := by decide +kernel
theorem dX3_judge_37 : decode cX3_judge 37 = .ok (.goto (-24), 3) := by decide +kernel
theorem dX3_judge_40 : decode cX3_judge 40 = .ok (.iload_n 1, 1) := by decide +kernel
theorem dX3_judge_41 : decode cX3_judge 41 = .ok (.aload_n 0, 1) := by decide +kernel
theorem dX3_judge_42 : decode cX3_judge 42 = .ok (.getfield 37, 3) := by decide +kernel
theorem dX3_judge_45 : decode cX3_judge 45 = .ok (.if_icmp .lt 19, 3) := by decide +kernel
theorem dX3_judge_48 : decode cX3_judge 48 = .ok (.iload_n 1, 1) := by decide +kernel
theorem dX3_judge_49 : decode cX3_judge 49 = .ok (.aload_n 0, 1) := by decide +kernel
theorem dX3_judge_50 : decode cX3_judge 50 = .ok (.getfield 37, 3) := by decide +kernel
theorem dX3_judge_53 : decode cX3_judge 53 = .ok (.if_icmp .ne 38, 3) := by decide +kernel
theorem dX3_judge_56 : decode cX3_judge 56 = .ok (.iload_n 3, 1) := by decide +kernel
theorem dX3_judge_57 : decode cX3_judge 57 = .ok (.aload_n 0, 1) := by decide +kernel
theorem dX3_judge_58 : decode cX3_judge 58 = .ok (.getfield 40, 3) := by decide +kernel
theorem dX3_judge_61 : decode cX3_judge 61 = .ok (.if_icmp .le 30, 3) := by decide +kernel
theorem dX3_judge_64 : decode cX3_judge 64 = .ok (.aload_n 0, 1) := by decide +kernel
theorem dX3_judge_65 : decode cX3_judge 65 = .ok (.iload_n 1, 1) := by decide +kernel
theorem dX3_judge_66 : decode cX3_judge 66 = .ok (.putfield 37, 3) := by decide +kernel
theorem dX3_judge_69 : decode cX3_judge 69 = .ok (.aload_n 0, 1) := by decide +kernel
theorem dX3_judge_70 : decode cX3_judge 70 = .ok (.iload_n 3, 1) := by decide +kernel
theorem dX3_judge_71 : decode cX3_judge 71 = .ok (.putfield 40, 3) := by decide +kernel
theorem dX3_judge_74 : decode cX3_judge 74 = .ok (.aload_n 0, 1) := by decide +kernel
theorem dX3_judge_75 : decode cX3_judge 75 = .ok (.getfield 19, 3) := by decide +kernel
theorem dX3_judge_78 : decode cX3_judge 78 = .ok (.iconst 0, 1) := by decide +kernel
theorem dX3_judge_79 : decode cX3_judge 79 = .ok (.aload_n 0, 1) := by decide +kernel
theorem dX3_judge_80 : decode cX3_judge 80 = .ok (.getfield 9, 3) := by decide +kernel
theorem dX3_judge_83 : decode cX3_judge 83 = .ok (.iconst 0, 1) := by decide +kernel
theorem dX3_judge_84 : decode cX3_judge 84 = .ok (.aload_n 0, 1) := by decide +kernel
theorem dX3_judge_85 : decode cX3_judge 85 = .ok (.getfield 15, 3) := by decide +kernel
theorem dX3_judge_88 : decode cX3_judge 88 = .ok (.invokestatic 83, 3) := by decide +kernel
theorem dX3_judge_91 : decode cX3_judge 91 = .ok (.return_, 1) := by decide +kernel
end
section
theorem dX4_init_0 : decode cX4_init 0 = .ok (.aload_n 0, 1) := by decide +kernel
theorem dX4_init_1 : decode cX4_init 1 = .ok (.invokespecial 3, 3) := by decide +kernel
theorem dX4_init_4 : decode cX4_init 4 = .ok (.aload_n 0, 1) := by decide +kernel
theorem dX4_init_5 : decode cX4_init 5 = .ok (.bipush 80, 2) := by decide +kernel
theorem dX4_init_7 : decode cX4_init 7 = .ok (.newarray .int, 2) := by decide +kernel
theorem dX4_init_9 : decode cX4_init 9 = .ok (.putfield 9, 3) := by decide +kernel
theorem dX4_init_12 : decode cX4_init 12 = .ok (.aload_n 0, 1) := by decide +kernel
theorem dX4_init_13 : decode cX4_init 13 = .ok (.bipush 80, 2) := by decide +kernel
theorem dX4_init_15 : decode cX4_init 15 = .ok (.newarray .boolean, 2) := by decide +kernel
theorem dX4_init_17 : decode cX4_init 17 = .ok (.putfield 15, 3) := by decide +kernel
theorem dX4_init_20 : decode cX4_init 20 = .ok (.aload_n 0, 1) := by decide +kernel
theorem dX4_init_21 : decode cX4_init 21 = .ok (.iconst 0, 1) := by decide +kernel
theorem dX4_init_22 : decode cX4_init 22 = .ok (.putfield 19, 3) := by decide +kernel
theorem dX4_init_25 : decode cX4_init 25 = .ok (.aload_n 0, 1) := by decide +kernel
theorem dX4_init_26 : decode cX4_init 26 = .ok (.bipush 100, 2) := by decide +kernel
theorem dX4_init_28 : decode cX4_init 28 = .ok (.newarray .int, 2) := by decide +kernel
theorem dX4_init_30 : decode cX4_init 30 = .ok (.putfield 23, 3) := by decide +kernel
theorem dX4_init_33 : decode cX4_init 33 = .ok (.aload_n 0, 1) := by decide +kernel
theorem dX4_init_34 : decode cX4_init 34 = .ok (.bipush 100, 2) := by decide +kernel
theorem dX4_init_36 : decode cX4_init 36 = .ok (.newarray .int, 2) := by decide +kernel
theorem dX4_init_38 : decode cX4_init 38 = .ok (.putfield 26, 3) := by decide +kernel
theorem dX4_init_41 : decode cX4_init 41 = .ok (.aload_n 0, 1) := by decide +kernel
theorem dX4_init_42 : decode cX4_init 42 = .ok (.bipush 100, 2) := by decide +kernel
theorem dX4_init_44 : decode cX4_init 44 = .ok (.newarray .int, 2) := by decide +kernel
theorem dX4_init_46 : decode cX4_init 46 = .ok (.putfield 29, 3) := by decide +kernel
theorem dX4_init_49 : decode cX4_init 49 = .ok (.aload_n 0, 1) := by decide +kernel
theorem dX4_init_50 : decode cX4_init 50 = .ok (.bipush 100, 2) := by decide +kernel
theorem dX4_init_52 : decode cX4_init 52 = .ok (.newarray .int, 2) := by decide +kernel
theorem dX4_init_54 : decode cX4_init 54 = .ok (.putfield 32, 3) := by decide +kernel
theorem dX4_init_57 : decode cX4_init 57 = .ok (.aload_n 0, 1) := by decide +kernel
theorem dX4_init_58 : decode cX4_init 58 = .ok (.bipush 100, 2) := by decide +kernel
theorem dX4_init_60 : decode cX4_init 60 = .ok (.newarray .int, 2) := by decide +kernel
theorem dX4_init_62 : decode cX4_init 62 = .ok (.putfield 35, 3) := by decide +kernel
theorem dX4_init_65 : decode cX4_init 65 = .ok (.aload_n 0, 1) := by decide +kernel
theorem dX4_init_66 : decode cX4_init 66 = .ok (.iconst 0, 1) := by decide +kernel
theorem dX4_init_67 : decode cX4_init 67 = .ok (.putfield 38, 3) := by decide +kernel
theorem dX4_init_70 : decode cX4_init 70 = .ok (.return_, 1) := by decide +kernel
theorem dX4_has_0 : decode cX4_has 0 = .ok (.iload_n 1, 1) := by decide +kernel
theorem dX4_has_1 : decode cX4_has 1 = .ok (.iconst 0, 1) := by decide +kernel
theorem dX4_has_2 : decode cX4_has 2 = .ok (.aload_n 0, 1) := by decide +kernel
theorem dX4_has_3 : decode cX4_has 3 = .ok (.getfield 19, 3) := by decide +kernel
theorem dX4_has_6 : decode cX4_has 6 = .ok (.iconst 1, 1) := by decide +kernel
theorem dX4_has_7 : decode cX4_has 7 = .ok (.isub, 1) := by decide +kernel
theorem dX4_has_8 : decode cX4_has 8 = .ok (.invokestatic 41, 3) := by decide +kernel
theorem dX4_has_11 : decode cX4_has 11 = .ok (.ireturn, 1) := by decide +kernel
theorem dX4_isKnowing_0 : decode cX4_isKnowing 0 = .ok (.iload_n 1, 1) := by decide +kernel
theorem dX4_isKnowing_1 : decode cX4_isKnowing 1 = .ok (.iconst 0, 1) := by decide +kernel
theorem dX4_isKnowing_2 : decode cX4_isKnowing 2 = .ok (.aload_n 0, 1) := by decide +kernel
theorem dX4_isKnowing_3 : decode cX4_isKnowing 3 = .ok (.getfield 38, 3) := by decide +kernel
theorem dX4_isKnowing_6 : decode cX4_isKnowing 6 = .ok (.invokestatic 41, 3) := by decide +kernel
theorem dX4_isKnowing_9 : decode cX4_isKnowing 9 = .ok (.ireturn, 1) := by decide +kernel
theorem dX4_add_0 : decode cX4_add 0 = .ok (.aload_n 0, 1) := by decide +kernel
theorem dX4_add_1 : decode cX4_add 1 = .ok (.getfield 9, 3) := by decide +kernel
theorem dX4_add_4 : decode cX4_add 4 = .ok (.aload_n 0, 1) := by decide +kernel
theorem dX4_add_5 : decode cX4_add 5 = .ok (.getfield 19, 3) := by decide +kernel
theorem dX4_add_8 : decode cX4_add 8 = .ok (.iload_n 1, 1) := by decide +kernel
theorem dX4_add_9 : decode cX4_add 9 = .ok (.iastore, 1) := by decide +kernel
theorem dX4_add_10 : decode cX4_add 10 = .ok (.aload_n 0, 1) := by decide +kernel
theorem dX4_add_11 : decode cX4_add 11 = .ok (.dup, 1) := by decide +kernel
theorem dX4_add_12 : decode cX4_add 12 = .ok (.getfield 19, 3) := by decide +kernel
theorem dX4_add_15 : decode cX4_add 15 = .ok (.iconst 1, 1) := by decide +kernel
theorem dX4_add_16 : decode cX4_add 16 = .ok (.iadd, 1) := by decide +kernel
theorem dX4_add_17 : decode cX4_add 17 = .ok (.putfield 19, 3) := by decide +kernel
theorem dX4_add_20 : decode cX4_add 20 = .ok (.aload_n 0, 1) := by decide +kernel
theorem dX4_add_21 : decode cX4_add 21 = .ok (.getfield 19, 3) := by decide +kernel
theorem dX4_add_24 : decode cX4_add 24 = .ok (.iconst 1, 1) := by decide +kernel
theorem dX4_add_25 : decode cX4_add 25 = .ok (.isub, 1) := by decide +kernel
theorem dX4_add_26 : decode cX4_add 26 = .ok (.ireturn, 1) := by decide +kernel
theorem dX4_enter_0 : decode cX4_enter 0 = .ok (.aload_n 0, 1) := by decide +kernel
theorem dX4_enter_1 : decode cX4_enter 1 = .ok (.getfield 38, 3) := by decide +kernel
theorem dX4_enter_4 : decode cX4_enter 4 = .ok (.istore 6, 2) := by decide +kernel
theorem dX4_enter_6 : decode cX4_enter 6 = .ok (.aload_n 0, 1) := by decide +kernel
theorem dX4_enter_7 : decode cX4_enter 7 = .ok (.getfield 23, 3) := by decide +kernel
theorem dX4_enter_10 : decode cX4_enter 10 = .ok (.iload 6, 2) := by decide +kernel
theorem dX4_enter_12 : decode cX4_enter 12 = .ok (.iload_n 1, 1) := by decide +kernel
theorem dX4_enter_13 : decode cX4_enter 13 = .ok (.iastore, 1) := by decide +kernel
theorem dX4_enter_14 : decode cX4_enter 14 = .ok (.aload_n 0, 1) := by decide +kernel
theorem dX4_enter_15 : decode cX4_enter 15 = .ok (.getfield 26, 3) := by decide +kernel
theorem dX4_enter_18 : decode cX4_enter 18 = .ok (.iload 6, 2) := by decide +kernel
theorem dX4_enter_20 : decode cX4_enter 20 = .ok (.iload_n 2, 1) := by decide +kernel
theorem dX4_enter_21 : decode cX4_enter 21 = .ok (.iastore, 1) := by decide +kernel
theorem dX4_enter_22 : decode cX4_enter 22 = .ok (.aload_n 0, 1) := by decide +kernel
theorem dX4_enter_23 : decode cX4_enter 23 = .ok (.getfield 29, 3) := by decide +kernel
theorem dX4_enter_26 : decode cX4_enter 26 = .ok (.iload 6, 2) := by decide +kernel
theorem dX4_enter_28 : decode cX4_enter 28 = .ok (.iload_n 3, 1) := by decide +kernel
theorem dX4_enter_29 : decode cX4_enter 29 = .ok (.iastore, 1) := by decide +kernel
theorem dX4_enter_30 : decode cX4_enter 30 = .ok (.aload_n 0, 1) := by decide +kernel
theorem dX4_enter_31 : decode cX4_enter 31 = .ok (.getfield 32, 3) := by decide +kernel
theorem dX4_enter_34 : decode cX4_enter 34 = .ok (.iload 6, 2) := by decide +kernel
theorem dX4_enter_36 : decode cX4_enter 36 = .ok (.iload 4, 2) := by decide +kernel
theorem dX4_enter_38 : decode cX4_enter 38 = .ok (.iastore, 1) := by decide +kernel
theorem dX4_enter_39 : decode cX4_enter 39 = .ok (.aload_n 0, 1) := by decide +kernel
theorem dX4_enter_40 : decode cX4_enter 40 = .ok (.iload 6, 2) := by decide +kernel
theorem dX4_enter_42 : decode cX4_enter 42 = .ok (.invokevirtual 45, 3) := by decide +kernel
theorem dX4_enter_45 : decode cX4_enter 45 = .ok (.istore 7, 2) := by decide +kernel
theorem dX4_enter_47 : decode cX4_enter 47 = .ok (.aload_n 0, 1) := by decide +kernel
theorem dX4_enter_48 : decode cX4_enter 48 = .ok (.dup, 1) := by decide +kernel
theorem dX4_enter_49 : decode cX4_enter 49 = .ok (.getfield 38, 3) := by decide +kernel
theorem dX4_enter_52 : decode cX4_enter 52 = .ok (.iconst 1, 1) := by decide +kernel
theorem dX4_enter_53 : decode cX4_enter 53 = .ok (.iadd, 1) := by decide +kernel
theorem dX4_enter_54 : decode cX4_enter 54 = .ok (.putfield 38, 3) := by decide +kernel
theorem dX4_enter_57 : decode cX4_enter 57 = .ok (.aload 5, 2) := by decide +kernel
theorem dX4_enter_59 : decode cX4_enter 59 = .ok (.aload_n 0, 1) := by decide +kernel
theorem dX4_enter_60 : decode cX4_enter 60 = .ok (.iload_n 2, 1) := by decide +kernel
theorem dX4_enter_61 : decode cX4_enter 61 = .ok (.aload_n 0, 1) := by decide +kernel
theorem dX4_enter_62 : decode cX4_enter 62 = .ok (.getfield 38, 3) := by decide +kernel
theorem dX4_enter_65 : decode cX4_enter 65 = .ok (.sipush 150, 3) := by decide +kernel
theorem dX4_enter_68 : decode cX4_enter 68 = .ok (.invokevirtual 49, 3) := by decide +kernel
theorem dX4_enter_71 : decode cX4_enter 71 = .ok (.ifCond .ne 11, 3) := by decide +kernel
theorem dX4_enter_74 : decode cX4_enter 74 = .ok (.aload_n 0, 1) := by decide +kernel
theorem dX4_enter_75 : decode cX4_enter 75 = .ok (.iload 7, 2) := by decide +kernel
theorem dX4_enter_77 : decode cX4_enter 77 = .ok (.invokevirtual 55, 3) := by decide +kernel
theorem dX4_enter_80 : decode cX4_enter 80 = .ok (.iconst (-1), 1) := by decide +kernel
theorem dX4_enter_81 : decode cX4_enter 81 = .ok (.ireturn, 1) := by decide +kernel
theorem dX4_enter_82 : decode cX4_enter 82 = .ok (.iload 6, 2) := by decide +kernel
theorem dX4_enter_84 : decode cX4_enter 84 = .ok (.ireturn, 1) := by decide +kernel
theorem dX4_putInOrder_0 : decode cX4_putInOrder 0 = .ok (.aload_n 0, 1) := by decide +kernel
theorem dX4_putInOrder_1 : decode cX4_putInOrder 1 = .ok (.getfield 38, 3) := by decide +kernel
theorem dX4_putInOrder_4 : decode cX4_putInOrder 4 = .ok (.istore_n 2, 1) := by decide +kernel
theorem dX4_putInOrder_5 : decode cX4_putInOrder 5 = .ok (.iload_n 2, 1) := by decide +kernel
theorem dX4_putInOrder_6 : decode cX4_putInOrder 6 = .ok (.ifCond .le 45, 3) := by decide +kernel
theorem dX4_putInOrder_9 : decode cX4_putInOrder 9 = .ok (.aload_n 0, 1) := by decide +kernel
theorem dX4_putInOrder_10 : decode cX4_putInOrder 10 = .ok (.getfield 29, 3) := by decide +kernel
theorem dX4_putInOrder_13 : decode cX4_putInOrder 13 = .ok (.aload_n 0, 1) := by decide +kernel
theorem dX4_putInOrder_14 : decode cX4_putInOrder 14 = .ok (.getfield 35, 3) := by decide +kernel
theorem dX4_putInOrder_17 : decode cX4_putInOrder 17 = .ok (.iload_n 2, 1) := by decide +kernel
theorem dX4_putInOrder_18 : decode cX4_putInOrder 18 = .ok (.iconst 1, 1) := by decide +kernel
theorem dX4_putInOrder_19 : decode cX4_putInOrder 19 = .ok (.isub, 1) := by decide +kernel
theorem dX4_putInOrder_20 : decode cX4_putInOrder 20 = .ok (.iaload, 1) := by decide +kernel
theorem dX4_putInOrder_21 : decode cX4_putInOrder 21 = .ok (.iaload, 1) := by decide +kernel
theorem dX4_putInOrder_22 : decode cX4_putInOrder 22 = .ok (.aload_n 0, 1) := by decide +kernel
theorem dX4_putInOrder_23 : decode cX4_putInOrder 23 = .ok (.getfield 29, 3) := by decide +kernel
theorem dX4_putInOrder_26 : decode cX4_putInOrder 26 = .ok (.iload_n 1, 1) := by decide +kernel
theorem dX4_putInOrder_27 : decode cX4_putInOrder 27 = .ok (.iaload, 1) := by decide +kernel
theorem dX4_putInOrder_28 : decode cX4_putInOrder 28 = .ok (.if_icmp .le 23, 3) := by decide +kernel
theorem dX4_putInOrder_31 : decode cX4_putInOrder 31 = .ok (.aload_n 0, 1) := by decide +kernel
theorem dX4_putInOrder_32 : decode cX4_putInOrder 32 = .ok (.getfield 35, 3) := by decide +kernel
theorem dX4_putInOrder_35 : decode cX4_putInOrder 35 = .ok (.iload_n 2, 1) := by decide +kernel
theorem dX4_putInOrder_36 : decode cX4_putInOrder 36 = .ok (.aload_n 0, 1) := by decide +kernel
theorem dX4_putInOrder_37 : decode cX4_putInOrder 37 = .ok (.getfield 35, 3) := by decide +kernel
theorem dX4_putInOrder_40 : decode cX4_putInOrder 40 = .ok (.iload_n 2, 1) := by decide +kernel
theorem dX4_putInOrder_41 : decode cX4_putInOrder 41 = .ok (.iconst 1, 1) := by decide +kernel
theorem dX4_putInOrder_42 : decode cX4_putInOrder 42 = .ok (.isub, 1) := by decide +kernel
theorem dX4_putInOrder_43 : decode cX4_putInOrder 43 = .ok (.iaload, 1) := by decide +kernel
theorem dX4_putInOrder_44 : decode cX4_putInOrder 44 = .ok (.iastore, 1) := by decide +kernel
theorem dX4_putInOrder_45 : decode cX4_putInOrder 45 = .ok (.iinc 2 (-1), 3) := by decide +kernel
theorem dX4_putInOrder_48 : decode cX4_putInOrder 48 = .ok (.goto (-43), 3) := by decide +kernel
theorem dX4_putInOrder_51 : decode cX4_putInOrder 51 = .ok (.aload_n 0, 1) := by decide +kernel
theorem dX4_putInOrder_52 : decode cX4_putInOrder 52 = .ok (.getfield 35, 3) := by decide +kernel
theorem dX4_putInOrder_55 : decode cX4_putInOrder 55 = .ok (.iload_n 2, 1) := by decide +kernel
theorem dX4_putInOrder_56 : decode cX4_putInOrder 56 = .ok (.iload_n 1, 1) := by decide +kernel
theorem dX4_putInOrder_57 : decode cX4_putInOrder 57 = .ok (.iastore, 1) := by decide +kernel
theorem dX4_putInOrder_58 : decode cX4_putInOrder 58 = .ok (.iload_n 2, 1) := by decide +kernel
theorem dX4_putInOrder_59 : decode cX4_putInOrder 59 = .ok (.ireturn, 1) := by decide +kernel
theorem dX4_takeBack_0 : decode cX4_takeBack 0 = .ok (.aload_n 0, 1) := by decide +kernel
theorem dX4_takeBack_1 : decode cX4_takeBack 1 = .ok (.dup, 1) := by decide +kernel
theorem dX4_takeBack_2 : decode cX4_takeBack 2 = .ok (.getfield 38, 3) := by decide +kernel
theorem dX4_takeBack_5 : decode cX4_takeBack 5 = .ok (.iconst 1, 1) := by decide +kernel
theorem dX4_takeBack_6 : decode cX4_takeBack 6 = .ok (.isub, 1) := by decide +kernel
theorem dX4_takeBack_7 : decode cX4_takeBack 7 = .ok (.putfield 38, 3) := by decide +kernel
theorem dX4_takeBack_10 : decode cX4_takeBack 10 = .ok (.iload_n 1, 1) := by decide +kernel
theorem dX4_takeBack_11 : decode cX4_takeBack 11 = .ok (.istore_n 2, 1) := by decide +kernel
theorem dX4_takeBack_12 : decode cX4_takeBack 12 = .ok (.iload_n 2, 1) := by decide +kernel
theorem dX4_takeBack_13 : decode cX4_takeBack 13 = .ok (.aload_n 0, 1) := by decide +kernel
theorem dX4_takeBack_14 : decode cX4_takeBack 14 = .ok (.getfield 38, 3) := by decide +kernel
theorem dX4_takeBack_17 : decode cX4_takeBack 17 = .ok (.if_icmp .ge 23, 3) := by decide +kernel
theorem dX4_takeBack_20 : decode cX4_takeBack 20 = .ok (.aload_n 0, 1) := by decide +kernel
theorem dX4_takeBack_21 : decode cX4_takeBack 21 = .ok (.getfield 35, 3) := by decide +kernel
theorem dX4_takeBack_24 : decode cX4_takeBack 24 = .ok (.iload_n 2, 1) := by decide +kernel
theorem dX4_takeBack_25 : decode cX4_takeBack 25 = .ok (.aload_n 0, 1) := by decide +kernel
theorem dX4_takeBack_26 : decode cX4_takeBack 26 = .ok (.getfield 35, 3) := by decide +kernel
theorem dX4_takeBack_29 : decode cX4_takeBack 29 = .ok (.iload_n 2, 1) := by decide +kernel
theorem dX4_takeBack_30 : decode cX4_takeBack 30 = .ok (.iconst 1, 1) := by decide +kernel
theorem dX4_takeBack_31 : decode cX4_takeBack 31 = .ok (.iadd, 1) := by decide +kernel
theorem dX4_takeBack_32 : decode cX4_takeBack 32 = .ok (.iaload, 1) := by decide +kernel
theorem dX4_takeBack_33 : decode cX4_takeBack 33 = .ok (.iastore, 1) := by decide +kernel
theorem dX4_takeBack_34 : decode cX4_takeBack 34 = .ok (.iinc 2 1, 3) := by decide +kernel
theorem dX4_takeBack_37 : decode cX4_takeBack 37 = .ok (.goto (-25), 3) := by decide +kernel
theorem dX4_takeBack_40 : decode cX4_takeBack 40 = .ok (.return_, 1) := by decide +kernel
theorem dX4_upOn_0 : decode cX4_upOn 0 = .ok (.iconst 0, 1) := by decide +kernel
theorem dX4_upOn_1 : decode cX4_upOn 1 = .ok (.istore_n 2, 1) := by decide +kernel
theorem dX4_upOn_2 : decode cX4_upOn 2 = .ok (.iconst 0, 1) := by decide +kernel
theorem dX4_upOn_3 : decode cX4_upOn 3 = .ok (.istore_n 3, 1) := by decide +kernel
theorem dX4_upOn_4 : decode cX4_upOn 4 = .ok (.iload_n 3, 1) := by decide +kernel
theorem dX4_upOn_5 : decode cX4_upOn 5 = .ok (.aload_n 0, 1) := by decide +kernel
theorem dX4_upOn_6 : decode cX4_upOn 6 = .ok (.getfield 38, 3) := by decide +kernel
theorem dX4_upOn_9 : decode cX4_upOn 9 = .ok (.if_icmp .ge 61, 3) := by decide +kernel
theorem dX4_upOn_12 : decode cX4_upOn 12 = .ok (.aload_n 0, 1) := by decide +kernel
theorem dX4_upOn_13 : decode cX4_upOn 13 = .ok (.getfield 35, 3) := by decide +kernel
theorem dX4_upOn_16 : decode cX4_upOn 16 = .ok (.iload_n 3, 1) := by decide +kernel
theorem dX4_upOn_17 : decode cX4_upOn 17 = .ok (.iaload, 1) := by decide +kernel
theorem dX4_upOn_18 : decode cX4_upOn 18 = .ok (.istore 4, 2) := by decide +kernel
theorem dX4_upOn_20 : decode cX4_upOn 20 = .ok (.aload_n 0, 1) := by decide +kernel
theorem dX4_upOn_21 : decode cX4_upOn 21 = .ok (.getfield 29, 3) := by decide +kernel
theorem dX4_upOn_24 : decode cX4_upOn 24 = .ok (.iload 4, 2) := by decide +kernel
theorem dX4_upOn_26 : decode cX4_upOn 26 = .ok (.iaload, 1) := by decide +kernel
theorem dX4_upOn_27 : decode cX4_upOn 27 = .ok (.iload_n 1, 1) := by decide +kernel
theorem dX4_upOn_28 : decode cX4_upOn 28 = .ok (.if_icmp .le 6, 3) := by decide +kernel
theorem dX4_upOn_31 : decode cX4_upOn 31 = .ok (.goto 39, 3) := by decide +kernel
theorem dX4_upOn_34 : decode cX4_upOn 34 = .ok (.aload_n 0, 1) := by decide +kernel
theorem dX4_upOn_35 : decode cX4_upOn 35 = .ok (.getfield 23, 3) := by decide +kernel
theorem dX4_upOn_38 : decode cX4_upOn 38 = .ok (.iload 4, 2) := by decide +kernel
theorem dX4_upOn_40 : decode cX4_upOn 40 = .ok (.iaload, 1) := by decide +kernel
theorem dX4_upOn_41 : decode cX4_upOn 41 = .ok (.ifCond .ne 9, 3) := by decide +kernel
theorem dX4_upOn_44 : decode cX4_upOn 44 = .ok (.iinc 2 1, 3) := by decide +kernel
theorem dX4_upOn_47 : decode cX4_upOn 47 = .ok (.goto 17, 3) := by decide +kernel
theorem dX4_upOn_50 : decode cX4_upOn 50 = .ok (.aload_n 0, 1) := by decide +kernel
theorem dX4_upOn_51 : decode cX4_upOn 51 = .ok (.getfield 23, 3) := by decide +kernel
theorem dX4_upOn_54 : decode cX4_upOn 54 = .ok (.iload 4, 2) := by decide +kernel
theorem dX4_upOn_56 : decode cX4_upOn 56 = .ok (.iaload, 1) := by decide +kernel
theorem dX4_upOn_57 : decode cX4_upOn 57 = .ok (.iconst 3, 1) := by decide +kernel
theorem dX4_upOn_58 : decode cX4_upOn 58 = .ok (.if_icmp .eq 6, 3) := by decide +kernel
theorem dX4_upOn_61 : decode cX4_upOn 61 = .ok (.iinc 2 (-1), 3) := by decide +kernel
theorem dX4_upOn_64 : decode cX4_upOn 64 = .ok (.iinc 3 1, 3) := by decide +kernel
theorem dX4_upOn_67 : decode cX4_upOn 67 = .ok (.goto (-63), 3) := by decide +kernel
theorem dX4_upOn_70 : decode cX4_upOn 70 = .ok (.iload_n 2, 1) := by decide +kernel
theorem dX4_upOn_71 : decode cX4_upOn 71 = .ok (.ireturn, 1) := by decide +kernel
theorem dX4_livingOf_0 : decode cX4_livingOf 0 = .ok (.iconst 0, 1) := by decide +kernel
theorem dX4_livingOf_1 : decode cX4_livingOf 1 = .ok (.istore 4, 2) := by decide +kernel
theorem dX4_livingOf_3 : decode cX4_livingOf 3 = .ok (.iconst 0, 1) := by decide +kernel
theorem dX4_livingOf_4 : decode cX4_livingOf 4 = .ok (.istore 5, 2) := by decide +kernel
theorem dX4_livingOf_6 : decode cX4_livingOf 6 = .ok (.iload 5, 2) := by decide +kernel
theorem dX4_livingOf_8 : decode cX4_livingOf 8 = .ok (.aload_n 0, 1) := by decide +kernel
theorem dX4_livingOf_9 : decode cX4_livingOf 9 = .ok (.getfield 19, 3) := by decide +kernel
theorem dX4_livingOf_12 : decode cX4_livingOf 12 = .ok (.if_icmp .ge 40, 3) := by decide +kernel
theorem dX4_livingOf_15 : decode cX4_livingOf 15 = .ok (.aload_n 3, 1) := by decide +kernel
theorem dX4_livingOf_16 : decode cX4_livingOf 16 = .ok (.aload_n 0, 1) := by decide +kernel
theorem dX4_livingOf_17 : decode cX4_livingOf 17 = .ok (.iload 5, 2) := by decide +kernel
theorem dX4_livingOf_19 : decode cX4_livingOf 19 = .ok (.aload_n 0, 1) := by decide +kernel
theorem dX4_livingOf_20 : decode cX4_livingOf 20 = .ok (.getfield 38, 3) := by decide +kernel
theorem dX4_livingOf_23 : decode cX4_livingOf 23 = .ok (.iload_n 2, 1) := by decide +kernel
theorem dX4_livingOf_24 : decode cX4_livingOf 24 = .ok (.invokevirtual 49, 3) := by decide +kernel
theorem dX4_livingOf_27 : decode cX4_livingOf 27 = .ok (.pop, 1) := by decide +kernel
theorem dX4_livingOf_28 : decode cX4_livingOf 28 = .ok (.aload_n 3, 1) := by decide +kernel
theorem dX4_livingOf_29 : decode cX4_livingOf 29 = .ok (.getfield 59, 3) := by decide +kernel
theorem dX4_livingOf_32 : decode cX4_livingOf 32 = .ok (.ifCond .ne 14, 3) := by decide +kernel
theorem dX4_livingOf_35 : decode cX4_livingOf 35 = .ok (.aload_n 3, 1) := by decide +kernel
theorem dX4_livingOf_36 : decode cX4_livingOf 36 = .ok (.getfield 63, 3) := by decide +kernel
theorem dX4_livingOf_39 : decode cX4_livingOf 39 = .ok (.iload_n 1, 1) := by decide +kernel
theorem dX4_livingOf_40 : decode cX4_livingOf 40 = .ok (.if_icmp .ne 6, 3) := by decide +kernel
theorem dX4_livingOf_43 : decode cX4_livingOf 43 = .ok (.iinc 4 1, 3) := by decide +kernel
theorem dX4_livingOf_46 : decode cX4_livingOf 46 = .ok (.iinc 5 1, 3) := by decide +kernel
theorem dX4_livingOf_49 : decode cX4_livingOf 49 = .ok (.goto (-43), 3) := by decide +kernel
theorem dX4_livingOf_52 : decode cX4_livingOf 52 = .ok (.iload 4, 2) := by decide +kernel
theorem dX4_livingOf_54 : decode cX4_livingOf 54 = .ok (.ireturn, 1) := by decide +kernel
theorem dX4_beginYear_0 : decode cX4_beginYear 0 = .ok (.iconst 0, 1) := by decide +kernel
theorem dX4_beginYear_1 : decode cX4_beginYear 1 = .ok (.istore_n 3, 1) := by decide +kernel
theorem dX4_beginYear_2 : decode cX4_beginYear 2 = .ok (.iload_n 3, 1) := by decide +kernel
theorem dX4_beginYear_3 : decode cX4_beginYear 3 = .ok (.aload_n 0, 1) := by decide +kernel
theorem dX4_beginYear_4 : decode cX4_beginYear 4 = .ok (.getfield 19, 3) := by decide +kernel
theorem dX4_beginYear_7 : decode cX4_beginYear 7 = .ok (.if_icmp .ge 41, 3) := by decide +kernel
theorem dX4_beginYear_10 : decode cX4_beginYear 10 = .ok (.aload_n 2, 1) := by decide +kernel
theorem dX4_beginYear_11 : decode cX4_beginYear 11 = .ok (.aload_n 0, 1) := by decide +kernel
theorem dX4_beginYear_12 : decode cX4_beginYear 12 = .ok (.iload_n 3, 1) := by decide +kernel
theorem dX4_beginYear_13 : decode cX4_beginYear 13 = .ok (.aload_n 0, 1) := by decide +kernel
theorem dX4_beginYear_14 : decode cX4_beginYear 14 = .ok (.getfield 38, 3) := by decide +kernel
theorem dX4_beginYear_17 : decode cX4_beginYear 17 = .ok (.iload_n 1, 1) := by decide +kernel
theorem dX4_beginYear_18 : decode cX4_beginYear 18 = .ok (.invokevirtual 49, 3) := by decide +kernel
theorem dX4_beginYear_21 : decode cX4_beginYear 21 = .ok (.pop, 1) := by decide +kernel
theorem dX4_beginYear_22 : decode cX4_beginYear 22 = .ok (.aload_n 0, 1) := by decide +kernel
theorem dX4_beginYear_23 : decode cX4_beginYear 23 = .ok (.getfield 9, 3) := by decide +kernel
theorem dX4_beginYear_26 : decode cX4_beginYear 26 = .ok (.iload_n 3, 1) := by decide +kernel
theorem dX4_beginYear_27 : decode cX4_beginYear 27 = .ok (.aload_n 2, 1) := by decide +kernel
theorem dX4_beginYear_28 : decode cX4_beginYear 28 = .ok (.getfield 63, 3) := by decide +kernel
theorem dX4_beginYear_31 : decode cX4_beginYear 31 = .ok (.iastore, 1) := by decide +kernel
theorem dX4_beginYear_32 : decode cX4_beginYear 32 = .ok (.aload_n 0, 1) := by decide +kernel
theorem dX4_beginYear_33 : decode cX4_beginYear 33 = .ok (.getfield 15, 3) := by decide +kernel
theorem dX4_beginYear_36 : decode cX4_beginYear 36 = .ok (.iload_n 3, 1) := by decide +kernel
theorem dX4_beginYear_37 : decode cX4_beginYear 37 = .ok (.aload_n 2, 1) := by decide +kernel
theorem dX4_beginYear_38 : decode cX4_beginYear 38 = .ok (.getfield 59, 3) := by decide +kernel
theorem dX4_beginYear_41 : decode cX4_beginYear 41 = .ok (.bastore, 1) := by decide +kernel
theorem dX4_beginYear_42 : decode cX4_beginYear 42 = .ok (.iinc 3 1, 3) := by decide +kernel
theorem dX4_beginYear_45 : decode cX4_beginYear 45 = .ok (.goto (-43), 3) := by decide +kernel
theorem dX4_beginYear_48 : decode cX4_beginYear 48 = .ok (.aload_n 0, 1) := by decide +kernel
theorem dX4_beginYear_49 : decode cX4_beginYear 49 = .ok (.iconst 0, 1) := by decide +kernel
theorem dX4_beginYear_50 : decode cX4_beginYear 50 = .ok (.putfield 38, 3) := by decide +kernel
theorem dX4_beginYear_53 : decode cX4_beginYear 53 = .ok (.return_, 1) := by decide +kernel
end
section
theorem dX5_init_0 : decode cX5_init 0 = .ok (.aload_n 0, 1) := by decide +kernel
theorem dX5_init_1 : decode cX5_init 1 = .ok (.invokespecial 3, 3) := by decide +kernel
theorem dX5_init_4 : decode cX5_init 4 = .ok (.aload_n 0, 1) := by decide +kernel
theorem dX5_init_5 : decode cX5_init 5 = .ok (.iconst 4, 1) := by decide +kernel
theorem dX5_init_6 : decode cX5_init 6 = .ok (.newarray .int, 2) := by decide +kernel
theorem dX5_init_8 : decode cX5_init 8 = .ok (.putfield 9, 3) := by decide +kernel
theorem dX5_init_11 : decode cX5_init 11 = .ok (.aload_n 0, 1) := by decide +kernel
theorem dX5_init_12 : decode cX5_init 12 = .ok (.iconst 4, 1) := by decide +kernel
theorem dX5_init_13 : decode cX5_init 13 = .ok (.newarray .int, 2) := by decide +kernel
theorem dX5_init_15 : decode cX5_init 15 = .ok (.putfield 15, 3) := by decide +kernel
theorem dX5_init_18 : decode cX5_init 18 = .ok (.aload_n 0, 1) := by decide +kernel
theorem dX5_init_19 : decode cX5_init 19 = .ok (.getfield 9, 3) := by decide +kernel
theorem dX5_init_22 : decode cX5_init 22 = .ok (.invokestatic 18, 3) := by decide +kernel
theorem dX5_init_25 : decode cX5_init 25 = .ok (.return_, 1) := by decide +kernel
theorem dX5_read_0 : decode cX5_read 0 = .ok (.aload_n 0, 1) := by decide +kernel
theorem dX5_read_1 : decode cX5_read 1 = .ok (.getfield 15, 3) := by decide +kernel
theorem dX5_read_4 : decode cX5_read 4 = .ok (.invokestatic 18, 3) := by decide +kernel
theorem dX5_read_7 : decode cX5_read 7 = .ok (.iconst 0, 1) := by decide +kernel
theorem dX5_read_8 : decode cX5_read 8 = .ok (.istore_n 3, 1) := by decide +kernel
theorem dX5_read_9 : decode cX5_read 9 = .ok (.iload_n 3, 1) := by decide +kernel
theorem dX5_read_10 : decode cX5_read 10 = .ok (.iload_n 2, 1) := by decide +kernel
theorem dX5_read_11 : decode cX5_read 11 = .ok (.if_icmp .ge 136, 3) := by decide +kernel
theorem dX5_read_14 : decode cX5_read 14 = .ok (.aload_n 1, 1) := by decide +kernel
theorem dX5_read_15 : decode cX5_read 15 = .ok (.getfield 22, 3) := by decide +kernel
theorem dX5_read_18 : decode cX5_read 18 = .ok (.iload_n 3, 1) := by decide +kernel
theorem dX5_read_19 : decode cX5_read 19 = .ok (.iaload, 1) := by decide +kernel
theorem dX5_read_20 : decode cX5_read 20 = .ok (.invokestatic 27, 3) := by decide +kernel
theorem dX5_read_23 : decode cX5_read 23 = .ok (.istore 4, 2) := by decide +kernel
theorem dX5_read_25 : decode cX5_read 25 = .ok (.iload 4, 2) := by decide +kernel
theorem dX5_read_27 : decode cX5_read 27 = .ok (.iconst (-1), 1) := by decide +kernel
theorem dX5_read_28 : decode cX5_read 28 = .ok (.if_icmp .ne 9, 3) := by decide +kernel
theorem dX5_read_31 : decode cX5_read 31 = .ok (.iconst 1, 1) := by decide +kernel
theorem dX5_read_32 : decode cX5_read 32 = .ok (.iload_n 3, 1) := by decide +kernel
theorem dX5_read_33 : decode cX5_read 33 = .ok (.invokestatic 31, 3) := by decide +kernel
theorem dX5_read_36 : decode cX5_read 36 = .ok (.ireturn, 1) := by decide +kernel
theorem dX5_read_37 : decode cX5_read 37 = .ok (.aload_n 1, 1) := by decide +kernel
theorem dX5_read_38 : decode cX5_read 38 = .ok (.iload_n 2, 1) := by decide +kernel
theorem dX5_read_39 : decode cX5_read 39 = .ok (.iload_n 3, 1) := by decide +kernel
theorem dX5_read_40 : decode cX5_read 40 = .ok (.iconst 1, 1) := by decide +kernel
theorem dX5_read_41 : decode cX5_read 41 = .ok (.iadd, 1) := by decide +kernel
theorem dX5_read_42 : decode cX5_read 42 = .ok (.invokestatic 35, 3) := by decide +kernel
theorem dX5_read_45 : decode cX5_read 45 = .ok (.istore 5, 2) := by decide +kernel
theorem dX5_read_47 : decode cX5_read 47 = .ok (.iload 5, 2) := by decide +kernel
theorem dX5_read_49 : decode cX5_read 49 = .ok (.iload_n 3, 1) := by decide +kernel
theorem dX5_read_50 : decode cX5_read 50 = .ok (.iconst 1, 1) := by decide +kernel
theorem dX5_read_51 : decode cX5_read 51 = .ok (.iadd, 1) := by decide +kernel
theorem dX5_read_52 : decode cX5_read 52 = .ok (.if_icmp .ne 10, 3) := by decide +kernel
theorem dX5_read_55 : decode cX5_read 55 = .ok (.iconst 2, 1) := by decide +kernel
theorem dX5_read_56 : decode cX5_read 56 = .ok (.iload 5, 2) := by decide +kernel
theorem dX5_read_58 : decode cX5_read 58 = .ok (.invokestatic 31, 3) := by decide +kernel
theorem dX5_read_61 : decode cX5_read 61 = .ok (.ireturn, 1) := by decide +kernel
theorem dX5_read_62 : decode cX5_read 62 = .ok (.aload_n 0, 1) := by decide +kernel
theorem dX5_read_63 : decode cX5_read 63 = .ok (.getfield 15, 3) := by decide +kernel
theorem dX5_read_66 : decode cX5_read 66 = .ok (.iload 4, 2) := by decide +kernel
theorem dX5_read_68 : decode cX5_read 68 = .ok (.aload_n 1, 1) := by decide +kernel
theorem dX5_read_69 : decode cX5_read 69 = .ok (.iload_n 3, 1) := by decide +kernel
theorem dX5_read_70 : decode cX5_read 70 = .ok (.iconst 1, 1) := by decide +kernel
theorem dX5_read_71 : decode cX5_read 71 = .ok (.iadd, 1) := by decide +kernel
theorem dX5_read_72 : decode cX5_read 72 = .ok (.iload 5, 2) := by decide +kernel
theorem dX5_read_74 : decode cX5_read 74 = .ok (.invokestatic 39, 3) := by decide +kernel
theorem dX5_read_77 : decode cX5_read 77 = .ok (.iastore, 1) := by decide +kernel
theorem dX5_read_78 : decode cX5_read 78 = .ok (.iload 5, 2) := by decide +kernel
theorem dX5_read_80 : decode cX5_read 80 = .ok (.iload_n 2, 1) := by decide +kernel
theorem dX5_read_81 : decode cX5_read 81 = .ok (.if_icmp .lt 19, 3) := by decide +kernel
theorem dX5_read_84 : decode cX5_read 84 = .ok (.aload_n 0, 1) := by decide +kernel
theorem dX5_read_85 : decode cX5_read 85 = .ok (.getfield 15, 3) := by decide +kernel
theorem dX5_read_88 : decode cX5_read 88 = .ok (.iconst 0, 1) := by decide +kernel
theorem dX5_read_89 : decode cX5_read 89 = .ok (.aload_n 0, 1) := by decide +kernel
theorem dX5_read_90 : decode cX5_read 90 = .ok (.getfield 9, 3) := by decide +kernel
theorem dX5_read_93 : decode cX5_read 93 = .ok (.iconst 0, 1) := by decide +kernel
theorem dX5_read_94 : decode cX5_read 94 = .ok (.iconst 4, 1) := by decide +kernel
theorem dX5_read_95 : decode cX5_read 95 = .ok (.invokestatic 42, 3) := by decide +kernel
theorem dX5_read_98 : decode cX5_read 98 = .ok (.iconst 0, 1) := by decide +kernel
theorem dX5_read_99 : decode cX5_read 99 = .ok (.ireturn, 1) := by decide +kernel
theorem dX5_read_100 : decode cX5_read 100 = .ok (.aload_n 1, 1) := by decide +kernel
theorem dX5_read_101 : decode cX5_read 101 = .ok (.getfield 22, 3) := by decide +kernel
theorem dX5_read_104 : decode cX5_read 104 = .ok (.iload 5, 2) := by decide +kernel
theorem dX5_read_106 : decode cX5_read 106 = .ok (.iaload, 1) := by decide +kernel
theorem dX5_read_107 : decode cX5_read 107 = .ok (.invokestatic 48, 3) := by decide +kernel
theorem dX5_read_110 : decode cX5_read 110 = .ok (.ifCond .eq 10, 3) := by decide +kernel
theorem dX5_read_113 : decode cX5_read 113 = .ok (.iconst 3, 1) := by decide +kernel
theorem dX5_read_114 : decode cX5_read 114 = .ok (.iload 5, 2) := by decide +kernel
theorem dX5_read_116 : decode cX5_read 116 = .ok (.invokestatic 31, 3) := by decide +kernel
theorem dX5_read_119 : decode cX5_read 119 = .ok (.ireturn, 1) := by decide +kernel
theorem dX5_read_120 : decode cX5_read 120 = .ok (.aload_n 1, 1) := by decide +kernel
theorem dX5_read_121 : decode cX5_read 121 = .ok (.getfield 22, 3) := by decide +kernel
theorem dX5_read_124 : decode cX5_read 124 = .ok (.iload 5, 2) := by decide +kernel
theorem dX5_read_126 : decode cX5_read 126 = .ok (.iaload, 1) := by decide +kernel
theorem dX5_read_127 : decode cX5_read 127 = .ok (.bipush 59, 2) := by decide +kernel
theorem dX5_read_129 : decode cX5_read 129 = .ok (.if_icmp .eq 10, 3) := by decide +kernel
theorem dX5_read_132 : decode cX5_read 132 = .ok (.iconst 4, 1) := by decide +kernel
theorem dX5_read_133 : decode cX5_read 133 = .ok (.iload 5, 2) := by decide +kernel
theorem dX5_read_135 : decode cX5_read 135 = .ok (.invokestatic 31, 3) := by decide +kernel
theorem dX5_read_138 : decode cX5_read 138 = .ok (.ireturn, 1) := by decide +kernel
theorem dX5_read_139 : decode cX5_read 139 = .ok (.iload 5, 2) := by decide +kernel
theorem dX5_read_141 : decode cX5_read 141 = .ok (.iconst 1, 1) := by decide +kernel
theorem dX5_read_142 : decode cX5_read 142 = .ok (.iadd, 1) := by decide +kernel
theorem dX5_read_143 : decode cX5_read 143 = .ok (.istore_n 3, 1) := by decide +kernel
theorem dX5_read_144 : decode cX5_read 144 = .ok (.goto (-135), 3) := by decide +kernel
theorem dX5_read_147 : decode cX5_read 147 = .ok (.iconst 1, 1) := by decide +kernel
theorem dX5_read_148 : decode cX5_read 148 = .ok (.iload_n 3, 1) := by decide +kernel
theorem dX5_read_149 : decode cX5_read 149 = .ok (.invokestatic 31, 3) := by decide +kernel
theorem dX5_read_152 : decode cX5_read 152 = .ok (.ireturn, 1) := by decide +kernel
theorem dX5_setFirst_0 : decode cX5_setFirst 0 = .ok (.aload_n 0, 1) := by decide +kernel
theorem dX5_setFirst_1 : decode cX5_setFirst 1 = .ok (.iconst 0, 1) := by decide +kernel
theorem dX5_setFirst_2 : decode cX5_setFirst 2 = .ok (.iconst 5, 1) := by decide +kernel
theorem dX5_setFirst_3 : decode cX5_setFirst 3 = .ok (.iastore, 1) := by decide +kernel
theorem dX5_setFirst_4 : decode cX5_setFirst 4 = .ok (.aload_n 0, 1) := by decide +kernel
theorem dX5_setFirst_5 : decode cX5_setFirst 5 = .ok (.iconst 1, 1) := by decide +kernel
theorem dX5_setFirst_6 : decode cX5_setFirst 6 = .ok (.sipush 500, 3) := by decide +kernel
theorem dX5_setFirst_9 : decode cX5_setFirst 9 = .ok (.iastore, 1) := by decide +kernel
theorem dX5_setFirst_10 : decode cX5_setFirst 10 = .ok (.aload_n 0, 1) := by decide +kernel
theorem dX5_setFirst_11 : decode cX5_setFirst 11 = .ok (.iconst 2, 1) := by decide +kernel
theorem dX5_setFirst_12 : decode cX5_setFirst 12 = .ok (.bipush 40, 2) := by decide +kernel
theorem dX5_setFirst_14 : decode cX5_setFirst 14 = .ok (.iastore, 1) := by decide +kernel
theorem dX5_setFirst_15 : decode cX5_setFirst 15 = .ok (.aload_n 0, 1) := by decide +kernel
theorem dX5_setFirst_16 : decode cX5_setFirst 16 = .ok (.iconst 3, 1) := by decide +kernel
theorem dX5_setFirst_17 : decode cX5_setFirst 17 = .ok (.bipush 90, 2) := by decide +kernel
theorem dX5_setFirst_19 : decode cX5_setFirst 19 = .ok (.iastore, 1) := by decide +kernel
theorem dX5_setFirst_20 : decode cX5_setFirst 20 = .ok (.return_, 1) := by decide +kernel
theorem dX5_fault_0 : decode cX5_fault 0 = .ok (.bipush 100, 2) := by decide +kernel
theorem dX5_fault_2 : decode cX5_fault 2 = .ok (.iload_n 0, 1) := by decide +kernel
theorem dX5_fault_3 : decode cX5_fault 3 = .ok (.imul, 1) := by decide +kernel
theorem dX5_fault_4 : decode cX5_fault 4 = .ok (.iload_n 1, 1) := by decide +kernel
theorem dX5_fault_5 : decode cX5_fault 5 = .ok (.iadd, 1) := by decide +kernel
theorem dX5_fault_6 : decode cX5_fault 6 = .ok (.ireturn, 1) := by decide +kernel
theorem dX5_letterOf_0 : decode cX5_letterOf 0 = .ok (.iload_n 0, 1) := by decide +kernel
theorem dX5_letterOf_1 : decode cX5_letterOf 1 = .ok (.lookupswitch 51 #[(108, 43), (109, 45), (118, 49), (119, 47)], 43) := by decide +kernel
theorem dX5_letterOf_44 : decode cX5_letterOf 44 = .ok (.iconst 0, 1) := by decide +kernel
theorem dX5_letterOf_45 : decode cX5_letterOf 45 = .ok (.ireturn, 1) := by decide +kernel
theorem dX5_letterOf_46 : decode cX5_letterOf 46 = .ok (.iconst 1, 1) := by decide +kernel
theorem dX5_letterOf_47 : decode cX5_letterOf 47 = .ok (.ireturn, 1) := by decide +kernel
theorem dX5_letterOf_48 : decode cX5_letterOf 48 = .ok (.iconst 2, 1) := by decide +kernel
theorem dX5_letterOf_49 : decode cX5_letterOf 49 = .ok (.ireturn, 1) := by decide +kernel
theorem dX5_letterOf_50 : decode cX5_letterOf 50 = .ok (.iconst 3, 1) := by decide +kernel
theorem dX5_letterOf_51 : decode cX5_letterOf 51 = .ok (.ireturn, 1) := by decide +kernel
theorem dX5_letterOf_52 : decode cX5_letterOf 52 = .ok (.iconst (-1), 1) := by decide +kernel
theorem dX5_letterOf_53 : decode cX5_letterOf 53 = .ok (.ireturn, 1) := by decide +kernel
theorem dX5_isDigit_0 : decode cX5_isDigit 0 = .ok (.iload_n 0, 1) := by decide +kernel
theorem dX5_isDigit_1 : decode cX5_isDigit 1 = .ok (.bipush 48, 2) := by decide +kernel
theorem dX5_isDigit_3 : decode cX5_isDigit 3 = .ok (.bipush 57, 2) := by decide +kernel
theorem dX5_isDigit_5 : decode cX5_isDigit 5 = .ok (.invokestatic 52, 3) := by decide +kernel
theorem dX5_isDigit_8 : decode cX5_isDigit 8 = .ok (.ireturn, 1) := by decide +kernel
theorem dX5_digitsEnd_0 : decode cX5_digitsEnd 0 = .ok (.iload_n 1, 1) := by decide +kernel
theorem dX5_digitsEnd_1 : decode cX5_digitsEnd 1 = .ok (.iload_n 2, 1) := by decide +kernel
theorem dX5_digitsEnd_2 : decode cX5_digitsEnd 2 = .ok (.iconst 4, 1) := by decide +kernel
theorem dX5_digitsEnd_3 : decode cX5_digitsEnd 3 = .ok (.iadd, 1) := by decide +kernel
theorem dX5_digitsEnd_4 : decode cX5_digitsEnd 4 = .ok (.invokestatic 56, 3) := by decide +kernel
theorem dX5_digitsEnd_7 : decode cX5_digitsEnd 7 = .ok (.istore_n 3, 1) := by decide +kernel
theorem dX5_digitsEnd_8 : decode cX5_digitsEnd 8 = .ok (.iload_n 2, 1) := by decide +kernel
theorem dX5_digitsEnd_9 : decode cX5_digitsEnd 9 = .ok (.istore 4, 2) := by decide +kernel
theorem dX5_digitsEnd_11 : decode cX5_digitsEnd 11 = .ok (.iload 4, 2) := by decide +kernel
theorem dX5_digitsEnd_13 : decode cX5_digitsEnd 13 = .ok (.iload_n 3, 1) := by decide +kernel
theorem dX5_digitsEnd_14 : decode cX5_digitsEnd 14 = .ok (.if_icmp .ge 22, 3) := by decide +kernel
theorem dX5_digitsEnd_17 : decode cX5_digitsEnd 17 = .ok (.aload_n 0, 1) := by decide +kernel
theorem dX5_digitsEnd_18 : decode cX5_digitsEnd 18 = .ok (.getfield 22, 3) := by decide +kernel
theorem dX5_digitsEnd_21 : decode cX5_digitsEnd 21 = .ok (.iload 4, 2) := by decide +kernel
theorem dX5_digitsEnd_23 : decode cX5_digitsEnd 23 = .ok (.iaload, 1) := by decide +kernel
theorem dX5_digitsEnd_24 : decode cX5_digitsEnd 24 = .ok (.invokestatic 48, 3) := by decide +kernel
theorem dX5_digitsEnd_27 : decode cX5_digitsEnd 27 = .ok (.ifCond .eq 9, 3) := by decide +kernel
theorem dX5_digitsEnd_30 : decode cX5_digitsEnd 30 = .ok (.iinc 4 1, 3) := by decide +kernel
theorem dX5_digitsEnd_33 : decode cX5_digitsEnd 33 = .ok (.goto (-22), 3) := by decide +kernel
theorem dX5_digitsEnd_36 : decode cX5_digitsEnd 36 = .ok (.iload 4, 2) := by decide +kernel
theorem dX5_digitsEnd_38 : decode cX5_digitsEnd 38 = .ok (.ireturn, 1) := by decide +kernel
theorem dX5_numberAt_0 : decode cX5_numberAt 0 = .ok (.iconst 0, 1) := by decide +kernel
theorem dX5_numberAt_1 : decode cX5_numberAt 1 = .ok (.istore_n 3, 1) := by decide +kernel
theorem dX5_numberAt_2 : decode cX5_numberAt 2 = .ok (.iload_n 1, 1) := by decide +kernel
theorem dX5_numberAt_3 : decode cX5_numberAt 3 = .ok (.istore 4, 2) := by decide +kernel
theorem dX5_numberAt_5 : decode cX5_numberAt 5 = .ok (.iload 4, 2) := by decide +kernel
theorem dX5_numberAt_7 : decode cX5_numberAt 7 = .ok (.iload_n 2, 1) := by decide +kernel
theorem dX5_numberAt_8 : decode cX5_numberAt 8 = .ok (.if_icmp .ge 25, 3) := by decide +kernel
theorem dX5_numberAt_11 : decode cX5_numberAt 11 = .ok (.bipush 10, 2) := by decide +kernel
theorem dX5_numberAt_13 : decode cX5_numberAt 13 = .ok (.iload_n 3, 1) := by decide +kernel
theorem dX5_numberAt_14 : decode cX5_numberAt 14 = .ok (.imul, 1) := by decide +kernel
theorem dX5_numberAt_15 : decode cX5_numberAt 15 = .ok (.aload_n 0, 1) := by decide +kernel
theorem dX5_numberAt_16 : decode cX5_numberAt 16 = .ok (.getfield 22, 3) := by decide +kernel
theorem dX5_numberAt_19 : decode cX5_numberAt 19 = .ok (.iload 4, 2) := by decide +kernel
theorem dX5_numberAt_21 : decode cX5_numberAt 21 = .ok (.iaload, 1) := by decide +kernel
theorem dX5_numberAt_22 : decode cX5_numberAt 22 = .ok (.iadd, 1) := by decide +kernel
theorem dX5_numberAt_23 : decode cX5_numberAt 23 = .ok (.bipush 48, 2) := by decide +kernel
theorem dX5_numberAt_25 : decode cX5_numberAt 25 = .ok (.isub, 1) := by decide +kernel
theorem dX5_numberAt_26 : decode cX5_numberAt 26 = .ok (.istore_n 3, 1) := by decide +kernel
theorem dX5_numberAt_27 : decode cX5_numberAt 27 = .ok (.iinc 4 1, 3) := by decide +kernel
theorem dX5_numberAt_30 : decode cX5_numberAt 30 = .ok (.goto (-25), 3) := by decide +kernel
theorem dX5_numberAt_33 : decode cX5_numberAt 33 = .ok (.iload_n 3, 1) := by decide +kernel
theorem dX5_numberAt_34 : decode cX5_numberAt 34 = .ok (.ireturn, 1) := by decide +kernel
end
section
theorem dX6_init_0 : decode cX6_init 0 = .ok (.aload_n 0, 1) := by decide +kernel
theorem dX6_init_1 : decode cX6_init 1 = .ok (.invokespecial 3, 3) := by decide +kernel
theorem dX6_init_4 : decode cX6_init 4 = .ok (.aload_n 0, 1) := by decide +kernel
theorem dX6_init_5 : decode cX6_init 5 = .ok (.bipush 40, 2) := by decide +kernel
theorem dX6_init_7 : decode cX6_init 7 = .ok (.newarray .int, 2) := by decide +kernel
theorem dX6_init_9 : decode cX6_init 9 = .ok (.putfield 9, 3) := by decide +kernel
theorem dX6_init_12 : decode cX6_init 12 = .ok (.aload_n 0, 1) := by decide +kernel
theorem dX6_init_13 : decode cX6_init 13 = .ok (.iconst 0, 1) := by decide +kernel
theorem dX6_init_14 : decode cX6_init 14 = .ok (.putfield 15, 3) := by decide +kernel
theorem dX6_init_17 : decode cX6_init 17 = .ok (.return_, 1) := by decide +kernel
theorem dX6_append_0 : decode cX6_append 0 = .ok (.bipush 24, 2) := by decide +kernel
theorem dX6_append_2 : decode cX6_append 2 = .ok (.istore_n 2, 1) := by decide +kernel
theorem dX6_append_3 : decode cX6_append 3 = .ok (.iload_n 2, 1) := by decide +kernel
theorem dX6_append_4 : decode cX6_append 4 = .ok (.ifCond .lt 44, 3) := by decide +kernel
theorem dX6_append_7 : decode cX6_append 7 = .ok (.aload_n 0, 1) := by decide +kernel
theorem dX6_append_8 : decode cX6_append 8 = .ok (.getfield 15, 3) := by decide +kernel
theorem dX6_append_11 : decode cX6_append 11 = .ok (.bipush 40, 2) := by decide +kernel
theorem dX6_append_13 : decode cX6_append 13 = .ok (.if_icmp .ge 35, 3) := by decide +kernel
theorem dX6_append_16 : decode cX6_append 16 = .ok (.aload_n 0, 1) := by decide +kernel
theorem dX6_append_17 : decode cX6_append 17 = .ok (.getfield 9, 3) := by decide +kernel
theorem dX6_append_20 : decode cX6_append 20 = .ok (.aload_n 0, 1) := by decide +kernel
theorem dX6_append_21 : decode cX6_append 21 = .ok (.getfield 15, 3) := by decide +kernel
theorem dX6_append_24 : decode cX6_append 24 = .ok (.iload_n 1, 1) := by decide +kernel
theorem dX6_append_25 : decode cX6_append 25 = .ok (.iload_n 2, 1) := by decide +kernel
theorem dX6_append_26 : decode cX6_append 26 = .ok (.iushr, 1) := by decide +kernel
theorem dX6_append_27 : decode cX6_append 27 = .ok (.sipush 255, 3) := by decide +kernel
theorem dX6_append_30 : decode cX6_append 30 = .ok (.iand, 1) := by decide +kernel
theorem dX6_append_31 : decode cX6_append 31 = .ok (.iastore, 1) := by decide +kernel
theorem dX6_append_32 : decode cX6_append 32 = .ok (.aload_n 0, 1) := by decide +kernel
theorem dX6_append_33 : decode cX6_append 33 = .ok (.dup, 1) := by decide +kernel
theorem dX6_append_34 : decode cX6_append 34 = .ok (.getfield 15, 3) := by decide +kernel
theorem dX6_append_37 : decode cX6_append 37 = .ok (.iconst 1, 1) := by decide +kernel
theorem dX6_append_38 : decode cX6_append 38 = .ok (.iadd, 1) := by decide +kernel
theorem dX6_append_39 : decode cX6_append 39 = .ok (.putfield 15, 3) := by decide +kernel
theorem dX6_append_42 : decode cX6_append 42 = .ok (.iinc 2 (-8), 3) := by decide +kernel
theorem dX6_append_45 : decode cX6_append 45 = .ok (.goto (-42), 3) := by decide +kernel
theorem dX6_append_48 : decode cX6_append 48 = .ok (.return_, 1) := by decide +kernel
end
section
theorem dX7_init_0 : decode cX7_init 0 = .ok (.aload_n 0, 1) := by decide +kernel
theorem dX7_init_1 : decode cX7_init 1 = .ok (.invokespecial 3, 3) := by decide +kernel
theorem dX7_init_4 : decode cX7_init 4 = .ok (.aload_n 0, 1) := by decide +kernel
theorem dX7_init_5 : decode cX7_init 5 = .ok (.iconst 0, 1) := by decide +kernel
theorem dX7_init_6 : decode cX7_init 6 = .ok (.putfield 9, 3) := by decide +kernel
theorem dX7_init_9 : decode cX7_init 9 = .ok (.aload_n 0, 1) := by decide +kernel
theorem dX7_init_10 : decode cX7_init 10 = .ok (.iconst 0, 1) := by decide +kernel
theorem dX7_init_11 : decode cX7_init 11 = .ok (.putfield 15, 3) := by decide +kernel
theorem dX7_init_14 : decode cX7_init 14 = .ok (.aload_n 0, 1) := by decide +kernel
theorem dX7_init_15 : decode cX7_init 15 = .ok (.iconst 0, 1) := by decide +kernel
theorem dX7_init_16 : decode cX7_init 16 = .ok (.putfield 19, 3) := by decide +kernel
theorem dX7_init_19 : decode cX7_init 19 = .ok (.aload_n 0, 1) := by decide +kernel
theorem dX7_init_20 : decode cX7_init 20 = .ok (.iconst 0, 1) := by decide +kernel
theorem dX7_init_21 : decode cX7_init 21 = .ok (.putfield 22, 3) := by decide +kernel
theorem dX7_init_24 : decode cX7_init 24 = .ok (.aload_n 0, 1) := by decide +kernel
theorem dX7_init_25 : decode cX7_init 25 = .ok (.bipush 12, 2) := by decide +kernel
theorem dX7_init_27 : decode cX7_init 27 = .ok (.newarray .int, 2) := by decide +kernel
theorem dX7_init_29 : decode cX7_init 29 = .ok (.putfield 25, 3) := by decide +kernel
theorem dX7_init_32 : decode cX7_init 32 = .ok (.aload_n 0, 1) := by decide +kernel
theorem dX7_init_33 : decode cX7_init 33 = .ok (.iconst 1, 1) := by decide +kernel
theorem dX7_init_34 : decode cX7_init 34 = .ok (.putfield 29, 3) := by decide +kernel
theorem dX7_init_37 : decode cX7_init 37 = .ok (.return_, 1) := by decide +kernel
theorem dX7_replay_0 : decode cX7_replay 0 = .ok (.aload_n 0, 1) := by decide +kernel
theorem dX7_replay_1 : decode cX7_replay 1 = .ok (.aload_n 1, 1) := by decide +kernel
theorem dX7_replay_2 : decode cX7_replay 2 = .ok (.getfield 32, 3) := by decide +kernel
theorem dX7_replay_5 : decode cX7_replay 5 = .ok (.iload_n 2, 1) := by decide +kernel
theorem dX7_replay_6 : decode cX7_replay 6 = .ok (.iaload, 1) := by decide +kernel
theorem dX7_replay_7 : decode cX7_replay 7 = .ok (.aload_n 1, 1) := by decide +kernel
theorem dX7_replay_8 : decode cX7_replay 8 = .ok (.getfield 37, 3) := by decide +kernel
theorem dX7_replay_11 : decode cX7_replay 11 = .ok (.iload_n 2, 1) := by decide +kernel
theorem dX7_replay_12 : decode cX7_replay 12 = .ok (.baload, 1) := by decide +kernel
theorem dX7_replay_13 : decode cX7_replay 13 = .ok (.invokevirtual 41, 3) := by decide +kernel
theorem dX7_replay_16 : decode cX7_replay 16 = .ok (.iconst 0, 1) := by decide +kernel
theorem dX7_replay_17 : decode cX7_replay 17 = .ok (.istore 5, 2) := by decide +kernel
theorem dX7_replay_19 : decode cX7_replay 19 = .ok (.iload 5, 2) := by decide +kernel
theorem dX7_replay_21 : decode cX7_replay 21 = .ok (.aload_n 1, 1) := by decide +kernel
theorem dX7_replay_22 : decode cX7_replay 22 = .ok (.getfield 45, 3) := by decide +kernel
theorem dX7_replay_25 : decode cX7_replay 25 = .ok (.if_icmp .ge 105, 3) := by decide +kernel
theorem dX7_replay_28 : decode cX7_replay 28 = .ok (.aload_n 1, 1) := by decide +kernel
theorem dX7_replay_29 : decode cX7_replay 29 = .ok (.getfield 48, 3) := by decide +kernel
theorem dX7_replay_32 : decode cX7_replay 32 = .ok (.iload 5, 2) := by decide +kernel
theorem dX7_replay_34 : decode cX7_replay 34 = .ok (.iaload, 1) := by decide +kernel
theorem dX7_replay_35 : decode cX7_replay 35 = .ok (.istore 6, 2) := by decide +kernel
theorem dX7_replay_37 : decode cX7_replay 37 = .ok (.aload_n 1, 1) := by decide +kernel
theorem dX7_replay_38 : decode cX7_replay 38 = .ok (.getfield 51, 3) := by decide +kernel
theorem dX7_replay_41 : decode cX7_replay 41 = .ok (.iload 6, 2) := by decide +kernel
theorem dX7_replay_43 : decode cX7_replay 43 = .ok (.iaload, 1) := by decide +kernel
theorem dX7_replay_44 : decode cX7_replay 44 = .ok (.iload 4, 2) := by decide +kernel
theorem dX7_replay_46 : decode cX7_replay 46 = .ok (.if_icmp .le 6, 3) := by decide +kernel
theorem dX7_replay_49 : decode cX7_replay 49 = .ok (.goto 81, 3) := by decide +kernel
theorem dX7_replay_52 : decode cX7_replay 52 = .ok (.iload 6, 2) := by decide +kernel
theorem dX7_replay_54 : decode cX7_replay 54 = .ok (.iload_n 3, 1) := by decide +kernel
theorem dX7_replay_55 : decode cX7_replay 55 = .ok (.if_icmp .ge 69, 3) := by decide +kernel
theorem dX7_replay_58 : decode cX7_replay 58 = .ok (.aload_n 1, 1) := by decide +kernel
theorem dX7_replay_59 : decode cX7_replay 59 = .ok (.getfield 54, 3) := by decide +kernel
theorem dX7_replay_62 : decode cX7_replay 62 = .ok (.iload 6, 2) := by decide +kernel
theorem dX7_replay_64 : decode cX7_replay 64 = .ok (.iaload, 1) := by decide +kernel
theorem dX7_replay_65 : decode cX7_replay 65 = .ok (.iload_n 2, 1) := by decide +kernel
theorem dX7_replay_66 : decode cX7_replay 66 = .ok (.if_icmp .eq 6, 3) := by decide +kernel
theorem dX7_replay_69 : decode cX7_replay 69 = .ok (.goto 55, 3) := by decide +kernel
theorem dX7_replay_72 : decode cX7_replay 72 = .ok (.aload_n 0, 1) := by decide +kernel
theorem dX7_replay_73 : decode cX7_replay 73 = .ok (.aload_n 1, 1) := by decide +kernel
theorem dX7_replay_74 : decode cX7_replay 74 = .ok (.getfield 57, 3) := by decide +kernel
theorem dX7_replay_77 : decode cX7_replay 77 = .ok (.iload 6, 2) := by decide +kernel
theorem dX7_replay_79 : decode cX7_replay 79 = .ok (.iaload, 1) := by decide +kernel
theorem dX7_replay_80 : decode cX7_replay 80 = .ok (.aload_n 1, 1) := by decide +kernel
theorem dX7_replay_81 : decode cX7_replay 81 = .ok (.getfield 60, 3) := by decide +kernel
theorem dX7_replay_84 : decode cX7_replay 84 = .ok (.iload 6, 2) := by decide +kernel
theorem dX7_replay_86 : decode cX7_replay 86 = .ok (.iaload, 1) := by decide +kernel
theorem dX7_replay_87 : decode cX7_replay 87 = .ok (.invokevirtual 63, 3) := by decide +kernel
theorem dX7_replay_90 : decode cX7_replay 90 = .ok (.ifCond .ne 5, 3) := by decide +kernel
theorem dX7_replay_93 : decode cX7_replay 93 = .ok (.iconst 0, 1) := by decide +kernel
theorem dX7_replay_94 : decode cX7_replay 94 = .ok (.ireturn, 1) := by decide +kernel
theorem dX7_replay_95 : decode cX7_replay 95 = .ok (.aload_n 0, 1) := by decide +kernel
theorem dX7_replay_96 : decode cX7_replay 96 = .ok (.aload_n 1, 1) := by decide +kernel
theorem dX7_replay_97 : decode cX7_replay 97 = .ok (.getfield 51, 3) := by decide +kernel
theorem dX7_replay_100 : decode cX7_replay 100 = .ok (.iload 6, 2) := by decide +kernel
theorem dX7_replay_102 : decode cX7_replay 102 = .ok (.iaload, 1) := by decide +kernel
theorem dX7_replay_103 : decode cX7_replay 103 = .ok (.invokevirtual 67, 3) := by decide +kernel
theorem dX7_replay_106 : decode cX7_replay 106 = .ok (.aload_n 0, 1) := by decide +kernel
theorem dX7_replay_107 : decode cX7_replay 107 = .ok (.aload_n 1, 1) := by decide +kernel
theorem dX7_replay_108 : decode cX7_replay 108 = .ok (.getfield 57, 3) := by decide +kernel
theorem dX7_replay_111 : decode cX7_replay 111 = .ok (.iload 6, 2) := by decide +kernel
theorem dX7_replay_113 : decode cX7_replay 113 = .ok (.iaload, 1) := by decide +kernel
theorem dX7_replay_114 : decode cX7_replay 114 = .ok (.aload_n 1, 1) := by decide +kernel
theorem dX7_replay_115 : decode cX7_replay 115 = .ok (.getfield 60, 3) := by decide +kernel
theorem dX7_replay_118 : decode cX7_replay 118 = .ok (.iload 6, 2) := by decide +kernel
theorem dX7_replay_120 : decode cX7_replay 120 = .ok (.iaload, 1) := by decide +kernel
theorem dX7_replay_121 : decode cX7_replay 121 = .ok (.invokevirtual 71, 3) := by decide +kernel
theorem dX7_replay_124 : decode cX7_replay 124 = .ok (.iinc 5 1, 3) := by decide +kernel
theorem dX7_replay_127 : decode cX7_replay 127 = .ok (.goto (-108), 3) := by decide +kernel
theorem dX7_replay_130 : decode cX7_replay 130 = .ok (.aload_n 0, 1) := by decide +kernel
theorem dX7_replay_131 : decode cX7_replay 131 = .ok (.iload 4, 2) := by decide +kernel
theorem dX7_replay_133 : decode cX7_replay 133 = .ok (.iconst 1, 1) := by decide +kernel
theorem dX7_replay_134 : decode cX7_replay 134 = .ok (.iadd, 1) := by decide +kernel
theorem dX7_replay_135 : decode cX7_replay 135 = .ok (.invokevirtual 67, 3) := by decide +kernel
theorem dX7_replay_138 : decode cX7_replay 138 = .ok (.iconst 1, 1) := by decide +kernel
theorem dX7_replay_139 : decode cX7_replay 139 = .ok (.ireturn, 1) := by decide +kernel
theorem dX7_begin_0 : decode cX7_begin 0 = .ok (.aload_n 0, 1) := by decide +kernel
theorem dX7_begin_1 : decode cX7_begin 1 = .ok (.iload_n 1, 1) := by decide +kernel
theorem dX7_begin_2 : decode cX7_begin 2 = .ok (.putfield 9, 3) := by decide +kernel
theorem dX7_begin_5 : decode cX7_begin 5 = .ok (.aload_n 0, 1) := by decide +kernel
theorem dX7_begin_6 : decode cX7_begin 6 = .ok (.iconst 0, 1) := by decide +kernel
theorem dX7_begin_7 : decode cX7_begin 7 = .ok (.putfield 15, 3) := by decide +kernel
theorem dX7_begin_10 : decode cX7_begin 10 = .ok (.aload_n 0, 1) := by decide +kernel
theorem dX7_begin_11 : decode cX7_begin 11 = .ok (.iload_n 2, 1) := by decide +kernel
theorem dX7_begin_12 : decode cX7_begin 12 = .ok (.putfield 19, 3) := by decide +kernel
theorem dX7_begin_15 : decode cX7_begin 15 = .ok (.aload_n 0, 1) := by decide +kernel
theorem dX7_begin_16 : decode cX7_begin 16 = .ok (.iconst 0, 1) := by decide +kernel
theorem dX7_begin_17 : decode cX7_begin 17 = .ok (.putfield 22, 3) := by decide +kernel
theorem dX7_begin_20 : decode cX7_begin 20 = .ok (.aload_n 0, 1) := by decide +kernel
theorem dX7_begin_21 : decode cX7_begin 21 = .ok (.getfield 25, 3) := by decide +kernel
theorem dX7_begin_24 : decode cX7_begin 24 = .ok (.iconst 0, 1) := by decide +kernel
theorem dX7_begin_25 : decode cX7_begin 25 = .ok (.invokestatic 75, 3) := by decide +kernel
theorem dX7_begin_28 : decode cX7_begin 28 = .ok (.aload_n 0, 1) := by decide +kernel
theorem dX7_begin_29 : decode cX7_begin 29 = .ok (.iconst 1, 1) := by decide +kernel
theorem dX7_begin_30 : decode cX7_begin 30 = .ok (.putfield 29, 3) := by decide +kernel
theorem dX7_begin_33 : decode cX7_begin 33 = .ok (.return_, 1) := by decide +kernel
theorem dX7_fits_0 : decode cX7_fits 0 = .ok (.iload_n 1, 1) := by decide +kernel
theorem dX7_fits_1 : decode cX7_fits 1 = .ok (.tableswitch 52 0 2 #[27, 47, 47], 27) := by decide +kernel
theorem dX7_fits_28 : decode cX7_fits 28 = .ok (.aload_n 0, 1) := by decide +kernel
theorem dX7_fits_29 : decode cX7_fits 29 = .ok (.getfield 15, 3) := by decide +kernel
theorem dX7_fits_32 : decode cX7_fits 32 = .ok (.ifCond .ne 14, 3) := by decide +kernel
theorem dX7_fits_35 : decode cX7_fits 35 = .ok (.aload_n 0, 1) := by decide +kernel
theorem dX7_fits_36 : decode cX7_fits 36 = .ok (.getfield 19, 3) := by decide +kernel
theorem dX7_fits_39 : decode cX7_fits 39 = .ok (.ifCond .ne 7, 3) := by decide +kernel
theorem dX7_fits_42 : decode cX7_fits 42 = .ok (.iconst 1, 1) := by decide +kernel
theorem dX7_fits_43 : decode cX7_fits 43 = .ok (.goto 4, 3) := by decide +kernel
theorem dX7_fits_46 : decode cX7_fits 46 = .ok (.iconst 0, 1) := by decide +kernel
theorem dX7_fits_47 : decode cX7_fits 47 = .ok (.ireturn, 1) := by decide +kernel
theorem dX7_fits_48 : decode cX7_fits 48 = .ok (.aload_n 0, 1) := by decide +kernel
theorem dX7_fits_49 : decode cX7_fits 49 = .ok (.getfield 15, 3) := by decide +kernel
theorem dX7_fits_52 : decode cX7_fits 52 = .ok (.ireturn, 1) := by decide +kernel
theorem dX7_fits_53 : decode cX7_fits 53 = .ok (.aload_n 0, 1) := by decide +kernel
theorem dX7_fits_54 : decode cX7_fits 54 = .ok (.getfield 19, 3) := by decide +kernel
theorem dX7_fits_57 : decode cX7_fits 57 = .ok (.ifCond .ne 15, 3) := by decide +kernel
theorem dX7_fits_60 : decode cX7_fits 60 = .ok (.iload_n 2, 1) := by decide +kernel
theorem dX7_fits_61 : decode cX7_fits 61 = .ok (.aload_n 0, 1) := by decide +kernel
theorem dX7_fits_62 : decode cX7_fits 62 = .ok (.getfield 9, 3) := by decide +kernel
theorem dX7_fits_65 : decode cX7_fits 65 = .ok (.if_icmp .eq 7, 3) := by decide +kernel
theorem dX7_fits_68 : decode cX7_fits 68 = .ok (.iconst 1, 1) := by decide +kernel
theorem dX7_fits_69 : decode cX7_fits 69 = .ok (.goto 4, 3) := by decide +kernel
theorem dX7_fits_72 : decode cX7_fits 72 = .ok (.iconst 0, 1) := by decide +kernel
theorem dX7_fits_73 : decode cX7_fits 73 = .ok (.ireturn, 1) := by decide +kernel
theorem dX7_follow_0 : decode cX7_follow 0 = .ok (.iload_n 1, 1) := by decide +kernel
theorem dX7_follow_1 : decode cX7_follow 1 = .ok (.iconst 3, 1) := by decide +kernel
theorem dX7_follow_2 : decode cX7_follow 2 = .ok (.if_icmp .ne 9, 3) := by decide +kernel
theorem dX7_follow_5 : decode cX7_follow 5 = .ok (.aload_n 0, 1) := by decide +kernel
theorem dX7_follow_6 : decode cX7_follow 6 = .ok (.iload_n 2, 1) := by decide +kernel
theorem dX7_follow_7 : decode cX7_follow 7 = .ok (.putfield 9, 3) := by decide +kernel
theorem dX7_follow_10 : decode cX7_follow 10 = .ok (.return_, 1) := by decide +kernel
theorem dX7_follow_11 : decode cX7_follow 11 = .ok (.aload_n 0, 1) := by decide +kernel
theorem dX7_follow_12 : decode cX7_follow 12 = .ok (.iload_n 1, 1) := by decide +kernel
theorem dX7_follow_13 : decode cX7_follow 13 = .ok (.ifCond .ne 7, 3) := by decide +kernel
theorem dX7_follow_16 : decode cX7_follow 16 = .ok (.iconst 1, 1) := by decide +kernel
theorem dX7_follow_17 : decode cX7_follow 17 = .ok (.goto 4, 3) := by decide +kernel
theorem dX7_follow_20 : decode cX7_follow 20 = .ok (.iconst 0, 1) := by decide +kernel
theorem dX7_follow_21 : decode cX7_follow 21 = .ok (.putfield 15, 3) := by decide +kernel
theorem dX7_follow_24 : decode cX7_follow 24 = .ok (.aload_n 0, 1) := by decide +kernel
theorem dX7_follow_25 : decode cX7_follow 25 = .ok (.iload_n 1, 1) := by decide +kernel
theorem dX7_follow_26 : decode cX7_follow 26 = .ok (.iconst 2, 1) := by decide +kernel
theorem dX7_follow_27 : decode cX7_follow 27 = .ok (.if_icmp .ne 7, 3) := by decide +kernel
theorem dX7_follow_30 : decode cX7_follow 30 = .ok (.iconst 1, 1) := by decide +kernel
theorem dX7_follow_31 : decode cX7_follow 31 = .ok (.goto 4, 3) := by decide +kernel
theorem dX7_follow_34 : decode cX7_follow 34 = .ok (.iconst 0, 1) := by decide +kernel
theorem dX7_follow_35 : decode cX7_follow 35 = .ok (.putfield 19, 3) := by decide +kernel
theorem dX7_follow_38 : decode cX7_follow 38 = .ok (.return_, 1) := by decide +kernel
theorem dX7_tallyBefore_0 : decode cX7_tallyBefore 0 = .ok (.iload_n 1, 1) := by decide +kernel
theorem dX7_tallyBefore_1 : decode cX7_tallyBefore 1 = .ok (.aload_n 0, 1) := by decide +kernel
theorem dX7_tallyBefore_2 : decode cX7_tallyBefore 2 = .ok (.getfield 29, 3) := by decide +kernel
theorem dX7_tallyBefore_5 : decode cX7_tallyBefore 5 = .ok (.isub, 1) := by decide +kernel
theorem dX7_tallyBefore_6 : decode cX7_tallyBefore 6 = .ok (.istore_n 2, 1) := by decide +kernel
theorem dX7_tallyBefore_7 : decode cX7_tallyBefore 7 = .ok (.iload_n 2, 1) := by decide +kernel
theorem dX7_tallyBefore_8 : decode cX7_tallyBefore 8 = .ok (.ifCond .gt 4, 3) := by decide +kernel
theorem dX7_tallyBefore_11 : decode cX7_tallyBefore 11 = .ok (.return_, 1) := by decide +kernel
theorem dX7_tallyBefore_12 : decode cX7_tallyBefore 12 = .ok (.aload_n 0, 1) := by decide +kernel
theorem dX7_tallyBefore_13 : decode cX7_tallyBefore 13 = .ok (.getfield 25, 3) := by decide +kernel
theorem dX7_tallyBefore_16 : decode cX7_tallyBefore 16 = .ok (.aload_n 0, 1) := by decide +kernel
theorem dX7_tallyBefore_17 : decode cX7_tallyBefore 17 = .ok (.getfield 9, 3) := by decide +kernel
theorem dX7_tallyBefore_20 : decode cX7_tallyBefore 20 = .ok (.dup2, 1) := by decide +kernel
theorem dX7_tallyBefore_21 : decode cX7_tallyBefore 21 = .ok (.iaload, 1) := by decide +kernel
theorem dX7_tallyBefore_22 : decode cX7_tallyBefore 22 = .ok (.iload_n 2, 1) := by decide +kernel
theorem dX7_tallyBefore_23 : decode cX7_tallyBefore 23 = .ok (.iadd, 1) := by decide +kernel
theorem dX7_tallyBefore_24 : decode cX7_tallyBefore 24 = .ok (.iastore, 1) := by decide +kernel
theorem dX7_tallyBefore_25 : decode cX7_tallyBefore 25 = .ok (.aload_n 0, 1) := by decide +kernel
theorem dX7_tallyBefore_26 : decode cX7_tallyBefore 26 = .ok (.getfield 15, 3) := by decide +kernel
theorem dX7_tallyBefore_29 : decode cX7_tallyBefore 29 = .ok (.ifCond .eq 13, 3) := by decide +kernel
theorem dX7_tallyBefore_32 : decode cX7_tallyBefore 32 = .ok (.aload_n 0, 1) := by decide +kernel
theorem dX7_tallyBefore_33 : decode cX7_tallyBefore 33 = .ok (.dup, 1) := by decide +kernel
theorem dX7_tallyBefore_34 : decode cX7_tallyBefore 34 = .ok (.getfield 22, 3) := by decide +kernel
theorem dX7_tallyBefore_37 : decode cX7_tallyBefore 37 = .ok (.iload_n 2, 1) := by decide +kernel
theorem dX7_tallyBefore_38 : decode cX7_tallyBefore 38 = .ok (.iadd, 1) := by decide +kernel
theorem dX7_tallyBefore_39 : decode cX7_tallyBefore 39 = .ok (.putfield 22, 3) := by decide +kernel
theorem dX7_tallyBefore_42 : decode cX7_tallyBefore 42 = .ok (.aload_n 0, 1) := by decide +kernel
theorem dX7_tallyBefore_43 : decode cX7_tallyBefore 43 = .ok (.iload_n 1, 1) := by decide +kernel
theorem dX7_tallyBefore_44 : decode cX7_tallyBefore 44 = .ok (.putfield 29, 3) := by decide +kernel
theorem dX7_tallyBefore_47 : decode cX7_tallyBefore 47 = .ok (.return_, 1) := by decide +kernel
end
section
theorem dX8_init_0 : decode cX8_init 0 = .ok (.aload_n 0, 1) := by decide +kernel
theorem dX8_init_1 : decode cX8_init 1 = .ok (.invokespecial 1, 3) := by decide +kernel
theorem dX8_init_4 : decode cX8_init 4 = .ok (.aload_n 0, 1) := by decide +kernel
theorem dX8_init_5 : decode cX8_init 5 = .ok (.new 7, 3) := by decide +kernel
theorem dX8_init_8 : decode cX8_init 8 = .ok (.dup, 1) := by decide +kernel
theorem dX8_init_9 : decode cX8_init 9 = .ok (.invokespecial 9, 3) := by decide +kernel
theorem dX8_init_12 : decode cX8_init 12 = .ok (.putfield 10, 3) := by decide +kernel
theorem dX8_init_15 : decode cX8_init 15 = .ok (.aload_n 0, 1) := by decide +kernel
theorem dX8_init_16 : decode cX8_init 16 = .ok (.new 16, 3) := by decide +kernel
theorem dX8_init_19 : decode cX8_init 19 = .ok (.dup, 1) := by decide +kernel
theorem dX8_init_20 : decode cX8_init 20 = .ok (.invokespecial 18, 3) := by decide +kernel
theorem dX8_init_23 : decode cX8_init 23 = .ok (.putfield 19, 3) := by decide +kernel
theorem dX8_init_26 : decode cX8_init 26 = .ok (.aload_n 0, 1) := by decide +kernel
theorem dX8_init_27 : decode cX8_init 27 = .ok (.new 23, 3) := by decide +kernel
theorem dX8_init_30 : decode cX8_init 30 = .ok (.dup, 1) := by decide +kernel
theorem dX8_init_31 : decode cX8_init 31 = .ok (.invokespecial 25, 3) := by decide +kernel
theorem dX8_init_34 : decode cX8_init 34 = .ok (.putfield 26, 3) := by decide +kernel
theorem dX8_init_37 : decode cX8_init 37 = .ok (.aload_n 0, 1) := by decide +kernel
theorem dX8_init_38 : decode cX8_init 38 = .ok (.new 30, 3) := by decide +kernel
theorem dX8_init_41 : decode cX8_init 41 = .ok (.dup, 1) := by decide +kernel
theorem dX8_init_42 : decode cX8_init 42 = .ok (.invokespecial 32, 3) := by decide +kernel
theorem dX8_init_45 : decode cX8_init 45 = .ok (.putfield 33, 3) := by decide +kernel
theorem dX8_init_48 : decode cX8_init 48 = .ok (.aload_n 0, 1) := by decide +kernel
theorem dX8_init_49 : decode cX8_init 49 = .ok (.new 37, 3) := by decide +kernel
theorem dX8_init_52 : decode cX8_init 52 = .ok (.dup, 1) := by decide +kernel
theorem dX8_init_53 : decode cX8_init 53 = .ok (.invokespecial 39, 3) := by decide +kernel
theorem dX8_init_56 : decode cX8_init 56 = .ok (.putfield 40, 3) := by decide +kernel
theorem dX8_init_59 : decode cX8_init 59 = .ok (.aload_n 0, 1) := by decide +kernel
theorem dX8_init_60 : decode cX8_init 60 = .ok (.new 44, 3) := by decide +kernel
theorem dX8_init_63 : decode cX8_init 63 = .ok (.dup, 1) := by decide +kernel
theorem dX8_init_64 : decode cX8_init 64 = .ok (.invokespecial 46, 3) := by decide +kernel
theorem dX8_init_67 : decode cX8_init 67 = .ok (.putfield 47, 3) := by decide +kernel
theorem dX8_init_70 : decode cX8_init 70 = .ok (.aload_n 0, 1) := by decide +kernel
theorem dX8_init_71 : decode cX8_init 71 = .ok (.new 51, 3) := by decide +kernel
theorem dX8_init_74 : decode cX8_init 74 = .ok (.dup, 1) := by decide +kernel
theorem dX8_init_75 : decode cX8_init 75 = .ok (.invokespecial 53, 3) := by decide +kernel
theorem dX8_init_78 : decode cX8_init 78 = .ok (.putfield 54, 3) := by decide +kernel
theorem dX8_init_81 : decode cX8_init 81 = .ok (.aload_n 0, 1) := by decide +kernel
theorem dX8_init_82 : decode cX8_init 82 = .ok (.new 58, 3) := by decide +kernel
theorem dX8_init_85 : decode cX8_init 85 = .ok (.dup, 1) := by decide +kernel
theorem dX8_init_86 : decode cX8_init 86 = .ok (.invokespecial 60, 3) := by decide +kernel
theorem dX8_init_89 : decode cX8_init 89 = .ok (.putfield 61, 3) := by decide +kernel
theorem dX8_init_92 : decode cX8_init 92 = .ok (.aload_n 0, 1) := by decide +kernel
theorem dX8_init_93 : decode cX8_init 93 = .ok (.iconst 1, 1) := by decide +kernel
theorem dX8_init_94 : decode cX8_init 94 = .ok (.putfield 65, 3) := by decide +kernel
theorem dX8_init_97 : decode cX8_init 97 = .ok (.aload_n 0, 1) := by decide +kernel
theorem dX8_init_98 : decode cX8_init 98 = .ok (.iconst 0, 1) := by decide +kernel
theorem dX8_init_99 : decode cX8_init 99 = .ok (.putfield 69, 3) := by decide +kernel
theorem dX8_init_102 : decode cX8_init 102 = .ok (.return_, 1) := by decide +kernel
theorem dX8_feed_0 : decode cX8_feed 0 = .ok (.aload_n 0, 1) := by decide +kernel
theorem dX8_feed_1 : decode cX8_feed 1 = .ok (.getfield 10, 3) := by decide +kernel
theorem dX8_feed_4 : decode cX8_feed 4 = .ok (.getfield 72, 3) := by decide +kernel
theorem dX8_feed_7 : decode cX8_feed 7 = .ok (.bipush 20, 2) := by decide +kernel
theorem dX8_feed_9 : decode cX8_feed 9 = .ok (.iadd, 1) := by decide +kernel
theorem dX8_feed_10 : decode cX8_feed 10 = .ok (.bipush 40, 2) := by decide +kernel
theorem dX8_feed_12 : decode cX8_feed 12 = .ok (.if_icmp .le 5, 3) := by decide +kernel
theorem dX8_feed_15 : decode cX8_feed 15 = .ok (.iconst (-1), 1) := by decide +kernel
theorem dX8_feed_16 : decode cX8_feed 16 = .ok (.ireturn, 1) := by decide +kernel
theorem dX8_feed_17 : decode cX8_feed 17 = .ok (.aload_n 0, 1) := by decide +kernel
theorem dX8_feed_18 : decode cX8_feed 18 = .ok (.getfield 10, 3) := by decide +kernel
theorem dX8_feed_21 : decode cX8_feed 21 = .ok (.iload_n 1, 1) := by decide +kernel
theorem dX8_feed_22 : decode cX8_feed 22 = .ok (.invokevirtual 75, 3) := by decide +kernel
theorem dX8_feed_25 : decode cX8_feed 25 = .ok (.aload_n 0, 1) := by decide +kernel
theorem dX8_feed_26 : decode cX8_feed 26 = .ok (.getfield 10, 3) := by decide +kernel
theorem dX8_feed_29 : decode cX8_feed 29 = .ok (.iload_n 2, 1) := by decide +kernel
theorem dX8_feed_30 : decode cX8_feed 30 = .ok (.invokevirtual 75, 3) := by decide +kernel
theorem dX8_feed_33 : decode cX8_feed 33 = .ok (.aload_n 0, 1) := by decide +kernel
theorem dX8_feed_34 : decode cX8_feed 34 = .ok (.getfield 10, 3) := by decide +kernel
theorem dX8_feed_37 : decode cX8_feed 37 = .ok (.iload_n 3, 1) := by decide +kernel
theorem dX8_feed_38 : decode cX8_feed 38 = .ok (.invokevirtual 75, 3) := by decide +kernel
theorem dX8_feed_41 : decode cX8_feed 41 = .ok (.aload_n 0, 1) := by decide +kernel
theorem dX8_feed_42 : decode cX8_feed 42 = .ok (.getfield 10, 3) := by decide +kernel
theorem dX8_feed_45 : decode cX8_feed 45 = .ok (.iload 4, 2) := by decide +kernel
theorem dX8_feed_47 : decode cX8_feed 47 = .ok (.invokevirtual 75, 3) := by decide +kernel
theorem dX8_feed_50 : decode cX8_feed 50 = .ok (.aload_n 0, 1) := by decide +kernel
theorem dX8_feed_51 : decode cX8_feed 51 = .ok (.getfield 10, 3) := by decide +kernel
theorem dX8_feed_54 : decode cX8_feed 54 = .ok (.iload 5, 2) := by decide +kernel
theorem dX8_feed_56 : decode cX8_feed 56 = .ok (.invokevirtual 75, 3) := by decide +kernel
theorem dX8_feed_59 : decode cX8_feed 59 = .ok (.aload_n 0, 1) := by decide +kernel
theorem dX8_feed_60 : decode cX8_feed 60 = .ok (.getfield 10, 3) := by decide +kernel
theorem dX8_feed_63 : decode cX8_feed 63 = .ok (.getfield 72, 3) := by decide +kernel
theorem dX8_feed_66 : decode cX8_feed 66 = .ok (.ireturn, 1) := by decide +kernel
theorem dX8_rules_0 : decode cX8_rules 0 = .ok (.iload_n 1, 1) := by decide +kernel
theorem dX8_rules_1 : decode cX8_rules 1 = .ok (.iconst 0, 1) := by decide +kernel
theorem dX8_rules_2 : decode cX8_rules 2 = .ok (.aload_n 0, 1) := by decide +kernel
theorem dX8_rules_3 : decode cX8_rules 3 = .ok (.getfield 10, 3) := by decide +kernel
theorem dX8_rules_6 : decode cX8_rules 6 = .ok (.getfield 72, 3) := by decide +kernel
theorem dX8_rules_9 : decode cX8_rules 9 = .ok (.invokestatic 79, 3) := by decide +kernel
theorem dX8_rules_12 : decode cX8_rules 12 = .ok (.ifCond .ne 5, 3) := by decide +kernel
theorem dX8_rules_15 : decode cX8_rules 15 = .ok (.iconst (-1), 1) := by decide +kernel
theorem dX8_rules_16 : decode cX8_rules 16 = .ok (.ireturn, 1) := by decide +kernel
theorem dX8_rules_17 : decode cX8_rules 17 = .ok (.aload_n 0, 1) := by decide +kernel
theorem dX8_rules_18 : decode cX8_rules 18 = .ok (.getfield 19, 3) := by decide +kernel
theorem dX8_rules_21 : decode cX8_rules 21 = .ok (.aload_n 0, 1) := by decide +kernel
theorem dX8_rules_22 : decode cX8_rules 22 = .ok (.getfield 10, 3) := by decide +kernel
theorem dX8_rules_25 : decode cX8_rules 25 = .ok (.iload_n 1, 1) := by decide +kernel
theorem dX8_rules_26 : decode cX8_rules 26 = .ok (.invokevirtual 83, 3) := by decide +kernel
theorem dX8_rules_29 : decode cX8_rules 29 = .ok (.istore_n 2, 1) := by decide +kernel
theorem dX8_rules_30 : decode cX8_rules 30 = .ok (.aload_n 0, 1) := by decide +kernel
theorem dX8_rules_31 : decode cX8_rules 31 = .ok (.getfield 10, 3) := by decide +kernel
theorem dX8_rules_34 : decode cX8_rules 34 = .ok (.iconst 0, 1) := by decide +kernel
theorem dX8_rules_35 : decode cX8_rules 35 = .ok (.putfield 72, 3) := by decide +kernel
theorem dX8_rules_38 : decode cX8_rules 38 = .ok (.iload_n 2, 1) := by decide +kernel
theorem dX8_rules_39 : decode cX8_rules 39 = .ok (.ireturn, 1) := by decide +kernel
theorem dX8_alp_0 : decode cX8_alp 0 = .ok (.aload_n 0, 1) := by decide +kernel
theorem dX8_alp_1 : decode cX8_alp 1 = .ok (.getfield 65, 3) := by decide +kernel
theorem dX8_alp_4 : decode cX8_alp 4 = .ok (.iconst 1, 1) := by decide +kernel
theorem dX8_alp_5 : decode cX8_alp 5 = .ok (.if_icmp .ne 35, 3) := by decide +kernel
theorem dX8_alp_8 : decode cX8_alp 8 = .ok (.aload_n 0, 1) := by decide +kernel
theorem dX8_alp_9 : decode cX8_alp 9 = .ok (.getfield 69, 3) := by decide +kernel
theorem dX8_alp_12 : decode cX8_alp 12 = .ok (.ifCond .ne 28, 3) := by decide +kernel
theorem dX8_alp_15 : decode cX8_alp 15 = .ok (.aload_n 0, 1) := by decide +kernel
theorem dX8_alp_16 : decode cX8_alp 16 = .ok (.getfield 26, 3) := by decide +kernel
theorem dX8_alp_19 : decode cX8_alp 19 = .ok (.getfield 87, 3) := by decide +kernel
theorem dX8_alp_22 : decode cX8_alp 22 = .ok (.iconst (-1), 1) := by decide +kernel
theorem dX8_alp_23 : decode cX8_alp 23 = .ok (.if_icmp .ne 17, 3) := by decide +kernel
theorem dX8_alp_26 : decode cX8_alp 26 = .ok (.aload_n 0, 1) := by decide +kernel
theorem dX8_alp_27 : decode cX8_alp 27 = .ok (.getfield 40, 3) := by decide +kernel
theorem dX8_alp_30 : decode cX8_alp 30 = .ok (.getfield 90, 3) := by decide +kernel
theorem dX8_alp_33 : decode cX8_alp 33 = .ok (.ifCond .ne 7, 3) := by decide +kernel
theorem dX8_alp_36 : decode cX8_alp 36 = .ok (.iconst 1, 1) := by decide +kernel
theorem dX8_alp_37 : decode cX8_alp 37 = .ok (.goto 4, 3) := by decide +kernel
theorem dX8_alp_40 : decode cX8_alp 40 = .ok (.iconst 0, 1) := by decide +kernel
theorem dX8_alp_41 : decode cX8_alp 41 = .ok (.istore_n 2, 1) := by decide +kernel
theorem dX8_alp_42 : decode cX8_alp 42 = .ok (.iload_n 2, 1) := by decide +kernel
theorem dX8_alp_43 : decode cX8_alp 43 = .ok (.ifCond .eq 13, 3) := by decide +kernel
theorem dX8_alp_46 : decode cX8_alp 46 = .ok (.iload_n 1, 1) := by decide +kernel
theorem dX8_alp_47 : decode cX8_alp 47 = .ok (.iconst 1, 1) := by decide +kernel
theorem dX8_alp_48 : decode cX8_alp 48 = .ok (.bipush 6, 2) := by decide +kernel
theorem dX8_alp_50 : decode cX8_alp 50 = .ok (.invokestatic 79, 3) := by decide +kernel
theorem dX8_alp_53 : decode cX8_alp 53 = .ok (.ifCond .ne 5, 3) := by decide +kernel
theorem dX8_alp_56 : decode cX8_alp 56 = .ok (.iconst 0, 1) := by decide +kernel
theorem dX8_alp_57 : decode cX8_alp 57 = .ok (.ireturn, 1) := by decide +kernel
theorem dX8_alp_58 : decode cX8_alp 58 = .ok (.aload_n 0, 1) := by decide +kernel
theorem dX8_alp_59 : decode cX8_alp 59 = .ok (.getfield 26, 3) := by decide +kernel
theorem dX8_alp_62 : decode cX8_alp 62 = .ok (.iload_n 1, 1) := by decide +kernel
theorem dX8_alp_63 : decode cX8_alp 63 = .ok (.invokevirtual 93, 3) := by decide +kernel
theorem dX8_alp_66 : decode cX8_alp 66 = .ok (.iconst 1, 1) := by decide +kernel
theorem dX8_alp_67 : decode cX8_alp 67 = .ok (.ireturn, 1) := by decide +kernel
theorem dX8_height_0 : decode cX8_height 0 = .ok (.aload_n 0, 1) := by decide +kernel
theorem dX8_height_1 : decode cX8_height 1 = .ok (.getfield 26, 3) := by decide +kernel
theorem dX8_height_4 : decode cX8_height 4 = .ok (.iload_n 1, 1) := by decide +kernel
theorem dX8_height_5 : decode cX8_height 5 = .ok (.invokevirtual 96, 3) := by decide +kernel
theorem dX8_height_8 : decode cX8_height 8 = .ok (.ifCond .eq 34, 3) := by decide +kernel
theorem dX8_height_11 : decode cX8_height 11 = .ok (.iload_n 2, 1) := by decide +kernel
theorem dX8_height_12 : decode cX8_height 12 = .ok (.iconst 0, 1) := by decide +kernel
theorem dX8_height_13 : decode cX8_height 13 = .ok (.ldc 100, 2) := by decide +kernel
theorem dX8_height_15 : decode cX8_height 15 = .ok (.invokestatic 79, 3) := by decide +kernel
theorem dX8_height_18 : decode cX8_height 18 = .ok (.ifCond .eq 24, 3) := by decide +kernel
theorem dX8_height_21 : decode cX8_height 21 = .ok (.iload_n 3, 1) := by decide +kernel
theorem dX8_height_22 : decode cX8_height 22 = .ok (.iconst 1, 1) := by decide +kernel
theorem dX8_height_23 : decode cX8_height 23 = .ok (.ldc 100, 2) := by decide +kernel
theorem dX8_height_25 : decode cX8_height 25 = .ok (.invokestatic 79, 3) := by decide +kernel
theorem dX8_height_28 : decode cX8_height 28 = .ok (.ifCond .eq 14, 3) := by decide +kernel
theorem dX8_height_31 : decode cX8_height 31 = .ok (.iload 4, 2) := by decide +kernel
theorem dX8_height_33 : decode cX8_height 33 = .ok (.iconst 0, 1) := by decide +kernel
theorem dX8_height_34 : decode cX8_height 34 = .ok (.bipush 100, 2) := by decide +kernel
theorem dX8_height_36 : decode cX8_height 36 = .ok (.invokestatic 79, 3) := by decide +kernel
theorem dX8_height_39 : decode cX8_height 39 = .ok (.ifCond .ne 5, 3) := by decide +kernel
theorem dX8_height_42 : decode cX8_height 42 = .ok (.iconst 0, 1) := by decide +kernel
theorem dX8_height_43 : decode cX8_height 43 = .ok (.ireturn, 1) := by decide +kernel
theorem dX8_height_44 : decode cX8_height 44 = .ok (.aload_n 0, 1) := by decide +kernel
theorem dX8_height_45 : decode cX8_height 45 = .ok (.getfield 26, 3) := by decide +kernel
theorem dX8_height_48 : decode cX8_height 48 = .ok (.getfield 101, 3) := by decide +kernel
theorem dX8_height_51 : decode cX8_height 51 = .ok (.iload_n 1, 1) := by decide +kernel
theorem dX8_height_52 : decode cX8_height 52 = .ok (.iload_n 2, 1) := by decide +kernel
theorem dX8_height_53 : decode cX8_height 53 = .ok (.iastore, 1) := by decide +kernel
theorem dX8_height_54 : decode cX8_height 54 = .ok (.aload_n 0, 1) := by decide +kernel
theorem dX8_height_55 : decode cX8_height 55 = .ok (.getfield 26, 3) := by decide +kernel
theorem dX8_height_58 : decode cX8_height 58 = .ok (.getfield 105, 3) := by decide +kernel
theorem dX8_height_61 : decode cX8_height 61 = .ok (.iload_n 1, 1) := by decide +kernel
theorem dX8_height_62 : decode cX8_height 62 = .ok (.iload_n 3, 1) := by decide +kernel
theorem dX8_height_63 : decode cX8_height 63 = .ok (.iastore, 1) := by decide +kernel
theorem dX8_height_64 : decode cX8_height 64 = .ok (.aload_n 0, 1) := by decide +kernel
theorem dX8_height_65 : decode cX8_height 65 = .ok (.getfield 26, 3) := by decide +kernel
theorem dX8_height_68 : decode cX8_height 68 = .ok (.getfield 108, 3) := by decide +kernel
theorem dX8_height_71 : decode cX8_height 71 = .ok (.iload_n 1, 1) := by decide +kernel
theorem dX8_height_72 : decode cX8_height 72 = .ok (.iload 4, 2) := by decide +kernel
theorem dX8_height_74 : decode cX8_height 74 = .ok (.iastore, 1) := by decide +kernel
theorem dX8_height_75 : decode cX8_height 75 = .ok (.iconst 1, 1) := by decide +kernel
theorem dX8_height_76 : decode cX8_height 76 = .ok (.ireturn, 1) := by decide +kernel
theorem dX8_sheep_0 : decode cX8_sheep 0 = .ok (.iload_n 1, 1) := by decide +kernel
theorem dX8_sheep_1 : decode cX8_sheep 1 = .ok (.invokestatic 111, 3) := by decide +kernel
theorem dX8_sheep_4 : decode cX8_sheep 4 = .ok (.ifCond .eq 25, 3) := by decide +kernel
theorem dX8_sheep_7 : decode cX8_sheep 7 = .ok (.aload_n 0, 1) := by decide +kernel
theorem dX8_sheep_8 : decode cX8_sheep 8 = .ok (.getfield 40, 3) := by decide +kernel
theorem dX8_sheep_11 : decode cX8_sheep 11 = .ok (.getfield 114, 3) := by decide +kernel
theorem dX8_sheep_14 : decode cX8_sheep 14 = .ok (.bipush 80, 2) := by decide +kernel
theorem dX8_sheep_16 : decode cX8_sheep 16 = .ok (.if_icmp .ge 13, 3) := by decide +kernel
theorem dX8_sheep_19 : decode cX8_sheep 19 = .ok (.aload_n 0, 1) := by decide +kernel
theorem dX8_sheep_20 : decode cX8_sheep 20 = .ok (.getfield 40, 3) := by decide +kernel
theorem dX8_sheep_23 : decode cX8_sheep 23 = .ok (.getfield 90, 3) := by decide +kernel
theorem dX8_sheep_26 : decode cX8_sheep 26 = .ok (.ifCond .le 5, 3) := by decide +kernel
theorem dX8_sheep_29 : decode cX8_sheep 29 = .ok (.iconst (-1), 1) := by decide +kernel
theorem dX8_sheep_30 : decode cX8_sheep 30 = .ok (.ireturn, 1) := by decide +kernel
theorem dX8_sheep_31 : decode cX8_sheep 31 = .ok (.aload_n 0, 1) := by decide +kernel
theorem dX8_sheep_32 : decode cX8_sheep 32 = .ok (.getfield 40, 3) := by decide +kernel
theorem dX8_sheep_35 : decode cX8_sheep 35 = .ok (.iload_n 1, 1) := by decide +kernel
theorem dX8_sheep_36 : decode cX8_sheep 36 = .ok (.invokevirtual 115, 3) := by decide +kernel
theorem dX8_sheep_39 : decode cX8_sheep 39 = .ok (.ireturn, 1) := by decide +kernel
theorem dX8_move_0 : decode cX8_move 0 = .ok (.aload_n 0, 1) := by decide +kernel
theorem dX8_move_1 : decode cX8_move 1 = .ok (.getfield 26, 3) := by decide +kernel
theorem dX8_move_4 : decode cX8_move 4 = .ok (.iload_n 1, 1) := by decide +kernel
theorem dX8_move_5 : decode cX8_move 5 = .ok (.invokevirtual 119, 3) := by decide +kernel
theorem dX8_move_8 : decode cX8_move 8 = .ok (.ifCond .ne 5, 3) := by decide +kernel
theorem dX8_move_11 : decode cX8_move 11 = .ok (.iconst 0, 1) := by decide +kernel
theorem dX8_move_12 : decode cX8_move 12 = .ok (.ireturn, 1) := by decide +kernel
theorem dX8_move_13 : decode cX8_move 13 = .ok (.aload_n 0, 1) := by decide +kernel
theorem dX8_move_14 : decode cX8_move 14 = .ok (.getfield 26, 3) := by decide +kernel
theorem dX8_move_17 : decode cX8_move 17 = .ok (.iload_n 1, 1) := by decide +kernel
theorem dX8_move_18 : decode cX8_move 18 = .ok (.putfield 87, 3) := by decide +kernel
theorem dX8_move_21 : decode cX8_move 21 = .ok (.iconst 1, 1) := by decide +kernel
theorem dX8_move_22 : decode cX8_move 22 = .ok (.ireturn, 1) := by decide +kernel
theorem dX8_day_0 : decode cX8_day 0 = .ok (.iload_n 1, 1) := by decide +kernel
theorem dX8_day_1 : decode cX8_day 1 = .ok (.invokestatic 122, 3) := by decide +kernel
theorem dX8_day_4 : decode cX8_day 4 = .ok (.ifCond .eq 24, 3) := by decide +kernel
theorem dX8_day_7 : decode cX8_day 7 = .ok (.iload_n 2, 1) := by decide +kernel
theorem dX8_day_8 : decode cX8_day 8 = .ok (.iconst 0, 1) := by decide +kernel
theorem dX8_day_9 : decode cX8_day 9 = .ok (.sipush 300, 3) := by decide +kernel
theorem dX8_day_12 : decode cX8_day 12 = .ok (.invokestatic 79, 3) := by decide +kernel
theorem dX8_day_15 : decode cX8_day 15 = .ok (.ifCond .eq 13, 3) := by decide +kernel
theorem dX8_day_18 : decode cX8_day 18 = .ok (.aload_n 0, 1) := by decide +kernel
theorem dX8_day_19 : decode cX8_day 19 = .ok (.getfield 69, 3) := by decide +kernel
theorem dX8_day_22 : decode cX8_day 22 = .ok (.sipush 150, 3) := by decide +kernel
theorem dX8_day_25 : decode cX8_day 25 = .ok (.if_icmp .lt 5, 3) := by decide +kernel
theorem dX8_day_28 : decode cX8_day 28 = .ok (.iconst (-1), 1) := by decide +kernel
theorem dX8_day_29 : decode cX8_day 29 = .ok (.ireturn, 1) := by decide +kernel
theorem dX8_day_30 : decode cX8_day 30 = .ok (.aload_n 0, 1) := by decide +kernel
theorem dX8_day_31 : decode cX8_day 31 = .ok (.dup, 1) := by decide +kernel
theorem dX8_day_32 : decode cX8_day 32 = .ok (.getfield 69, 3) := by decide +kernel
theorem dX8_day_35 : decode cX8_day 35 = .ok (.iconst 1, 1) := by decide +kernel
theorem dX8_day_36 : decode cX8_day 36 = .ok (.iadd, 1) := by decide +kernel
theorem dX8_day_37 : decode cX8_day 37 = .ok (.putfield 69, 3) := by decide +kernel
theorem dX8_day_40 : decode cX8_day 40 = .ok (.aload_n 0, 1) := by decide +kernel
theorem dX8_day_41 : decode cX8_day 41 = .ok (.getfield 26, 3) := by decide +kernel
theorem dX8_day_44 : decode cX8_day 44 = .ok (.iload_n 1, 1) := by decide +kernel
theorem dX8_day_45 : decode cX8_day 45 = .ok (.iload_n 2, 1) := by decide +kernel
theorem dX8_day_46 : decode cX8_day 46 = .ok (.aload_n 0, 1) := by decide +kernel
theorem dX8_day_47 : decode cX8_day 47 = .ok (.getfield 40, 3) := by decide +kernel
theorem dX8_day_50 : decode cX8_day 50 = .ok (.aload_n 0, 1) := by decide +kernel
theorem dX8_day_51 : decode cX8_day 51 = .ok (.getfield 69, 3) := by decide +kernel
theorem dX8_day_54 : decode cX8_day 54 = .ok (.invokevirtual 125, 3) := by decide +kernel
theorem dX8_day_57 : decode cX8_day 57 = .ok (.invokevirtual 128, 3) := by decide +kernel
theorem dX8_day_60 : decode cX8_day 60 = .ok (.aload_n 0, 1) := by decide +kernel
theorem dX8_day_61 : decode cX8_day 61 = .ok (.getfield 69, 3) := by decide +kernel
theorem dX8_day_64 : decode cX8_day 64 = .ok (.ireturn, 1) := by decide +kernel
theorem dX8_act_0 : decode cX8_act 0 = .ok (.iload_n 1, 1) := by decide +kernel
theorem dX8_act_1 : decode cX8_act 1 = .ok (.iconst 0, 1) := by decide +kernel
theorem dX8_act_2 : decode cX8_act 2 = .ok (.iconst 3, 1) := by decide +kernel
theorem dX8_act_3 : decode cX8_act 3 = .ok (.invokestatic 79, 3) := by decide +kernel
theorem dX8_act_6 : decode cX8_act 6 = .ok (.ifCond .eq 25, 3) := by decide +kernel
theorem dX8_act_9 : decode cX8_act 9 = .ok (.aload_n 0, 1) := by decide +kernel
theorem dX8_act_10 : decode cX8_act 10 = .ok (.getfield 40, 3) := by decide +kernel
theorem dX8_act_13 : decode cX8_act 13 = .ok (.iload_n 2, 1) := by decide +kernel
theorem dX8_act_14 : decode cX8_act 14 = .ok (.invokevirtual 132, 3) := by decide +kernel
theorem dX8_act_17 : decode cX8_act 17 = .ok (.ifCond .eq 14, 3) := by decide +kernel
theorem dX8_act_20 : decode cX8_act 20 = .ok (.iload_n 3, 1) := by decide +kernel
theorem dX8_act_21 : decode cX8_act 21 = .ok (.iconst 1, 1) := by decide +kernel
theorem dX8_act_22 : decode cX8_act 22 = .ok (.sipush 150, 3) := by decide +kernel
theorem dX8_act_25 : decode cX8_act 25 = .ok (.invokestatic 79, 3) := by decide +kernel
theorem dX8_act_28 : decode cX8_act 28 = .ok (.ifCond .ne 5, 3) := by decide +kernel
theorem dX8_act_31 : decode cX8_act 31 = .ok (.iconst (-1), 1) := by decide +kernel
theorem dX8_act_32 : decode cX8_act 32 = .ok (.ireturn, 1) := by decide +kernel
theorem dX8_act_33 : decode cX8_act 33 = .ok (.iload_n 1, 1) := by decide +kernel
theorem dX8_act_34 : decode cX8_act 34 = .ok (.iconst 3, 1) := by decide +kernel
theorem dX8_act_35 : decode cX8_act 35 = .ok (.if_icmp .ne 13, 3) := by decide +kernel
theorem dX8_act_38 : decode cX8_act 38 = .ok (.iload 4, 2) := by decide +kernel
theorem dX8_act_40 : decode cX8_act 40 = .ok (.invokestatic 111, 3) := by decide +kernel
theorem dX8_act_43 : decode cX8_act 43 = .ok (.ifCond .ne 5, 3) := by decide +kernel
theorem dX8_act_46 : decode cX8_act 46 = .ok (.iconst (-1), 1) := by decide +kernel
theorem dX8_act_47 : decode cX8_act 47 = .ok (.ireturn, 1) := by decide +kernel
theorem dX8_act_48 : decode cX8_act 48 = .ok (.aload_n 0, 1) := by decide +kernel
theorem dX8_act_49 : decode cX8_act 49 = .ok (.getfield 40, 3) := by decide +kernel
theorem dX8_act_52 : decode cX8_act 52 = .ok (.getfield 90, 3) := by decide +kernel
theorem dX8_act_55 : decode cX8_act 55 = .ok (.bipush 100, 2) := by decide +kernel
theorem dX8_act_57 : decode cX8_act 57 = .ok (.if_icmp .lt 5, 3) := by decide +kernel
theorem dX8_act_60 : decode cX8_act 60 = .ok (.iconst (-1), 1) := by decide +kernel
theorem dX8_act_61 : decode cX8_act 61 = .ok (.ireturn, 1) := by decide +kernel
theorem dX8_act_62 : decode cX8_act 62 = .ok (.aload_n 0, 1) := by decide +kernel
theorem dX8_act_63 : decode cX8_act 63 = .ok (.getfield 40, 3) := by decide +kernel
theorem dX8_act_66 : decode cX8_act 66 = .ok (.iload_n 1, 1) := by decide +kernel
theorem dX8_act_67 : decode cX8_act 67 = .ok (.iload_n 2, 1) := by decide +kernel
theorem dX8_act_68 : decode cX8_act 68 = .ok (.iload_n 3, 1) := by decide +kernel
theorem dX8_act_69 : decode cX8_act 69 = .ok (.iload_n 1, 1) := by decide +kernel
theorem dX8_act_70 : decode cX8_act 70 = .ok (.iconst 3, 1) := by decide +kernel
theorem dX8_act_71 : decode cX8_act 71 = .ok (.if_icmp .ne 8, 3) := by decide +kernel
theorem dX8_act_74 : decode cX8_act 74 = .ok (.iload 4, 2) := by decide +kernel
theorem dX8_act_76 : decode cX8_act 76 = .ok (.goto 4, 3) := by decide +kernel
theorem dX8_act_79 : decode cX8_act 79 = .ok (.iconst (-1), 1) := by decide +kernel
theorem dX8_act_80 : decode cX8_act 80 = .ok (.aload_n 0, 1) := by decide +kernel
theorem dX8_act_81 : decode cX8_act 81 = .ok (.getfield 47, 3) := by decide +kernel
theorem dX8_act_84 : decode cX8_act 84 = .ok (.invokevirtual 133, 3) := by decide +kernel
theorem dX8_act_87 : decode cX8_act 87 = .ok (.ireturn, 1) := by decide +kernel
theorem dX8_milking_0 : decode cX8_milking 0 = .ok (.iload_n 1, 1) := by decide +kernel
theorem dX8_milking_1 : decode cX8_milking 1 = .ok (.iconst 1, 1) := by decide +kernel
theorem dX8_milking_2 : decode cX8_milking 2 = .ok (.sipush 150, 3) := by decide +kernel
theorem dX8_milking_5 : decode cX8_milking 5 = .ok (.invokestatic 79, 3) := by decide +kernel
theorem dX8_milking_8 : decode cX8_milking 8 = .ok (.ifCond .eq 14, 3) := by decide +kernel
theorem dX8_milking_11 : decode cX8_milking 11 = .ok (.aload_n 0, 1) := by decide +kernel
theorem dX8_milking_12 : decode cX8_milking 12 = .ok (.getfield 54, 3) := by decide +kernel
theorem dX8_milking_15 : decode cX8_milking 15 = .ok (.getfield 137, 3) := by decide +kernel
theorem dX8_milking_18 : decode cX8_milking 18 = .ok (.iconst (-1), 1) := by decide +kernel
theorem dX8_milking_19 : decode cX8_milking 19 = .ok (.if_icmp .eq 5, 3) := by decide +kernel
theorem dX8_milking_22 : decode cX8_milking 22 = .ok (.iconst 0, 1) := by decide +kernel
theorem dX8_milking_23 : decode cX8_milking 23 = .ok (.ireturn, 1) := by decide +kernel
theorem dX8_milking_24 : decode cX8_milking 24 = .ok (.aload_n 0, 1) := by decide +kernel
theorem dX8_milking_25 : decode cX8_milking 25 = .ok (.getfield 54, 3) := by decide +kernel
theorem dX8_milking_28 : decode cX8_milking 28 = .ok (.iload_n 1, 1) := by decide +kernel
theorem dX8_milking_29 : decode cX8_milking 29 = .ok (.putfield 137, 3) := by decide +kernel
theorem dX8_milking_32 : decode cX8_milking 32 = .ok (.iconst 1, 1) := by decide +kernel
theorem dX8_milking_33 : decode cX8_milking 33 = .ok (.ireturn, 1) := by decide +kernel
theorem dX8_milk_0 : decode cX8_milk 0 = .ok (.aload_n 0, 1) := by decide +kernel
theorem dX8_milk_1 : decode cX8_milk 1 = .ok (.getfield 40, 3) := by decide +kernel
theorem dX8_milk_4 : decode cX8_milk 4 = .ok (.iload_n 1, 1) := by decide +kernel
theorem dX8_milk_5 : decode cX8_milk 5 = .ok (.invokevirtual 132, 3) := by decide +kernel
theorem dX8_milk_8 : decode cX8_milk 8 = .ok (.ifCond .eq 25, 3) := by decide +kernel
theorem dX8_milk_11 : decode cX8_milk 11 = .ok (.iload_n 2, 1) := by decide +kernel
theorem dX8_milk_12 : decode cX8_milk 12 = .ok (.iconst 0, 1) := by decide +kernel
theorem dX8_milk_13 : decode cX8_milk 13 = .ok (.sipush 5000, 3) := by decide +kernel
theorem dX8_milk_16 : decode cX8_milk 16 = .ok (.invokestatic 79, 3) := by decide +kernel
theorem dX8_milk_19 : decode cX8_milk 19 = .ok (.ifCond .eq 14, 3) := by decide +kernel
theorem dX8_milk_22 : decode cX8_milk 22 = .ok (.aload_n 0, 1) := by decide +kernel
theorem dX8_milk_23 : decode cX8_milk 23 = .ok (.getfield 54, 3) := by decide +kernel
theorem dX8_milk_26 : decode cX8_milk 26 = .ok (.getfield 137, 3) := by decide +kernel
theorem dX8_milk_29 : decode cX8_milk 29 = .ok (.iconst (-1), 1) := by decide +kernel
theorem dX8_milk_30 : decode cX8_milk 30 = .ok (.if_icmp .ne 5, 3) := by decide +kernel
theorem dX8_milk_33 : decode cX8_milk 33 = .ok (.iconst 0, 1) := by decide +kernel
theorem dX8_milk_34 : decode cX8_milk 34 = .ok (.ireturn, 1) := by decide +kernel
theorem dX8_milk_35 : decode cX8_milk 35 = .ok (.aload_n 0, 1) := by decide +kernel
theorem dX8_milk_36 : decode cX8_milk 36 = .ok (.getfield 54, 3) := by decide +kernel
theorem dX8_milk_39 : decode cX8_milk 39 = .ok (.getfield 140, 3) := by decide +kernel
theorem dX8_milk_42 : decode cX8_milk 42 = .ok (.iload_n 1, 1) := by decide +kernel
theorem dX8_milk_43 : decode cX8_milk 43 = .ok (.iload_n 2, 1) := by decide +kernel
theorem dX8_milk_44 : decode cX8_milk 44 = .ok (.iastore, 1) := by decide +kernel
theorem dX8_milk_45 : decode cX8_milk 45 = .ok (.iconst 1, 1) := by decide +kernel
theorem dX8_milk_46 : decode cX8_milk 46 = .ok (.ireturn, 1) := by decide +kernel
theorem dX8_close_0 : decode cX8_close 0 = .ok (.aload_n 0, 1) := by decide +kernel
theorem dX8_close_1 : decode cX8_close 1 = .ok (.getfield 54, 3) := by decide +kernel
theorem dX8_close_4 : decode cX8_close 4 = .ok (.getfield 137, 3) := by decide +kernel
theorem dX8_close_7 : decode cX8_close 7 = .ok (.iconst (-1), 1) := by decide +kernel
theorem dX8_close_8 : decode cX8_close 8 = .ok (.if_icmp .eq 21, 3) := by decide +kernel
theorem dX8_close_11 : decode cX8_close 11 = .ok (.aload_n 0, 1) := by decide +kernel
theorem dX8_close_12 : decode cX8_close 12 = .ok (.getfield 54, 3) := by decide +kernel
theorem dX8_close_15 : decode cX8_close 15 = .ok (.getfield 137, 3) := by decide +kernel
theorem dX8_close_18 : decode cX8_close 18 = .ok (.aload_n 0, 1) := by decide +kernel
theorem dX8_close_19 : decode cX8_close 19 = .ok (.getfield 69, 3) := by decide +kernel
theorem dX8_close_22 : decode cX8_close 22 = .ok (.if_icmp .gt 7, 3) := by decide +kernel
theorem dX8_close_25 : decode cX8_close 25 = .ok (.iconst 1, 1) := by decide +kernel
theorem dX8_close_26 : decode cX8_close 26 = .ok (.goto 4, 3) := by decide +kernel
theorem dX8_close_29 : decode cX8_close 29 = .ok (.iconst 0, 1) := by decide +kernel
theorem dX8_close_30 : decode cX8_close 30 = .ok (.istore_n 2, 1) := by decide +kernel
theorem dX8_close_31 : decode cX8_close 31 = .ok (.iload_n 1, 1) := by decide +kernel
theorem dX8_close_32 : decode cX8_close 32 = .ok (.iconst 0, 1) := by decide +kernel
theorem dX8_close_33 : decode cX8_close 33 = .ok (.sipush 1000, 3) := by decide +kernel
theorem dX8_close_36 : decode cX8_close 36 = .ok (.invokestatic 79, 3) := by decide +kernel
theorem dX8_close_39 : decode cX8_close 39 = .ok (.ifCond .eq 18, 3) := by decide +kernel
theorem dX8_close_42 : decode cX8_close 42 = .ok (.aload_n 0, 1) := by decide +kernel
theorem dX8_close_43 : decode cX8_close 43 = .ok (.getfield 26, 3) := by decide +kernel
theorem dX8_close_46 : decode cX8_close 46 = .ok (.getfield 87, 3) := by decide +kernel
theorem dX8_close_49 : decode cX8_close 49 = .ok (.iconst (-1), 1) := by decide +kernel
theorem dX8_close_50 : decode cX8_close 50 = .ok (.if_icmp .ne 7, 3) := by decide +kernel
theorem dX8_close_53 : decode cX8_close 53 = .ok (.iload_n 2, 1) := by decide +kernel
theorem dX8_close_54 : decode cX8_close 54 = .ok (.ifCond .ne 5, 3) := by decide +kernel
theorem dX8_close_57 : decode cX8_close 57 = .ok (.iconst (-1), 1) := by decide +kernel
theorem dX8_close_58 : decode cX8_close 58 = .ok (.ireturn, 1) := by decide +kernel
theorem dX8_close_59 : decode cX8_close 59 = .ok (.aload_n 0, 1) := by decide +kernel
theorem dX8_close_60 : decode cX8_close 60 = .ok (.getfield 54, 3) := by decide +kernel
theorem dX8_close_63 : decode cX8_close 63 = .ok (.aload_n 0, 1) := by decide +kernel
theorem dX8_close_64 : decode cX8_close 64 = .ok (.getfield 40, 3) := by decide +kernel
theorem dX8_close_67 : decode cX8_close 67 = .ok (.aload_n 0, 1) := by decide +kernel
theorem dX8_close_68 : decode cX8_close 68 = .ok (.getfield 19, 3) := by decide +kernel
theorem dX8_close_71 : decode cX8_close 71 = .ok (.aload_n 0, 1) := by decide +kernel
theorem dX8_close_72 : decode cX8_close 72 = .ok (.getfield 47, 3) := by decide +kernel
theorem dX8_close_75 : decode cX8_close 75 = .ok (.aload_n 0, 1) := by decide +kernel
theorem dX8_close_76 : decode cX8_close 76 = .ok (.getfield 40, 3) := by decide +kernel
theorem dX8_close_79 : decode cX8_close 79 = .ok (.getfield 90, 3) := by decide +kernel
theorem dX8_close_82 : decode cX8_close 82 = .ok (.aload_n 0, 1) := by decide +kernel
theorem dX8_close_83 : decode cX8_close 83 = .ok (.getfield 69, 3) := by decide +kernel
theorem dX8_close_86 : decode cX8_close 86 = .ok (.invokevirtual 143, 3) := by decide +kernel
theorem dX8_close_89 : decode cX8_close 89 = .ok (.aload_n 0, 1) := by decide +kernel
theorem dX8_close_90 : decode cX8_close 90 = .ok (.getfield 61, 3) := by decide +kernel
theorem dX8_close_93 : decode cX8_close 93 = .ok (.aload_n 0, 1) := by decide +kernel
theorem dX8_close_94 : decode cX8_close 94 = .ok (.getfield 54, 3) := by decide +kernel
theorem dX8_close_97 : decode cX8_close 97 = .ok (.getfield 147, 3) := by decide +kernel
theorem dX8_close_100 : decode cX8_close 100 = .ok (.iload_n 1, 1) := by decide +kernel
theorem dX8_close_101 : decode cX8_close 101 = .ok (.invokevirtual 150, 3) := by decide +kernel
theorem dX8_close_104 : decode cX8_close 104 = .ok (.istore_n 3, 1) := by decide +kernel
theorem dX8_close_105 : decode cX8_close 105 = .ok (.aload_n 0, 1) := by decide +kernel
theorem dX8_close_106 : decode cX8_close 106 = .ok (.getfield 61, 3) := by decide +kernel
theorem dX8_close_109 : decode cX8_close 109 = .ok (.aload_n 0, 1) := by decide +kernel
theorem dX8_close_110 : decode cX8_close 110 = .ok (.getfield 54, 3) := by decide +kernel
theorem dX8_close_113 : decode cX8_close 113 = .ok (.getfield 147, 3) := by decide +kernel
theorem dX8_close_116 : decode cX8_close 116 = .ok (.aload_n 0, 1) := by decide +kernel
theorem dX8_close_117 : decode cX8_close 117 = .ok (.getfield 19, 3) := by decide +kernel
theorem dX8_close_120 : decode cX8_close 120 = .ok (.getfield 154, 3) := by decide +kernel
theorem dX8_close_123 : decode cX8_close 123 = .ok (.iconst 2, 1) := by decide +kernel
theorem dX8_close_124 : decode cX8_close 124 = .ok (.iaload, 1) := by decide +kernel
theorem dX8_close_125 : decode cX8_close 125 = .ok (.invokevirtual 157, 3) := by decide +kernel
theorem dX8_close_128 : decode cX8_close 128 = .ok (.aload_n 0, 1) := by decide +kernel
theorem dX8_close_129 : decode cX8_close 129 = .ok (.getfield 61, 3) := by decide +kernel
theorem dX8_close_132 : decode cX8_close 132 = .ok (.aload_n 0, 1) := by decide +kernel
theorem dX8_close_133 : decode cX8_close 133 = .ok (.getfield 40, 3) := by decide +kernel
theorem dX8_close_136 : decode cX8_close 136 = .ok (.aload_n 0, 1) := by decide +kernel
theorem dX8_close_137 : decode cX8_close 137 = .ok (.getfield 47, 3) := by decide +kernel
theorem dX8_close_140 : decode cX8_close 140 = .ok (.aload_n 0, 1) := by decide +kernel
theorem dX8_close_141 : decode cX8_close 141 = .ok (.getfield 69, 3) := by decide +kernel
theorem dX8_close_144 : decode cX8_close 144 = .ok (.aload_n 0, 1) := by decide +kernel
theorem dX8_close_145 : decode cX8_close 145 = .ok (.getfield 19, 3) := by decide +kernel
theorem dX8_close_148 : decode cX8_close 148 = .ok (.getfield 154, 3) := by decide +kernel
theorem dX8_close_151 : decode cX8_close 151 = .ok (.iconst 3, 1) := by decide +kernel
theorem dX8_close_152 : decode cX8_close 152 = .ok (.iaload, 1) := by decide +kernel
theorem dX8_close_153 : decode cX8_close 153 = .ok (.invokevirtual 161, 3) := by decide +kernel
theorem dX8_close_156 : decode cX8_close 156 = .ok (.aload_n 0, 1) := by decide +kernel
theorem dX8_close_157 : decode cX8_close 157 = .ok (.getfield 61, 3) := by decide +kernel
theorem dX8_close_160 : decode cX8_close 160 = .ok (.aload_n 0, 1) := by decide +kernel
theorem dX8_close_161 : decode cX8_close 161 = .ok (.getfield 54, 3) := by decide +kernel
theorem dX8_close_164 : decode cX8_close 164 = .ok (.getfield 147, 3) := by decide +kernel
theorem dX8_close_167 : decode cX8_close 167 = .ok (.invokevirtual 165, 3) := by decide +kernel
theorem dX8_close_170 : decode cX8_close 170 = .ok (.aload_n 0, 1) := by decide +kernel
theorem dX8_close_171 : decode cX8_close 171 = .ok (.invokevirtual 169, 3) := by decide +kernel
theorem dX8_close_174 : decode cX8_close 174 = .ok (.iload_n 3, 1) := by decide +kernel
theorem dX8_close_175 : decode cX8_close 175 = .ok (.ireturn, 1) := by decide +kernel
theorem dX8_work_0 : decode cX8_work 0 = .ok (.iload_n 1, 1) := by decide +kernel
theorem dX8_work_1 : decode cX8_work 1 = .ok (.invokestatic 111, 3) := by decide +kernel
theorem dX8_work_4 : decode cX8_work 4 = .ok (.ifCond .eq 14, 3) := by decide +kernel
theorem dX8_work_7 : decode cX8_work 7 = .ok (.iload_n 2, 1) := by decide +kernel
theorem dX8_work_8 : decode cX8_work 8 = .ok (.iconst 1, 1) := by decide +kernel
theorem dX8_work_9 : decode cX8_work 9 = .ok (.sipush 1000, 3) := by decide +kernel
theorem dX8_work_12 : decode cX8_work 12 = .ok (.invokestatic 79, 3) := by decide +kernel
theorem dX8_work_15 : decode cX8_work 15 = .ok (.ifCond .ne 5, 3) := by decide +kernel
theorem dX8_work_18 : decode cX8_work 18 = .ok (.iconst 0, 1) := by decide +kernel
theorem dX8_work_19 : decode cX8_work 19 = .ok (.ireturn, 1) := by decide +kernel
theorem dX8_work_20 : decode cX8_work 20 = .ok (.aload_n 0, 1) := by decide +kernel
theorem dX8_work_21 : decode cX8_work 21 = .ok (.getfield 61, 3) := by decide +kernel
theorem dX8_work_24 : decode cX8_work 24 = .ok (.getfield 172, 3) := by decide +kernel
theorem dX8_work_27 : decode cX8_work 27 = .ok (.iload_n 1, 1) := by decide +kernel
theorem dX8_work_28 : decode cX8_work 28 = .ok (.dup2, 1) := by decide +kernel
theorem dX8_work_29 : decode cX8_work 29 = .ok (.laload, 1) := by decide +kernel
theorem dX8_work_30 : decode cX8_work 30 = .ok (.iload_n 2, 1) := by decide +kernel
theorem dX8_work_31 : decode cX8_work 31 = .ok (.i2l, 1) := by decide +kernel
theorem dX8_work_32 : decode cX8_work 32 = .ok (.lsub, 1) := by decide +kernel
theorem dX8_work_33 : decode cX8_work 33 = .ok (.lastore, 1) := by decide +kernel
theorem dX8_work_34 : decode cX8_work 34 = .ok (.iconst 1, 1) := by decide +kernel
theorem dX8_work_35 : decode cX8_work 35 = .ok (.ireturn, 1) := by decide +kernel
theorem dX8_look_0 : decode cX8_look 0 = .ok (.aload_n 0, 1) := by decide +kernel
theorem dX8_look_1 : decode cX8_look 1 = .ok (.getfield 40, 3) := by decide +kernel
theorem dX8_look_4 : decode cX8_look 4 = .ok (.iload_n 1, 1) := by decide +kernel
theorem dX8_look_5 : decode cX8_look 5 = .ok (.invokevirtual 176, 3) := by decide +kernel
theorem dX8_look_8 : decode cX8_look 8 = .ok (.ifCond .eq 25, 3) := by decide +kernel
theorem dX8_look_11 : decode cX8_look 11 = .ok (.iload_n 2, 1) := by decide +kernel
theorem dX8_look_12 : decode cX8_look 12 = .ok (.iconst 0, 1) := by decide +kernel
theorem dX8_look_13 : decode cX8_look 13 = .ok (.sipush 150, 3) := by decide +kernel
theorem dX8_look_16 : decode cX8_look 16 = .ok (.invokestatic 79, 3) := by decide +kernel
theorem dX8_look_19 : decode cX8_look 19 = .ok (.ifCond .eq 14, 3) := by decide +kernel
theorem dX8_look_22 : decode cX8_look 22 = .ok (.aload_n 0, 1) := by decide +kernel
theorem dX8_look_23 : decode cX8_look 23 = .ok (.getfield 40, 3) := by decide +kernel
theorem dX8_look_26 : decode cX8_look 26 = .ok (.iload_n 3, 1) := by decide +kernel
theorem dX8_look_27 : decode cX8_look 27 = .ok (.invokevirtual 132, 3) := by decide +kernel
theorem dX8_look_30 : decode cX8_look 30 = .ok (.ifCond .ne 5, 3) := by decide +kernel
theorem dX8_look_33 : decode cX8_look 33 = .ok (.iconst (-1), 1) := by decide +kernel
theorem dX8_look_34 : decode cX8_look 34 = .ok (.ireturn, 1) := by decide +kernel
theorem dX8_look_35 : decode cX8_look 35 = .ok (.aload_n 0, 1) := by decide +kernel
theorem dX8_look_36 : decode cX8_look 36 = .ok (.getfield 47, 3) := by decide +kernel
theorem dX8_look_39 : decode cX8_look 39 = .ok (.aload_n 0, 1) := by decide +kernel
theorem dX8_look_40 : decode cX8_look 40 = .ok (.getfield 40, 3) := by decide +kernel
theorem dX8_look_43 : decode cX8_look 43 = .ok (.iload_n 3, 1) := by decide +kernel
theorem dX8_look_44 : decode cX8_look 44 = .ok (.iload_n 1, 1) := by decide +kernel
theorem dX8_look_45 : decode cX8_look 45 = .ok (.iload_n 2, 1) := by decide +kernel
theorem dX8_look_46 : decode cX8_look 46 = .ok (.invokevirtual 179, 3) := by decide +kernel
theorem dX8_look_49 : decode cX8_look 49 = .ok (.pop, 1) := by decide +kernel
theorem dX8_look_50 : decode cX8_look 50 = .ok (.iload 4, 2) := by decide +kernel
theorem dX8_look_52 : decode cX8_look 52 = .ok (.lookupswitch 66 #[(0, 28), (1, 58)], 28) := by decide +kernel
theorem dX8_look_80 : decode cX8_look 80 = .ok (.aload_n 0, 1) := by decide +kernel
theorem dX8_look_81 : decode cX8_look 81 = .ok (.getfield 47, 3) := by decide +kernel
theorem dX8_look_84 : decode cX8_look 84 = .ok (.getfield 183, 3) := by decide +kernel
theorem dX8_look_87 : decode cX8_look 87 = .ok (.ifCond .eq 7, 3) := by decide +kernel
theorem dX8_look_90 : decode cX8_look 90 = .ok (.iconst 2, 1) := by decide +kernel
theorem dX8_look_91 : decode cX8_look 91 = .ok (.goto 18, 3) := by decide +kernel
theorem dX8_look_94 : decode cX8_look 94 = .ok (.aload_n 0, 1) := by decide +kernel
theorem dX8_look_95 : decode cX8_look 95 = .ok (.getfield 47, 3) := by decide +kernel
theorem dX8_look_98 : decode cX8_look 98 = .ok (.getfield 187, 3) := by decide +kernel
theorem dX8_look_101 : decode cX8_look 101 = .ok (.ifCond .eq 7, 3) := by decide +kernel
theorem dX8_look_104 : decode cX8_look 104 = .ok (.iconst 1, 1) := by decide +kernel
theorem dX8_look_105 : decode cX8_look 105 = .ok (.goto 4, 3) := by decide +kernel
theorem dX8_look_108 : decode cX8_look 108 = .ok (.iconst 0, 1) := by decide +kernel
theorem dX8_look_109 : decode cX8_look 109 = .ok (.ireturn, 1) := by decide +kernel
theorem dX8_look_110 : decode cX8_look 110 = .ok (.aload_n 0, 1) := by decide +kernel
theorem dX8_look_111 : decode cX8_look 111 = .ok (.getfield 47, 3) := by decide +kernel
theorem dX8_look_114 : decode cX8_look 114 = .ok (.getfield 190, 3) := by decide +kernel
theorem dX8_look_117 : decode cX8_look 117 = .ok (.ireturn, 1) := by decide +kernel
theorem dX8_look_118 : decode cX8_look 118 = .ok (.iconst (-1), 1) := by decide +kernel
theorem dX8_look_119 : decode cX8_look 119 = .ok (.ireturn, 1) := by decide +kernel
theorem dX8_credit_0 : decode cX8_credit 0 = .ok (.aload_n 0, 1) := by decide +kernel
theorem dX8_credit_1 : decode cX8_credit 1 = .ok (.getfield 40, 3) := by decide +kernel
theorem dX8_credit_4 : decode cX8_credit 4 = .ok (.iload_n 1, 1) := by decide +kernel
theorem dX8_credit_5 : decode cX8_credit 5 = .ok (.invokevirtual 176, 3) := by decide +kernel
theorem dX8_credit_8 : decode cX8_credit 8 = .ok (.ifCond .eq 14, 3) := by decide +kernel
theorem dX8_credit_11 : decode cX8_credit 11 = .ok (.aload_n 0, 1) := by decide +kernel
theorem dX8_credit_12 : decode cX8_credit 12 = .ok (.getfield 40, 3) := by decide +kernel
theorem dX8_credit_15 : decode cX8_credit 15 = .ok (.iload_n 2, 1) := by decide +kernel
theorem dX8_credit_16 : decode cX8_credit 16 = .ok (.invokevirtual 132, 3) := by decide +kernel
theorem dX8_credit_19 : decode cX8_credit 19 = .ok (.ifCond .ne 5, 3) := by decide +kernel
theorem dX8_credit_22 : decode cX8_credit 22 = .ok (.iconst (-1), 1) := by decide +kernel
theorem dX8_credit_23 : decode cX8_credit 23 = .ok (.ireturn, 1) := by decide +kernel
theorem dX8_credit_24 : decode cX8_credit 24 = .ok (.aload_n 0, 1) := by decide +kernel
theorem dX8_credit_25 : decode cX8_credit 25 = .ok (.getfield 54, 3) := by decide +kernel
theorem dX8_credit_28 : decode cX8_credit 28 = .ok (.aload_n 0, 1) := by decide +kernel
theorem dX8_credit_29 : decode cX8_credit 29 = .ok (.getfield 40, 3) := by decide +kernel
theorem dX8_credit_32 : decode cX8_credit 32 = .ok (.aload_n 0, 1) := by decide +kernel
theorem dX8_credit_33 : decode cX8_credit 33 = .ok (.getfield 19, 3) := by decide +kernel
theorem dX8_credit_36 : decode cX8_credit 36 = .ok (.aload_n 0, 1) := by decide +kernel
theorem dX8_credit_37 : decode cX8_credit 37 = .ok (.getfield 47, 3) := by decide +kernel
theorem dX8_credit_40 : decode cX8_credit 40 = .ok (.iload_n 1, 1) := by decide +kernel
theorem dX8_credit_41 : decode cX8_credit 41 = .ok (.iload_n 2, 1) := by decide +kernel
theorem dX8_credit_42 : decode cX8_credit 42 = .ok (.aload_n 0, 1) := by decide +kernel
theorem dX8_credit_43 : decode cX8_credit 43 = .ok (.getfield 69, 3) := by decide +kernel
theorem dX8_credit_46 : decode cX8_credit 46 = .ok (.invokevirtual 193, 3) := by decide +kernel
theorem dX8_credit_49 : decode cX8_credit 49 = .ok (.ireturn, 1) := by decide +kernel
theorem dX8_part_0 : decode cX8_part 0 = .ok (.aload_n 0, 1) := by decide +kernel
theorem dX8_part_1 : decode cX8_part 1 = .ok (.getfield 40, 3) := by decide +kernel
theorem dX8_part_4 : decode cX8_part 4 = .ok (.iload_n 1, 1) := by decide +kernel
theorem dX8_part_5 : decode cX8_part 5 = .ok (.invokevirtual 176, 3) := by decide +kernel
theorem dX8_part_8 : decode cX8_part 8 = .ok (.ifCond .eq 10, 3) := by decide +kernel
theorem dX8_part_11 : decode cX8_part 11 = .ok (.iload_n 2, 1) := by decide +kernel
theorem dX8_part_12 : decode cX8_part 12 = .ok (.invokestatic 111, 3) := by decide +kernel
theorem dX8_part_15 : decode cX8_part 15 = .ok (.ifCond .ne 5, 3) := by decide +kernel
theorem dX8_part_18 : decode cX8_part 18 = .ok (.iconst (-1), 1) := by decide +kernel
theorem dX8_part_19 : decode cX8_part 19 = .ok (.ireturn, 1) := by decide +kernel
theorem dX8_part_20 : decode cX8_part 20 = .ok (.aload_n 0, 1) := by decide +kernel
theorem dX8_part_21 : decode cX8_part 21 = .ok (.getfield 54, 3) := by decide +kernel
theorem dX8_part_24 : decode cX8_part 24 = .ok (.aload_n 0, 1) := by decide +kernel
theorem dX8_part_25 : decode cX8_part 25 = .ok (.getfield 40, 3) := by decide +kernel
theorem dX8_part_28 : decode cX8_part 28 = .ok (.aload_n 0, 1) := by decide +kernel
theorem dX8_part_29 : decode cX8_part 29 = .ok (.getfield 19, 3) := by decide +kernel
theorem dX8_part_32 : decode cX8_part 32 = .ok (.aload_n 0, 1) := by decide +kernel
theorem dX8_part_33 : decode cX8_part 33 = .ok (.getfield 47, 3) := by decide +kernel
theorem dX8_part_36 : decode cX8_part 36 = .ok (.iload_n 1, 1) := by decide +kernel
theorem dX8_part_37 : decode cX8_part 37 = .ok (.aload_n 0, 1) := by decide +kernel
theorem dX8_part_38 : decode cX8_part 38 = .ok (.getfield 69, 3) := by decide +kernel
theorem dX8_part_41 : decode cX8_part 41 = .ok (.invokevirtual 143, 3) := by decide +kernel
theorem dX8_part_44 : decode cX8_part 44 = .ok (.aload_n 0, 1) := by decide +kernel
theorem dX8_part_45 : decode cX8_part 45 = .ok (.getfield 54, 3) := by decide +kernel
theorem dX8_part_48 : decode cX8_part 48 = .ok (.getfield 147, 3) := by decide +kernel
theorem dX8_part_51 : decode cX8_part 51 = .ok (.iload_n 2, 1) := by decide +kernel
theorem dX8_part_52 : decode cX8_part 52 = .ok (.iaload, 1) := by decide +kernel
theorem dX8_part_53 : decode cX8_part 53 = .ok (.ireturn, 1) := by decide +kernel
theorem dX8_way_0 : decode cX8_way 0 = .ok (.iload_n 1, 1) := by decide +kernel
theorem dX8_way_1 : decode cX8_way 1 = .ok (.iconst 1, 1) := by decide +kernel
theorem dX8_way_2 : decode cX8_way 2 = .ok (.bipush 8, 2) := by decide +kernel
theorem dX8_way_4 : decode cX8_way 4 = .ok (.invokestatic 79, 3) := by decide +kernel
theorem dX8_way_7 : decode cX8_way 7 = .ok (.ifCond .eq 10, 3) := by decide +kernel
theorem dX8_way_10 : decode cX8_way 10 = .ok (.iload_n 2, 1) := by decide +kernel
theorem dX8_way_11 : decode cX8_way 11 = .ok (.invokestatic 122, 3) := by decide +kernel
theorem dX8_way_14 : decode cX8_way 14 = .ok (.ifCond .ne 5, 3) := by decide +kernel
theorem dX8_way_17 : decode cX8_way 17 = .ok (.iconst (-1), 1) := by decide +kernel
theorem dX8_way_18 : decode cX8_way 18 = .ok (.ireturn, 1) := by decide +kernel
theorem dX8_way_19 : decode cX8_way 19 = .ok (.aload_n 0, 1) := by decide +kernel
theorem dX8_way_20 : decode cX8_way 20 = .ok (.getfield 33, 3) := by decide +kernel
theorem dX8_way_23 : decode cX8_way 23 = .ok (.aload_n 0, 1) := by decide +kernel
theorem dX8_way_24 : decode cX8_way 24 = .ok (.getfield 26, 3) := by decide +kernel
theorem dX8_way_27 : decode cX8_way 27 = .ok (.aload_n 0, 1) := by decide +kernel
theorem dX8_way_28 : decode cX8_way 28 = .ok (.getfield 40, 3) := by decide +kernel
theorem dX8_way_31 : decode cX8_way 31 = .ok (.aload_n 0, 1) := by decide +kernel
theorem dX8_way_32 : decode cX8_way 32 = .ok (.getfield 69, 3) := by decide +kernel
theorem dX8_way_35 : decode cX8_way 35 = .ok (.invokevirtual 125, 3) := by decide +kernel
theorem dX8_way_38 : decode cX8_way 38 = .ok (.iload_n 1, 1) := by decide +kernel
theorem dX8_way_39 : decode cX8_way 39 = .ok (.iload_n 2, 1) := by decide +kernel
theorem dX8_way_40 : decode cX8_way 40 = .ok (.invokevirtual 197, 3) := by decide +kernel
theorem dX8_way_43 : decode cX8_way 43 = .ok (.ireturn, 1) := by decide +kernel
theorem dX8_step_0 : decode cX8_step 0 = .ok (.iload_n 1, 1) := by decide +kernel
theorem dX8_step_1 : decode cX8_step 1 = .ok (.iconst 0, 1) := by decide +kernel
theorem dX8_step_2 : decode cX8_step 2 = .ok (.aload_n 0, 1) := by decide +kernel
theorem dX8_step_3 : decode cX8_step 3 = .ok (.getfield 33, 3) := by decide +kernel
theorem dX8_step_6 : decode cX8_step 6 = .ok (.getfield 201, 3) := by decide +kernel
theorem dX8_step_9 : decode cX8_step 9 = .ok (.iconst 1, 1) := by decide +kernel
theorem dX8_step_10 : decode cX8_step 10 = .ok (.isub, 1) := by decide +kernel
theorem dX8_step_11 : decode cX8_step 11 = .ok (.invokestatic 79, 3) := by decide +kernel
theorem dX8_step_14 : decode cX8_step 14 = .ok (.ifCond .eq 15, 3) := by decide +kernel
theorem dX8_step_17 : decode cX8_step 17 = .ok (.aload_n 0, 1) := by decide +kernel
theorem dX8_step_18 : decode cX8_step 18 = .ok (.getfield 33, 3) := by decide +kernel
theorem dX8_step_21 : decode cX8_step 21 = .ok (.getfield 204, 3) := by decide +kernel
theorem dX8_step_24 : decode cX8_step 24 = .ok (.iload_n 1, 1) := by decide +kernel
theorem dX8_step_25 : decode cX8_step 25 = .ok (.iaload, 1) := by decide +kernel
theorem dX8_step_26 : decode cX8_step 26 = .ok (.goto 4, 3) := by decide +kernel
theorem dX8_step_29 : decode cX8_step 29 = .ok (.iconst (-1), 1) := by decide +kernel
theorem dX8_step_30 : decode cX8_step 30 = .ok (.ireturn, 1) := by decide +kernel
theorem dX8_grass_0 : decode cX8_grass 0 = .ok (.aload_n 0, 1) := by decide +kernel
theorem dX8_grass_1 : decode cX8_grass 1 = .ok (.getfield 26, 3) := by decide +kernel
theorem dX8_grass_4 : decode cX8_grass 4 = .ok (.iload_n 1, 1) := by decide +kernel
theorem dX8_grass_5 : decode cX8_grass 5 = .ok (.invokevirtual 96, 3) := by decide +kernel
theorem dX8_grass_8 : decode cX8_grass 8 = .ok (.ifCond .ne 5, 3) := by decide +kernel
theorem dX8_grass_11 : decode cX8_grass 11 = .ok (.iconst (-1), 1) := by decide +kernel
theorem dX8_grass_12 : decode cX8_grass 12 = .ok (.ireturn, 1) := by decide +kernel
theorem dX8_grass_13 : decode cX8_grass 13 = .ok (.iload_n 2, 1) := by decide +kernel
theorem dX8_grass_14 : decode cX8_grass 14 = .ok (.tableswitch 56 0 2 #[26, 36, 46], 26) := by decide +kernel
theorem dX8_grass_40 : decode cX8_grass 40 = .ok (.aload_n 0, 1) := by decide +kernel
theorem dX8_grass_41 : decode cX8_grass 41 = .ok (.getfield 26, 3) := by decide +kernel
theorem dX8_grass_44 : decode cX8_grass 44 = .ok (.getfield 101, 3) := by decide +kernel
theorem dX8_grass_47 : decode cX8_grass 47 = .ok (.iload_n 1, 1) := by decide +kernel
theorem dX8_grass_48 : decode cX8_grass 48 = .ok (.iaload, 1) := by decide +kernel
theorem dX8_grass_49 : decode cX8_grass 49 = .ok (.ireturn, 1) := by decide +kernel
theorem dX8_grass_50 : decode cX8_grass 50 = .ok (.aload_n 0, 1) := by decide +kernel
theorem dX8_grass_51 : decode cX8_grass 51 = .ok (.getfield 26, 3) := by decide +kernel
theorem dX8_grass_54 : decode cX8_grass 54 = .ok (.getfield 105, 3) := by decide +kernel
theorem dX8_grass_57 : decode cX8_grass 57 = .ok (.iload_n 1, 1) := by decide +kernel
theorem dX8_grass_58 : decode cX8_grass 58 = .ok (.iaload, 1) := by decide +kernel
theorem dX8_grass_59 : decode cX8_grass 59 = .ok (.ireturn, 1) := by decide +kernel
theorem dX8_grass_60 : decode cX8_grass 60 = .ok (.aload_n 0, 1) := by decide +kernel
theorem dX8_grass_61 : decode cX8_grass 61 = .ok (.getfield 26, 3) := by decide +kernel
theorem dX8_grass_64 : decode cX8_grass 64 = .ok (.getfield 108, 3) := by decide +kernel
theorem dX8_grass_67 : decode cX8_grass 67 = .ok (.iload_n 1, 1) := by decide +kernel
theorem dX8_grass_68 : decode cX8_grass 68 = .ok (.iaload, 1) := by decide +kernel
theorem dX8_grass_69 : decode cX8_grass 69 = .ok (.ireturn, 1) := by decide +kernel
theorem dX8_grass_70 : decode cX8_grass 70 = .ok (.iconst (-1), 1) := by decide +kernel
theorem dX8_grass_71 : decode cX8_grass 71 = .ok (.ireturn, 1) := by decide +kernel
theorem dX8_told_0 : decode cX8_told 0 = .ok (.iload_n 1, 1) := by decide +kernel
theorem dX8_told_1 : decode cX8_told 1 = .ok (.invokestatic 111, 3) := by decide +kernel
theorem dX8_told_4 : decode cX8_told 4 = .ok (.ifCond .ne 7, 3) := by decide +kernel
theorem dX8_told_7 : decode cX8_told 7 = .ok (.ldc2_w 207, 3) := by decide +kernel
theorem dX8_told_10 : decode cX8_told 10 = .ok (.lreturn, 1) := by decide +kernel
theorem dX8_told_11 : decode cX8_told 11 = .ok (.iload_n 2, 1) := by decide +kernel
theorem dX8_told_12 : decode cX8_told 12 = .ok (.tableswitch 109 0 5 #[40, 58, 68, 79, 89, 99], 40) := by decide +kernel
theorem dX8_told_52 : decode cX8_told 52 = .ok (.aload_n 0, 1) := by decide +kernel
theorem dX8_told_53 : decode cX8_told 53 = .ok (.getfield 40, 3) := by decide +kernel
theorem dX8_told_56 : decode cX8_told 56 = .ok (.iload_n 1, 1) := by decide +kernel
theorem dX8_told_57 : decode cX8_told 57 = .ok (.aload_n 0, 1) := by decide +kernel
theorem dX8_told_58 : decode cX8_told 58 = .ok (.getfield 69, 3) := by decide +kernel
theorem dX8_told_61 : decode cX8_told 61 = .ok (.aload_n 0, 1) := by decide +kernel
theorem dX8_told_62 : decode cX8_told 62 = .ok (.getfield 47, 3) := by decide +kernel
theorem dX8_told_65 : decode cX8_told 65 = .ok (.invokevirtual 209, 3) := by decide +kernel
theorem dX8_told_68 : decode cX8_told 68 = .ok (.i2l, 1) := by decide +kernel
theorem dX8_told_69 : decode cX8_told 69 = .ok (.lreturn, 1) := by decide +kernel
theorem dX8_told_70 : decode cX8_told 70 = .ok (.aload_n 0, 1) := by decide +kernel
theorem dX8_told_71 : decode cX8_told 71 = .ok (.getfield 61, 3) := by decide +kernel
theorem dX8_told_74 : decode cX8_told 74 = .ok (.getfield 213, 3) := by decide +kernel
theorem dX8_told_77 : decode cX8_told 77 = .ok (.iload_n 1, 1) := by decide +kernel
theorem dX8_told_78 : decode cX8_told 78 = .ok (.laload, 1) := by decide +kernel
theorem dX8_told_79 : decode cX8_told 79 = .ok (.lreturn, 1) := by decide +kernel
theorem dX8_told_80 : decode cX8_told 80 = .ok (.aload_n 0, 1) := by decide +kernel
theorem dX8_told_81 : decode cX8_told 81 = .ok (.getfield 61, 3) := by decide +kernel
theorem dX8_told_84 : decode cX8_told 84 = .ok (.getfield 216, 3) := by decide +kernel
theorem dX8_told_87 : decode cX8_told 87 = .ok (.iload_n 1, 1) := by decide +kernel
theorem dX8_told_88 : decode cX8_told 88 = .ok (.iaload, 1) := by decide +kernel
theorem dX8_told_89 : decode cX8_told 89 = .ok (.i2l, 1) := by decide +kernel
theorem dX8_told_90 : decode cX8_told 90 = .ok (.lreturn, 1) := by decide +kernel
theorem dX8_told_91 : decode cX8_told 91 = .ok (.aload_n 0, 1) := by decide +kernel
theorem dX8_told_92 : decode cX8_told 92 = .ok (.getfield 61, 3) := by decide +kernel
theorem dX8_told_95 : decode cX8_told 95 = .ok (.getfield 172, 3) := by decide +kernel
theorem dX8_told_98 : decode cX8_told 98 = .ok (.iload_n 1, 1) := by decide +kernel
theorem dX8_told_99 : decode cX8_told 99 = .ok (.laload, 1) := by decide +kernel
theorem dX8_told_100 : decode cX8_told 100 = .ok (.lreturn, 1) := by decide +kernel
theorem dX8_told_101 : decode cX8_told 101 = .ok (.aload_n 0, 1) := by decide +kernel
theorem dX8_told_102 : decode cX8_told 102 = .ok (.getfield 61, 3) := by decide +kernel
theorem dX8_told_105 : decode cX8_told 105 = .ok (.getfield 219, 3) := by decide +kernel
theorem dX8_told_108 : decode cX8_told 108 = .ok (.iload_n 1, 1) := by decide +kernel
theorem dX8_told_109 : decode cX8_told 109 = .ok (.laload, 1) := by decide +kernel
theorem dX8_told_110 : decode cX8_told 110 = .ok (.lreturn, 1) := by decide +kernel
theorem dX8_told_111 : decode cX8_told 111 = .ok (.aload_n 0, 1) := by decide +kernel
theorem dX8_told_112 : decode cX8_told 112 = .ok (.getfield 61, 3) := by decide +kernel
theorem dX8_told_115 : decode cX8_told 115 = .ok (.iload_n 1, 1) := by decide +kernel
theorem dX8_told_116 : decode cX8_told 116 = .ok (.invokevirtual 222, 3) := by decide +kernel
theorem dX8_told_119 : decode cX8_told 119 = .ok (.i2l, 1) := by decide +kernel
theorem dX8_told_120 : decode cX8_told 120 = .ok (.lreturn, 1) := by decide +kernel
theorem dX8_told_121 : decode cX8_told 121 = .ok (.ldc2_w 207, 3) := by decide +kernel
theorem dX8_told_124 : decode cX8_told 124 = .ok (.lreturn, 1) := by decide +kernel
theorem dX8_entry_0 : decode cX8_entry 0 = .ok (.iload_n 1, 1) := by decide +kernel
theorem dX8_entry_1 : decode cX8_entry 1 = .ok (.iconst 0, 1) := by decide +kernel
theorem dX8_entry_2 : decode cX8_entry 2 = .ok (.aload_n 0, 1) := by decide +kernel
theorem dX8_entry_3 : decode cX8_entry 3 = .ok (.getfield 40, 3) := by decide +kernel
theorem dX8_entry_6 : decode cX8_entry 6 = .ok (.getfield 90, 3) := by decide +kernel
theorem dX8_entry_9 : decode cX8_entry 9 = .ok (.iconst 1, 1) := by decide +kernel
theorem dX8_entry_10 : decode cX8_entry 10 = .ok (.isub, 1) := by decide +kernel
theorem dX8_entry_11 : decode cX8_entry 11 = .ok (.invokestatic 79, 3) := by decide +kernel
theorem dX8_entry_14 : decode cX8_entry 14 = .ok (.ifCond .ne 5, 3) := by decide +kernel
theorem dX8_entry_17 : decode cX8_entry 17 = .ok (.iconst (-1), 1) := by decide +kernel
theorem dX8_entry_18 : decode cX8_entry 18 = .ok (.ireturn, 1) := by decide +kernel
theorem dX8_entry_19 : decode cX8_entry 19 = .ok (.iload_n 2, 1) := by decide +kernel
theorem dX8_entry_20 : decode cX8_entry 20 = .ok (.tableswitch 72 0 3 #[32, 42, 52, 62], 32) := by decide +kernel
theorem dX8_entry_52 : decode cX8_entry 52 = .ok (.aload_n 0, 1) := by decide +kernel
theorem dX8_entry_53 : decode cX8_entry 53 = .ok (.getfield 40, 3) := by decide +kernel
theorem dX8_entry_56 : decode cX8_entry 56 = .ok (.getfield 225, 3) := by decide +kernel
theorem dX8_entry_59 : decode cX8_entry 59 = .ok (.iload_n 1, 1) := by decide +kernel
theorem dX8_entry_60 : decode cX8_entry 60 = .ok (.iaload, 1) := by decide +kernel
theorem dX8_entry_61 : decode cX8_entry 61 = .ok (.ireturn, 1) := by decide +kernel
theorem dX8_entry_62 : decode cX8_entry 62 = .ok (.aload_n 0, 1) := by decide +kernel
theorem dX8_entry_63 : decode cX8_entry 63 = .ok (.getfield 40, 3) := by decide +kernel
theorem dX8_entry_66 : decode cX8_entry 66 = .ok (.getfield 228, 3) := by decide +kernel
theorem dX8_entry_69 : decode cX8_entry 69 = .ok (.iload_n 1, 1) := by decide +kernel
theorem dX8_entry_70 : decode cX8_entry 70 = .ok (.iaload, 1) := by decide +kernel
theorem dX8_entry_71 : decode cX8_entry 71 = .ok (.ireturn, 1) := by decide +kernel
theorem dX8_entry_72 : decode cX8_entry 72 = .ok (.aload_n 0, 1) := by decide +kernel
theorem dX8_entry_73 : decode cX8_entry 73 = .ok (.getfield 40, 3) := by decide +kernel
theorem dX8_entry_76 : decode cX8_entry 76 = .ok (.getfield 231, 3) := by decide +kernel
theorem dX8_entry_79 : decode cX8_entry 79 = .ok (.iload_n 1, 1) := by decide +kernel
theorem dX8_entry_80 : decode cX8_entry 80 = .ok (.iaload, 1) := by decide +kernel
theorem dX8_entry_81 : decode cX8_entry 81 = .ok (.ireturn, 1) := by decide +kernel
theorem dX8_entry_82 : decode cX8_entry 82 = .ok (.aload_n 0, 1) := by decide +kernel
theorem dX8_entry_83 : decode cX8_entry 83 = .ok (.getfield 40, 3) := by decide +kernel
theorem dX8_entry_86 : decode cX8_entry 86 = .ok (.getfield 234, 3) := by decide +kernel
theorem dX8_entry_89 : decode cX8_entry 89 = .ok (.iload_n 1, 1) := by decide +kernel
end
section
theorem dX8_entry_90 : decode cX8_entry 90 = .ok (.iaload, 1) := by decide +kernel
theorem dX8_entry_91 : decode cX8_entry 91 = .ok (.ireturn, 1) := by decide +kernel
theorem dX8_entry_92 : decode cX8_entry 92 = .ok (.iconst (-1), 1) := by decide +kernel
theorem dX8_entry_93 : decode cX8_entry 93 = .ok (.ireturn, 1) := by decide +kernel
theorem dX8_rule_0 : decode cX8_rule 0 = .ok (.iload_n 1, 1) := by decide +kernel
theorem dX8_rule_1 : decode cX8_rule 1 = .ok (.iconst 0, 1) := by decide +kernel
theorem dX8_rule_2 : decode cX8_rule 2 = .ok (.iconst 3, 1) := by decide +kernel
theorem dX8_rule_3 : decode cX8_rule 3 = .ok (.invokestatic 79, 3) := by decide +kernel
theorem dX8_rule_6 : decode cX8_rule 6 = .ok (.ifCond .eq 15, 3) := by decide +kernel
theorem dX8_rule_9 : decode cX8_rule 9 = .ok (.aload_n 0, 1) := by decide +kernel
theorem dX8_rule_10 : decode cX8_rule 10 = .ok (.getfield 19, 3) := by decide +kernel
theorem dX8_rule_13 : decode cX8_rule 13 = .ok (.getfield 154, 3) := by decide +kernel
theorem dX8_rule_16 : decode cX8_rule 16 = .ok (.iload_n 1, 1) := by decide +kernel
theorem dX8_rule_17 : decode cX8_rule 17 = .ok (.iaload, 1) := by decide +kernel
theorem dX8_rule_18 : decode cX8_rule 18 = .ok (.goto 4, 3) := by decide +kernel
theorem dX8_rule_21 : decode cX8_rule 21 = .ok (.iconst (-1), 1) := by decide +kernel
theorem dX8_rule_22 : decode cX8_rule 22 = .ok (.ireturn, 1) := by decide +kernel
theorem dX8_count_0 : decode cX8_count 0 = .ok (.iload_n 1, 1) := by decide +kernel
theorem dX8_count_1 : decode cX8_count 1 = .ok (.tableswitch 200 0 13 #[71, 77, 83, 92, 101, 110, 119, 128, 141, 150, 166, 175, 183, 192], 71) := by decide +kernel
theorem dX8_count_72 : decode cX8_count 72 = .ok (.aload_n 0, 1) := by decide +kernel
theorem dX8_count_73 : decode cX8_count 73 = .ok (.getfield 65, 3) := by decide +kernel
theorem dX8_count_76 : decode cX8_count 76 = .ok (.i2l, 1) := by decide +kernel
theorem dX8_count_77 : decode cX8_count 77 = .ok (.lreturn, 1) := by decide +kernel
theorem dX8_count_78 : decode cX8_count 78 = .ok (.aload_n 0, 1) := by decide +kernel
theorem dX8_count_79 : decode cX8_count 79 = .ok (.getfield 69, 3) := by decide +kernel
theorem dX8_count_82 : decode cX8_count 82 = .ok (.i2l, 1) := by decide +kernel
theorem dX8_count_83 : decode cX8_count 83 = .ok (.lreturn, 1) := by decide +kernel
theorem dX8_count_84 : decode cX8_count 84 = .ok (.aload_n 0, 1) := by decide +kernel
theorem dX8_count_85 : decode cX8_count 85 = .ok (.getfield 26, 3) := by decide +kernel
theorem dX8_count_88 : decode cX8_count 88 = .ok (.getfield 237, 3) := by decide +kernel
theorem dX8_count_91 : decode cX8_count 91 = .ok (.i2l, 1) := by decide +kernel
theorem dX8_count_92 : decode cX8_count 92 = .ok (.lreturn, 1) := by decide +kernel
theorem dX8_count_93 : decode cX8_count 93 = .ok (.aload_n 0, 1) := by decide +kernel
theorem dX8_count_94 : decode cX8_count 94 = .ok (.getfield 26, 3) := by decide +kernel
theorem dX8_count_97 : decode cX8_count 97 = .ok (.getfield 87, 3) := by decide +kernel
theorem dX8_count_100 : decode cX8_count 100 = .ok (.i2l, 1) := by decide +kernel
theorem dX8_count_101 : decode cX8_count 101 = .ok (.lreturn, 1) := by decide +kernel
theorem dX8_count_102 : decode cX8_count 102 = .ok (.aload_n 0, 1) := by decide +kernel
theorem dX8_count_103 : decode cX8_count 103 = .ok (.getfield 26, 3) := by decide +kernel
theorem dX8_count_106 : decode cX8_count 106 = .ok (.getfield 240, 3) := by decide +kernel
theorem dX8_count_109 : decode cX8_count 109 = .ok (.i2l, 1) := by decide +kernel
theorem dX8_count_110 : decode cX8_count 110 = .ok (.lreturn, 1) := by decide +kernel
theorem dX8_count_111 : decode cX8_count 111 = .ok (.aload_n 0, 1) := by decide +kernel
theorem dX8_count_112 : decode cX8_count 112 = .ok (.getfield 26, 3) := by decide +kernel
theorem dX8_count_115 : decode cX8_count 115 = .ok (.getfield 243, 3) := by decide +kernel
theorem dX8_count_118 : decode cX8_count 118 = .ok (.i2l, 1) := by decide +kernel
theorem dX8_count_119 : decode cX8_count 119 = .ok (.lreturn, 1) := by decide +kernel
theorem dX8_count_120 : decode cX8_count 120 = .ok (.aload_n 0, 1) := by decide +kernel
theorem dX8_count_121 : decode cX8_count 121 = .ok (.getfield 40, 3) := by decide +kernel
theorem dX8_count_124 : decode cX8_count 124 = .ok (.getfield 114, 3) := by decide +kernel
theorem dX8_count_127 : decode cX8_count 127 = .ok (.i2l, 1) := by decide +kernel
theorem dX8_count_128 : decode cX8_count 128 = .ok (.lreturn, 1) := by decide +kernel
theorem dX8_count_129 : decode cX8_count 129 = .ok (.aload_n 0, 1) := by decide +kernel
theorem dX8_count_130 : decode cX8_count 130 = .ok (.getfield 40, 3) := by decide +kernel
theorem dX8_count_133 : decode cX8_count 133 = .ok (.aload_n 0, 1) := by decide +kernel
theorem dX8_count_134 : decode cX8_count 134 = .ok (.getfield 69, 3) := by decide +kernel
theorem dX8_count_137 : decode cX8_count 137 = .ok (.invokevirtual 125, 3) := by decide +kernel
theorem dX8_count_140 : decode cX8_count 140 = .ok (.i2l, 1) := by decide +kernel
theorem dX8_count_141 : decode cX8_count 141 = .ok (.lreturn, 1) := by decide +kernel
theorem dX8_count_142 : decode cX8_count 142 = .ok (.aload_n 0, 1) := by decide +kernel
theorem dX8_count_143 : decode cX8_count 143 = .ok (.getfield 40, 3) := by decide +kernel
theorem dX8_count_146 : decode cX8_count 146 = .ok (.getfield 90, 3) := by decide +kernel
theorem dX8_count_149 : decode cX8_count 149 = .ok (.i2l, 1) := by decide +kernel
theorem dX8_count_150 : decode cX8_count 150 = .ok (.lreturn, 1) := by decide +kernel
theorem dX8_count_151 : decode cX8_count 151 = .ok (.aload_n 0, 1) := by decide +kernel
theorem dX8_count_152 : decode cX8_count 152 = .ok (.getfield 26, 3) := by decide +kernel
theorem dX8_count_155 : decode cX8_count 155 = .ok (.invokevirtual 246, 3) := by decide +kernel
theorem dX8_count_158 : decode cX8_count 158 = .ok (.ifCond .eq 7, 3) := by decide +kernel
theorem dX8_count_161 : decode cX8_count 161 = .ok (.lconst 1, 1) := by decide +kernel
theorem dX8_count_162 : decode cX8_count 162 = .ok (.goto 4, 3) := by decide +kernel
theorem dX8_count_165 : decode cX8_count 165 = .ok (.lconst 0, 1) := by decide +kernel
theorem dX8_count_166 : decode cX8_count 166 = .ok (.lreturn, 1) := by decide +kernel
theorem dX8_count_167 : decode cX8_count 167 = .ok (.aload_n 0, 1) := by decide +kernel
theorem dX8_count_168 : decode cX8_count 168 = .ok (.getfield 54, 3) := by decide +kernel
theorem dX8_count_171 : decode cX8_count 171 = .ok (.getfield 137, 3) := by decide +kernel
theorem dX8_count_174 : decode cX8_count 174 = .ok (.i2l, 1) := by decide +kernel
theorem dX8_count_175 : decode cX8_count 175 = .ok (.lreturn, 1) := by decide +kernel
theorem dX8_count_176 : decode cX8_count 176 = .ok (.aload_n 0, 1) := by decide +kernel
theorem dX8_count_177 : decode cX8_count 177 = .ok (.getfield 61, 3) := by decide +kernel
theorem dX8_count_180 : decode cX8_count 180 = .ok (.getfield 250, 3) := by decide +kernel
theorem dX8_count_183 : decode cX8_count 183 = .ok (.lreturn, 1) := by decide +kernel
theorem dX8_count_184 : decode cX8_count 184 = .ok (.aload_n 0, 1) := by decide +kernel
theorem dX8_count_185 : decode cX8_count 185 = .ok (.getfield 10, 3) := by decide +kernel
theorem dX8_count_188 : decode cX8_count 188 = .ok (.getfield 72, 3) := by decide +kernel
theorem dX8_count_191 : decode cX8_count 191 = .ok (.i2l, 1) := by decide +kernel
theorem dX8_count_192 : decode cX8_count 192 = .ok (.lreturn, 1) := by decide +kernel
theorem dX8_count_193 : decode cX8_count 193 = .ok (.aload_n 0, 1) := by decide +kernel
theorem dX8_count_194 : decode cX8_count 194 = .ok (.getfield 26, 3) := by decide +kernel
theorem dX8_count_197 : decode cX8_count 197 = .ok (.getfield 254, 3) := by decide +kernel
theorem dX8_count_200 : decode cX8_count 200 = .ok (.lreturn, 1) := by decide +kernel
theorem dX8_count_201 : decode cX8_count 201 = .ok (.ldc2_w 207, 3) := by decide +kernel
theorem dX8_count_204 : decode cX8_count 204 = .ok (.lreturn, 1) := by decide +kernel
theorem dX8_beginNextYear_0 : decode cX8_beginNextYear 0 = .ok (.aload_n 0, 1) := by decide +kernel
theorem dX8_beginNextYear_1 : decode cX8_beginNextYear 1 = .ok (.getfield 40, 3) := by decide +kernel
theorem dX8_beginNextYear_4 : decode cX8_beginNextYear 4 = .ok (.aload_n 0, 1) := by decide +kernel
theorem dX8_beginNextYear_5 : decode cX8_beginNextYear 5 = .ok (.getfield 69, 3) := by decide +kernel
theorem dX8_beginNextYear_8 : decode cX8_beginNextYear 8 = .ok (.aload_n 0, 1) := by decide +kernel
theorem dX8_beginNextYear_9 : decode cX8_beginNextYear 9 = .ok (.getfield 47, 3) := by decide +kernel
theorem dX8_beginNextYear_12 : decode cX8_beginNextYear 12 = .ok (.invokevirtual 257, 3) := by decide +kernel
theorem dX8_beginNextYear_15 : decode cX8_beginNextYear 15 = .ok (.aload_n 0, 1) := by decide +kernel
theorem dX8_beginNextYear_16 : decode cX8_beginNextYear 16 = .ok (.getfield 54, 3) := by decide +kernel
theorem dX8_beginNextYear_19 : decode cX8_beginNextYear 19 = .ok (.invokevirtual 261, 3) := by decide +kernel
theorem dX8_beginNextYear_22 : decode cX8_beginNextYear 22 = .ok (.aload_n 0, 1) := by decide +kernel
theorem dX8_beginNextYear_23 : decode cX8_beginNextYear 23 = .ok (.getfield 26, 3) := by decide +kernel
theorem dX8_beginNextYear_26 : decode cX8_beginNextYear 26 = .ok (.iconst 0, 1) := by decide +kernel
theorem dX8_beginNextYear_27 : decode cX8_beginNextYear 27 = .ok (.putfield 243, 3) := by decide +kernel
theorem dX8_beginNextYear_30 : decode cX8_beginNextYear 30 = .ok (.aload_n 0, 1) := by decide +kernel
theorem dX8_beginNextYear_31 : decode cX8_beginNextYear 31 = .ok (.iconst 0, 1) := by decide +kernel
theorem dX8_beginNextYear_32 : decode cX8_beginNextYear 32 = .ok (.putfield 69, 3) := by decide +kernel
theorem dX8_beginNextYear_35 : decode cX8_beginNextYear 35 = .ok (.aload_n 0, 1) := by decide +kernel
theorem dX8_beginNextYear_36 : decode cX8_beginNextYear 36 = .ok (.dup, 1) := by decide +kernel
theorem dX8_beginNextYear_37 : decode cX8_beginNextYear 37 = .ok (.getfield 65, 3) := by decide +kernel
theorem dX8_beginNextYear_40 : decode cX8_beginNextYear 40 = .ok (.iconst 1, 1) := by decide +kernel
theorem dX8_beginNextYear_41 : decode cX8_beginNextYear 41 = .ok (.iadd, 1) := by decide +kernel
theorem dX8_beginNextYear_42 : decode cX8_beginNextYear 42 = .ok (.putfield 65, 3) := by decide +kernel
theorem dX8_beginNextYear_45 : decode cX8_beginNextYear 45 = .ok (.return_, 1) := by decide +kernel
theorem dX8_within_0 : decode cX8_within 0 = .ok (.iload_n 0, 1) := by decide +kernel
theorem dX8_within_1 : decode cX8_within 1 = .ok (.iload_n 1, 1) := by decide +kernel
theorem dX8_within_2 : decode cX8_within 2 = .ok (.if_icmp .lt 12, 3) := by decide +kernel
theorem dX8_within_5 : decode cX8_within 5 = .ok (.iload_n 0, 1) := by decide +kernel
theorem dX8_within_6 : decode cX8_within 6 = .ok (.iload_n 2, 1) := by decide +kernel
theorem dX8_within_7 : decode cX8_within 7 = .ok (.if_icmp .gt 7, 3) := by decide +kernel
theorem dX8_within_10 : decode cX8_within 10 = .ok (.iconst 1, 1) := by decide +kernel
theorem dX8_within_11 : decode cX8_within 11 = .ok (.goto 4, 3) := by decide +kernel
theorem dX8_within_14 : decode cX8_within 14 = .ok (.iconst 0, 1) := by decide +kernel
theorem dX8_within_15 : decode cX8_within 15 = .ok (.ireturn, 1) := by decide +kernel
theorem dX8_isOwner_0 : decode cX8_isOwner 0 = .ok (.iload_n 0, 1) := by decide +kernel
theorem dX8_isOwner_1 : decode cX8_isOwner 1 = .ok (.iconst 0, 1) := by decide +kernel
theorem dX8_isOwner_2 : decode cX8_isOwner 2 = .ok (.bipush 11, 2) := by decide +kernel
theorem dX8_isOwner_4 : decode cX8_isOwner 4 = .ok (.invokestatic 79, 3) := by decide +kernel
theorem dX8_isOwner_7 : decode cX8_isOwner 7 = .ok (.ireturn, 1) := by decide +kernel
theorem dX8_isWarmth_0 : decode cX8_isWarmth 0 = .ok (.iload_n 0, 1) := by decide +kernel
theorem dX8_isWarmth_1 : decode cX8_isWarmth 1 = .ok (.bipush (-30), 2) := by decide +kernel
theorem dX8_isWarmth_3 : decode cX8_isWarmth 3 = .ok (.bipush 40, 2) := by decide +kernel
theorem dX8_isWarmth_5 : decode cX8_isWarmth 5 = .ok (.invokestatic 79, 3) := by decide +kernel
theorem dX8_isWarmth_8 : decode cX8_isWarmth 8 = .ok (.ireturn, 1) := by decide +kernel
end
section
theorem dX9_init_0 : decode cX9_init 0 = .ok (.aload_n 0, 1) := by decide +kernel
theorem dX9_init_1 : decode cX9_init 1 = .ok (.invokespecial 1, 3) := by decide +kernel
theorem dX9_init_4 : decode cX9_init 4 = .ok (.aload_n 0, 1) := by decide +kernel
theorem dX9_init_5 : decode cX9_init 5 = .ok (.bipush 40, 2) := by decide +kernel
theorem dX9_init_7 : decode cX9_init 7 = .ok (.newarray .byte, 2) := by decide +kernel
theorem dX9_init_9 : decode cX9_init 9 = .ok (.putfield 7, 3) := by decide +kernel
theorem dX9_init_12 : decode cX9_init 12 = .ok (.aload_n 0, 1) := by decide +kernel
theorem dX9_init_13 : decode cX9_init 13 = .ok (.iconst 5, 1) := by decide +kernel
theorem dX9_init_14 : decode cX9_init 14 = .ok (.putfield 13, 3) := by decide +kernel
theorem dX9_init_17 : decode cX9_init 17 = .ok (.aload_n 0, 1) := by decide +kernel
theorem dX9_init_18 : decode cX9_init 18 = .ok (.sipush 500, 3) := by decide +kernel
theorem dX9_init_21 : decode cX9_init 21 = .ok (.putfield 17, 3) := by decide +kernel
theorem dX9_init_24 : decode cX9_init 24 = .ok (.aload_n 0, 1) := by decide +kernel
theorem dX9_init_25 : decode cX9_init 25 = .ok (.bipush 40, 2) := by decide +kernel
theorem dX9_init_27 : decode cX9_init 27 = .ok (.putfield 20, 3) := by decide +kernel
theorem dX9_init_30 : decode cX9_init 30 = .ok (.aload_n 0, 1) := by decide +kernel
theorem dX9_init_31 : decode cX9_init 31 = .ok (.bipush 90, 2) := by decide +kernel
theorem dX9_init_33 : decode cX9_init 33 = .ok (.putfield 23, 3) := by decide +kernel
theorem dX9_init_36 : decode cX9_init 36 = .ok (.aload_n 0, 1) := by decide +kernel
theorem dX9_init_37 : decode cX9_init 37 = .ok (.iconst 4, 1) := by decide +kernel
theorem dX9_init_38 : decode cX9_init 38 = .ok (.newarray .int, 2) := by decide +kernel
theorem dX9_init_40 : decode cX9_init 40 = .ok (.putfield 26, 3) := by decide +kernel
theorem dX9_init_43 : decode cX9_init 43 = .ok (.aload_n 0, 1) := by decide +kernel
theorem dX9_init_44 : decode cX9_init 44 = .ok (.iconst 1, 1) := by decide +kernel
theorem dX9_init_45 : decode cX9_init 45 = .ok (.putfield 30, 3) := by decide +kernel
theorem dX9_init_48 : decode cX9_init 48 = .ok (.aload_n 0, 1) := by decide +kernel
theorem dX9_init_49 : decode cX9_init 49 = .ok (.iconst (-1), 1) := by decide +kernel
theorem dX9_init_50 : decode cX9_init 50 = .ok (.putfield 33, 3) := by decide +kernel
theorem dX9_init_53 : decode cX9_init 53 = .ok (.aload_n 0, 1) := by decide +kernel
theorem dX9_init_54 : decode cX9_init 54 = .ok (.iconst 1, 1) := by decide +kernel
theorem dX9_init_55 : decode cX9_init 55 = .ok (.putfield 36, 3) := by decide +kernel
theorem dX9_init_58 : decode cX9_init 58 = .ok (.aload_n 0, 1) := by decide +kernel
theorem dX9_init_59 : decode cX9_init 59 = .ok (.bipush 6, 2) := by decide +kernel
theorem dX9_init_61 : decode cX9_init 61 = .ok (.newarray .int, 2) := by decide +kernel
theorem dX9_init_63 : decode cX9_init 63 = .ok (.putfield 39, 3) := by decide +kernel
theorem dX9_init_66 : decode cX9_init 66 = .ok (.aload_n 0, 1) := by decide +kernel
theorem dX9_init_67 : decode cX9_init 67 = .ok (.bipush 6, 2) := by decide +kernel
theorem dX9_init_69 : decode cX9_init 69 = .ok (.newarray .int, 2) := by decide +kernel
theorem dX9_init_71 : decode cX9_init 71 = .ok (.putfield 42, 3) := by decide +kernel
theorem dX9_init_74 : decode cX9_init 74 = .ok (.aload_n 0, 1) := by decide +kernel
theorem dX9_init_75 : decode cX9_init 75 = .ok (.bipush 6, 2) := by decide +kernel
theorem dX9_init_77 : decode cX9_init 77 = .ok (.newarray .int, 2) := by decide +kernel
theorem dX9_init_79 : decode cX9_init 79 = .ok (.putfield 45, 3) := by decide +kernel
theorem dX9_init_82 : decode cX9_init 82 = .ok (.aload_n 0, 1) := by decide +kernel
theorem dX9_init_83 : decode cX9_init 83 = .ok (.bipush 6, 2) := by decide +kernel
theorem dX9_init_85 : decode cX9_init 85 = .ok (.newarray .int, 2) := by decide +kernel
theorem dX9_init_87 : decode cX9_init 87 = .ok (.putfield 48, 3) := by decide +kernel
theorem dX9_init_90 : decode cX9_init 90 = .ok (.aload_n 0, 1) := by decide +kernel
theorem dX9_init_91 : decode cX9_init 91 = .ok (.bipush 8, 2) := by decide +kernel
theorem dX9_init_93 : decode cX9_init 93 = .ok (.newarray .int, 2) := by decide +kernel
theorem dX9_init_95 : decode cX9_init 95 = .ok (.putfield 51, 3) := by decide +kernel
theorem dX9_init_98 : decode cX9_init 98 = .ok (.aload_n 0, 1) := by decide +kernel
theorem dX9_init_99 : decode cX9_init 99 = .ok (.bipush 8, 2) := by decide +kernel
theorem dX9_init_101 : decode cX9_init 101 = .ok (.newarray .int, 2) := by decide +kernel
theorem dX9_init_103 : decode cX9_init 103 = .ok (.putfield 54, 3) := by decide +kernel
theorem dX9_init_106 : decode cX9_init 106 = .ok (.aload_n 0, 1) := by decide +kernel
theorem dX9_init_107 : decode cX9_init 107 = .ok (.iconst (-1), 1) := by decide +kernel
theorem dX9_init_108 : decode cX9_init 108 = .ok (.putfield 57, 3) := by decide +kernel
theorem dX9_init_111 : decode cX9_init 111 = .ok (.aload_n 0, 1) := by decide +kernel
theorem dX9_init_112 : decode cX9_init 112 = .ok (.bipush 80, 2) := by decide +kernel
theorem dX9_init_114 : decode cX9_init 114 = .ok (.newarray .int, 2) := by decide +kernel
theorem dX9_init_116 : decode cX9_init 116 = .ok (.putfield 60, 3) := by decide +kernel
theorem dX9_init_119 : decode cX9_init 119 = .ok (.aload_n 0, 1) := by decide +kernel
theorem dX9_init_120 : decode cX9_init 120 = .ok (.bipush 80, 2) := by decide +kernel
theorem dX9_init_122 : decode cX9_init 122 = .ok (.newarray .int, 2) := by decide +kernel
theorem dX9_init_124 : decode cX9_init 124 = .ok (.putfield 63, 3) := by decide +kernel
theorem dX9_init_127 : decode cX9_init 127 = .ok (.aload_n 0, 1) := by decide +kernel
theorem dX9_init_128 : decode cX9_init 128 = .ok (.bipush 80, 2) := by decide +kernel
theorem dX9_init_130 : decode cX9_init 130 = .ok (.newarray .boolean, 2) := by decide +kernel
theorem dX9_init_132 : decode cX9_init 132 = .ok (.putfield 66, 3) := by decide +kernel
theorem dX9_init_135 : decode cX9_init 135 = .ok (.aload_n 0, 1) := by decide +kernel
theorem dX9_init_136 : decode cX9_init 136 = .ok (.bipush 100, 2) := by decide +kernel
theorem dX9_init_138 : decode cX9_init 138 = .ok (.newarray .int, 2) := by decide +kernel
theorem dX9_init_140 : decode cX9_init 140 = .ok (.putfield 70, 3) := by decide +kernel
theorem dX9_init_143 : decode cX9_init 143 = .ok (.aload_n 0, 1) := by decide +kernel
theorem dX9_init_144 : decode cX9_init 144 = .ok (.bipush 100, 2) := by decide +kernel
theorem dX9_init_146 : decode cX9_init 146 = .ok (.newarray .int, 2) := by decide +kernel
theorem dX9_init_148 : decode cX9_init 148 = .ok (.putfield 73, 3) := by decide +kernel
theorem dX9_init_151 : decode cX9_init 151 = .ok (.aload_n 0, 1) := by decide +kernel
theorem dX9_init_152 : decode cX9_init 152 = .ok (.bipush 100, 2) := by decide +kernel
theorem dX9_init_154 : decode cX9_init 154 = .ok (.newarray .int, 2) := by decide +kernel
theorem dX9_init_156 : decode cX9_init 156 = .ok (.putfield 76, 3) := by decide +kernel
theorem dX9_init_159 : decode cX9_init 159 = .ok (.aload_n 0, 1) := by decide +kernel
theorem dX9_init_160 : decode cX9_init 160 = .ok (.bipush 100, 2) := by decide +kernel
theorem dX9_init_162 : decode cX9_init 162 = .ok (.newarray .int, 2) := by decide +kernel
theorem dX9_init_164 : decode cX9_init 164 = .ok (.putfield 79, 3) := by decide +kernel
theorem dX9_init_167 : decode cX9_init 167 = .ok (.aload_n 0, 1) := by decide +kernel
theorem dX9_init_168 : decode cX9_init 168 = .ok (.bipush 12, 2) := by decide +kernel
theorem dX9_init_170 : decode cX9_init 170 = .ok (.newarray .int, 2) := by decide +kernel
theorem dX9_init_172 : decode cX9_init 172 = .ok (.putfield 82, 3) := by decide +kernel
theorem dX9_init_175 : decode cX9_init 175 = .ok (.aload_n 0, 1) := by decide +kernel
theorem dX9_init_176 : decode cX9_init 176 = .ok (.bipush 12, 2) := by decide +kernel
theorem dX9_init_178 : decode cX9_init 178 = .ok (.newarray .int, 2) := by decide +kernel
theorem dX9_init_180 : decode cX9_init 180 = .ok (.putfield 85, 3) := by decide +kernel
theorem dX9_init_183 : decode cX9_init 183 = .ok (.aload_n 0, 1) := by decide +kernel
theorem dX9_init_184 : decode cX9_init 184 = .ok (.bipush 12, 2) := by decide +kernel
theorem dX9_init_186 : decode cX9_init 186 = .ok (.newarray .int, 2) := by decide +kernel
theorem dX9_init_188 : decode cX9_init 188 = .ok (.putfield 88, 3) := by decide +kernel
theorem dX9_init_191 : decode cX9_init 191 = .ok (.aload_n 0, 1) := by decide +kernel
theorem dX9_init_192 : decode cX9_init 192 = .ok (.bipush 12, 2) := by decide +kernel
theorem dX9_init_194 : decode cX9_init 194 = .ok (.newarray .int, 2) := by decide +kernel
theorem dX9_init_196 : decode cX9_init 196 = .ok (.putfield 91, 3) := by decide +kernel
theorem dX9_init_199 : decode cX9_init 199 = .ok (.aload_n 0, 1) := by decide +kernel
theorem dX9_init_200 : decode cX9_init 200 = .ok (.bipush 12, 2) := by decide +kernel
theorem dX9_init_202 : decode cX9_init 202 = .ok (.newarray .int, 2) := by decide +kernel
theorem dX9_init_204 : decode cX9_init 204 = .ok (.putfield 94, 3) := by decide +kernel
theorem dX9_init_207 : decode cX9_init 207 = .ok (.aload_n 0, 1) := by decide +kernel
theorem dX9_init_208 : decode cX9_init 208 = .ok (.bipush 12, 2) := by decide +kernel
theorem dX9_init_210 : decode cX9_init 210 = .ok (.newarray .long, 2) := by decide +kernel
theorem dX9_init_212 : decode cX9_init 212 = .ok (.putfield 97, 3) := by decide +kernel
theorem dX9_init_215 : decode cX9_init 215 = .ok (.aload_n 0, 1) := by decide +kernel
theorem dX9_init_216 : decode cX9_init 216 = .ok (.bipush 12, 2) := by decide +kernel
theorem dX9_init_218 : decode cX9_init 218 = .ok (.newarray .long, 2) := by decide +kernel
theorem dX9_init_220 : decode cX9_init 220 = .ok (.putfield 101, 3) := by decide +kernel
theorem dX9_init_223 : decode cX9_init 223 = .ok (.iconst 0, 1) := by decide +kernel
theorem dX9_init_224 : decode cX9_init 224 = .ok (.istore_n 1, 1) := by decide +kernel
theorem dX9_init_225 : decode cX9_init 225 = .ok (.iload_n 1, 1) := by decide +kernel
theorem dX9_init_226 : decode cX9_init 226 = .ok (.bipush 12, 2) := by decide +kernel
theorem dX9_init_228 : decode cX9_init 228 = .ok (.if_icmp .ge 16, 3) := by decide +kernel
theorem dX9_init_231 : decode cX9_init 231 = .ok (.aload_n 0, 1) := by decide +kernel
theorem dX9_init_232 : decode cX9_init 232 = .ok (.getfield 88, 3) := by decide +kernel
theorem dX9_init_235 : decode cX9_init 235 = .ok (.iload_n 1, 1) := by decide +kernel
theorem dX9_init_236 : decode cX9_init 236 = .ok (.iload_n 1, 1) := by decide +kernel
theorem dX9_init_237 : decode cX9_init 237 = .ok (.iastore, 1) := by decide +kernel
theorem dX9_init_238 : decode cX9_init 238 = .ok (.iinc 1 1, 3) := by decide +kernel
theorem dX9_init_241 : decode cX9_init 241 = .ok (.goto (-16), 3) := by decide +kernel
theorem dX9_init_244 : decode cX9_init 244 = .ok (.aload_n 0, 1) := by decide +kernel
theorem dX9_init_245 : decode cX9_init 245 = .ok (.getfield 42, 3) := by decide +kernel
theorem dX9_init_248 : decode cX9_init 248 = .ok (.iconst 0, 1) := by decide +kernel
theorem dX9_init_249 : decode cX9_init 249 = .ok (.iconst 1, 1) := by decide +kernel
theorem dX9_init_250 : decode cX9_init 250 = .ok (.iastore, 1) := by decide +kernel
theorem dX9_init_251 : decode cX9_init 251 = .ok (.return_, 1) := by decide +kernel
theorem dX9_types_0 : decode cX9_types 0 = .ok (.iconst 3, 1) := by decide +kernel
theorem dX9_types_1 : decode cX9_types 1 = .ok (.istore_n 2, 1) := by decide +kernel
theorem dX9_types_2 : decode cX9_types 2 = .ok (.iload_n 2, 1) := by decide +kernel
theorem dX9_types_3 : decode cX9_types 3 = .ok (.ifCond .lt 35, 3) := by decide +kernel
theorem dX9_types_6 : decode cX9_types 6 = .ok (.aload_n 0, 1) := by decide +kernel
theorem dX9_types_7 : decode cX9_types 7 = .ok (.getfield 7, 3) := by decide +kernel
theorem dX9_types_10 : decode cX9_types 10 = .ok (.aload_n 0, 1) := by decide +kernel
theorem dX9_types_11 : decode cX9_types 11 = .ok (.getfield 104, 3) := by decide +kernel
theorem dX9_types_14 : decode cX9_types 14 = .ok (.iload_n 1, 1) := by decide +kernel
theorem dX9_types_15 : decode cX9_types 15 = .ok (.bipush 8, 2) := by decide +kernel
theorem dX9_types_17 : decode cX9_types 17 = .ok (.iload_n 2, 1) := by decide +kernel
theorem dX9_types_18 : decode cX9_types 18 = .ok (.imul, 1) := by decide +kernel
theorem dX9_types_19 : decode cX9_types 19 = .ok (.ishr, 1) := by decide +kernel
theorem dX9_types_20 : decode cX9_types 20 = .ok (.i2b, 1) := by decide +kernel
theorem dX9_types_21 : decode cX9_types 21 = .ok (.bastore, 1) := by decide +kernel
theorem dX9_types_22 : decode cX9_types 22 = .ok (.aload_n 0, 1) := by decide +kernel
theorem dX9_types_23 : decode cX9_types 23 = .ok (.aload_n 0, 1) := by decide +kernel
theorem dX9_types_24 : decode cX9_types 24 = .ok (.getfield 104, 3) := by decide +kernel
theorem dX9_types_27 : decode cX9_types 27 = .ok (.iconst 1, 1) := by decide +kernel
theorem dX9_types_28 : decode cX9_types 28 = .ok (.iadd, 1) := by decide +kernel
theorem dX9_types_29 : decode cX9_types 29 = .ok (.putfield 104, 3) := by decide +kernel
theorem dX9_types_32 : decode cX9_types 32 = .ok (.iinc 2 (-1), 3) := by decide +kernel
theorem dX9_types_35 : decode cX9_types 35 = .ok (.goto (-33), 3) := by decide +kernel
theorem dX9_types_38 : decode cX9_types 38 = .ok (.return_, 1) := by decide +kernel
theorem dX9_feed_0 : decode cX9_feed 0 = .ok (.aload_n 0, 1) := by decide +kernel
theorem dX9_feed_1 : decode cX9_feed 1 = .ok (.getfield 104, 3) := by decide +kernel
theorem dX9_feed_4 : decode cX9_feed 4 = .ok (.bipush 20, 2) := by decide +kernel
theorem dX9_feed_6 : decode cX9_feed 6 = .ok (.iadd, 1) := by decide +kernel
theorem dX9_feed_7 : decode cX9_feed 7 = .ok (.bipush 40, 2) := by decide +kernel
theorem dX9_feed_9 : decode cX9_feed 9 = .ok (.if_icmp .le 5, 3) := by decide +kernel
theorem dX9_feed_12 : decode cX9_feed 12 = .ok (.iconst (-1), 1) := by decide +kernel
theorem dX9_feed_13 : decode cX9_feed 13 = .ok (.ireturn, 1) := by decide +kernel
theorem dX9_feed_14 : decode cX9_feed 14 = .ok (.aload_n 0, 1) := by decide +kernel
theorem dX9_feed_15 : decode cX9_feed 15 = .ok (.iload_n 1, 1) := by decide +kernel
theorem dX9_feed_16 : decode cX9_feed 16 = .ok (.invokevirtual 107, 3) := by decide +kernel
theorem dX9_feed_19 : decode cX9_feed 19 = .ok (.aload_n 0, 1) := by decide +kernel
theorem dX9_feed_20 : decode cX9_feed 20 = .ok (.iload_n 2, 1) := by decide +kernel
theorem dX9_feed_21 : decode cX9_feed 21 = .ok (.invokevirtual 107, 3) := by decide +kernel
theorem dX9_feed_24 : decode cX9_feed 24 = .ok (.aload_n 0, 1) := by decide +kernel
theorem dX9_feed_25 : decode cX9_feed 25 = .ok (.iload_n 3, 1) := by decide +kernel
theorem dX9_feed_26 : decode cX9_feed 26 = .ok (.invokevirtual 107, 3) := by decide +kernel
theorem dX9_feed_29 : decode cX9_feed 29 = .ok (.aload_n 0, 1) := by decide +kernel
theorem dX9_feed_30 : decode cX9_feed 30 = .ok (.iload 4, 2) := by decide +kernel
theorem dX9_feed_32 : decode cX9_feed 32 = .ok (.invokevirtual 107, 3) := by decide +kernel
theorem dX9_feed_35 : decode cX9_feed 35 = .ok (.aload_n 0, 1) := by decide +kernel
theorem dX9_feed_36 : decode cX9_feed 36 = .ok (.iload 5, 2) := by decide +kernel
theorem dX9_feed_38 : decode cX9_feed 38 = .ok (.invokevirtual 107, 3) := by decide +kernel
theorem dX9_feed_41 : decode cX9_feed 41 = .ok (.aload_n 0, 1) := by decide +kernel
theorem dX9_feed_42 : decode cX9_feed 42 = .ok (.getfield 104, 3) := by decide +kernel
theorem dX9_feed_45 : decode cX9_feed 45 = .ok (.ireturn, 1) := by decide +kernel
theorem dX9_letterOf_0 : decode cX9_letterOf 0 = .ok (.iload_n 0, 1) := by decide +kernel
theorem dX9_letterOf_1 : decode cX9_letterOf 1 = .ok (.bipush 108, 2) := by decide +kernel
theorem dX9_letterOf_3 : decode cX9_letterOf 3 = .ok (.if_icmp .ne 7, 3) := by decide +kernel
theorem dX9_letterOf_6 : decode cX9_letterOf 6 = .ok (.iconst 0, 1) := by decide +kernel
theorem dX9_letterOf_7 : decode cX9_letterOf 7 = .ok (.goto 34, 3) := by decide +kernel
theorem dX9_letterOf_10 : decode cX9_letterOf 10 = .ok (.iload_n 0, 1) := by decide +kernel
theorem dX9_letterOf_11 : decode cX9_letterOf 11 = .ok (.bipush 109, 2) := by decide +kernel
theorem dX9_letterOf_13 : decode cX9_letterOf 13 = .ok (.if_icmp .ne 7, 3) := by decide +kernel
theorem dX9_letterOf_16 : decode cX9_letterOf 16 = .ok (.iconst 1, 1) := by decide +kernel
theorem dX9_letterOf_17 : decode cX9_letterOf 17 = .ok (.goto 24, 3) := by decide +kernel
theorem dX9_letterOf_20 : decode cX9_letterOf 20 = .ok (.iload_n 0, 1) := by decide +kernel
theorem dX9_letterOf_21 : decode cX9_letterOf 21 = .ok (.bipush 119, 2) := by decide +kernel
theorem dX9_letterOf_23 : decode cX9_letterOf 23 = .ok (.if_icmp .ne 7, 3) := by decide +kernel
theorem dX9_letterOf_26 : decode cX9_letterOf 26 = .ok (.iconst 2, 1) := by decide +kernel
theorem dX9_letterOf_27 : decode cX9_letterOf 27 = .ok (.goto 14, 3) := by decide +kernel
theorem dX9_letterOf_30 : decode cX9_letterOf 30 = .ok (.iload_n 0, 1) := by decide +kernel
theorem dX9_letterOf_31 : decode cX9_letterOf 31 = .ok (.bipush 118, 2) := by decide +kernel
theorem dX9_letterOf_33 : decode cX9_letterOf 33 = .ok (.if_icmp .ne 7, 3) := by decide +kernel
theorem dX9_letterOf_36 : decode cX9_letterOf 36 = .ok (.iconst 3, 1) := by decide +kernel
theorem dX9_letterOf_37 : decode cX9_letterOf 37 = .ok (.goto 4, 3) := by decide +kernel
theorem dX9_letterOf_40 : decode cX9_letterOf 40 = .ok (.iconst (-1), 1) := by decide +kernel
theorem dX9_letterOf_41 : decode cX9_letterOf 41 = .ok (.ireturn, 1) := by decide +kernel
theorem dX9_isDigit_0 : decode cX9_isDigit 0 = .ok (.iload_n 1, 1) := by decide +kernel
theorem dX9_isDigit_1 : decode cX9_isDigit 1 = .ok (.iload_n 2, 1) := by decide +kernel
theorem dX9_isDigit_2 : decode cX9_isDigit 2 = .ok (.if_icmp .ge 29, 3) := by decide +kernel
theorem dX9_isDigit_5 : decode cX9_isDigit 5 = .ok (.aload_n 0, 1) := by decide +kernel
theorem dX9_isDigit_6 : decode cX9_isDigit 6 = .ok (.getfield 7, 3) := by decide +kernel
theorem dX9_isDigit_9 : decode cX9_isDigit 9 = .ok (.iload_n 1, 1) := by decide +kernel
theorem dX9_isDigit_10 : decode cX9_isDigit 10 = .ok (.baload, 1) := by decide +kernel
theorem dX9_isDigit_11 : decode cX9_isDigit 11 = .ok (.bipush 48, 2) := by decide +kernel
theorem dX9_isDigit_13 : decode cX9_isDigit 13 = .ok (.if_icmp .lt 18, 3) := by decide +kernel
theorem dX9_isDigit_16 : decode cX9_isDigit 16 = .ok (.aload_n 0, 1) := by decide +kernel
theorem dX9_isDigit_17 : decode cX9_isDigit 17 = .ok (.getfield 7, 3) := by decide +kernel
theorem dX9_isDigit_20 : decode cX9_isDigit 20 = .ok (.iload_n 1, 1) := by decide +kernel
theorem dX9_isDigit_21 : decode cX9_isDigit 21 = .ok (.baload, 1) := by decide +kernel
theorem dX9_isDigit_22 : decode cX9_isDigit 22 = .ok (.bipush 57, 2) := by decide +kernel
theorem dX9_isDigit_24 : decode cX9_isDigit 24 = .ok (.if_icmp .gt 7, 3) := by decide +kernel
theorem dX9_isDigit_27 : decode cX9_isDigit 27 = .ok (.iconst 1, 1) := by decide +kernel
theorem dX9_isDigit_28 : decode cX9_isDigit 28 = .ok (.goto 4, 3) := by decide +kernel
theorem dX9_isDigit_31 : decode cX9_isDigit 31 = .ok (.iconst 0, 1) := by decide +kernel
theorem dX9_isDigit_32 : decode cX9_isDigit 32 = .ok (.ireturn, 1) := by decide +kernel
theorem dX9_parse_0 : decode cX9_parse 0 = .ok (.iconst 0, 1) := by decide +kernel
theorem dX9_parse_1 : decode cX9_parse 1 = .ok (.istore_n 2, 1) := by decide +kernel
theorem dX9_parse_2 : decode cX9_parse 2 = .ok (.iload_n 2, 1) := by decide +kernel
theorem dX9_parse_3 : decode cX9_parse 3 = .ok (.iload_n 1, 1) := by decide +kernel
theorem dX9_parse_4 : decode cX9_parse 4 = .ok (.if_icmp .ge 15, 3) := by decide +kernel
theorem dX9_parse_7 : decode cX9_parse 7 = .ok (.aload_n 0, 1) := by decide +kernel
theorem dX9_parse_8 : decode cX9_parse 8 = .ok (.getfield 7, 3) := by decide +kernel
theorem dX9_parse_11 : decode cX9_parse 11 = .ok (.iload_n 2, 1) := by decide +kernel
theorem dX9_parse_12 : decode cX9_parse 12 = .ok (.baload, 1) := by decide +kernel
theorem dX9_parse_13 : decode cX9_parse 13 = .ok (.invokestatic 111, 3) := by decide +kernel
theorem dX9_parse_16 : decode cX9_parse 16 = .ok (.goto 4, 3) := by decide +kernel
theorem dX9_parse_19 : decode cX9_parse 19 = .ok (.iconst (-1), 1) := by decide +kernel
theorem dX9_parse_20 : decode cX9_parse 20 = .ok (.istore_n 3, 1) := by decide +kernel
theorem dX9_parse_21 : decode cX9_parse 21 = .ok (.iload_n 3, 1) := by decide +kernel
theorem dX9_parse_22 : decode cX9_parse 22 = .ok (.iconst (-1), 1) := by decide +kernel
theorem dX9_parse_23 : decode cX9_parse 23 = .ok (.if_icmp .ne 8, 3) := by decide +kernel
theorem dX9_parse_26 : decode cX9_parse 26 = .ok (.bipush 100, 2) := by decide +kernel
theorem dX9_parse_28 : decode cX9_parse 28 = .ok (.iload_n 2, 1) := by decide +kernel
theorem dX9_parse_29 : decode cX9_parse 29 = .ok (.iadd, 1) := by decide +kernel
theorem dX9_parse_30 : decode cX9_parse 30 = .ok (.ireturn, 1) := by decide +kernel
theorem dX9_parse_31 : decode cX9_parse 31 = .ok (.iload_n 2, 1) := by decide +kernel
theorem dX9_parse_32 : decode cX9_parse 32 = .ok (.iconst 1, 1) := by decide +kernel
theorem dX9_parse_33 : decode cX9_parse 33 = .ok (.iadd, 1) := by decide +kernel
theorem dX9_parse_34 : decode cX9_parse 34 = .ok (.istore_n 2, 1) := by decide +kernel
theorem dX9_parse_35 : decode cX9_parse 35 = .ok (.aload_n 0, 1) := by decide +kernel
theorem dX9_parse_36 : decode cX9_parse 36 = .ok (.iload_n 2, 1) := by decide +kernel
theorem dX9_parse_37 : decode cX9_parse 37 = .ok (.iload_n 1, 1) := by decide +kernel
theorem dX9_parse_38 : decode cX9_parse 38 = .ok (.invokevirtual 115, 3) := by decide +kernel
theorem dX9_parse_41 : decode cX9_parse 41 = .ok (.ifCond .ne 9, 3) := by decide +kernel
theorem dX9_parse_44 : decode cX9_parse 44 = .ok (.sipush 200, 3) := by decide +kernel
theorem dX9_parse_47 : decode cX9_parse 47 = .ok (.iload_n 2, 1) := by decide +kernel
theorem dX9_parse_48 : decode cX9_parse 48 = .ok (.iadd, 1) := by decide +kernel
theorem dX9_parse_49 : decode cX9_parse 49 = .ok (.ireturn, 1) := by decide +kernel
theorem dX9_parse_50 : decode cX9_parse 50 = .ok (.iconst 0, 1) := by decide +kernel
theorem dX9_parse_51 : decode cX9_parse 51 = .ok (.istore 4, 2) := by decide +kernel
theorem dX9_parse_53 : decode cX9_parse 53 = .ok (.iconst 0, 1) := by decide +kernel
theorem dX9_parse_54 : decode cX9_parse 54 = .ok (.istore 5, 2) := by decide +kernel
theorem dX9_parse_56 : decode cX9_parse 56 = .ok (.aload_n 0, 1) := by decide +kernel
theorem dX9_parse_57 : decode cX9_parse 57 = .ok (.iload_n 2, 1) := by decide +kernel
theorem dX9_parse_58 : decode cX9_parse 58 = .ok (.iload_n 1, 1) := by decide +kernel
theorem dX9_parse_59 : decode cX9_parse 59 = .ok (.invokevirtual 115, 3) := by decide +kernel
theorem dX9_parse_62 : decode cX9_parse 62 = .ok (.ifCond .eq 45, 3) := by decide +kernel
theorem dX9_parse_65 : decode cX9_parse 65 = .ok (.iload 5, 2) := by decide +kernel
theorem dX9_parse_67 : decode cX9_parse 67 = .ok (.iconst 4, 1) := by decide +kernel
theorem dX9_parse_68 : decode cX9_parse 68 = .ok (.if_icmp .ne 9, 3) := by decide +kernel
theorem dX9_parse_71 : decode cX9_parse 71 = .ok (.sipush 300, 3) := by decide +kernel
theorem dX9_parse_74 : decode cX9_parse 74 = .ok (.iload_n 2, 1) := by decide +kernel
theorem dX9_parse_75 : decode cX9_parse 75 = .ok (.iadd, 1) := by decide +kernel
theorem dX9_parse_76 : decode cX9_parse 76 = .ok (.ireturn, 1) := by decide +kernel
theorem dX9_parse_77 : decode cX9_parse 77 = .ok (.bipush 10, 2) := by decide +kernel
theorem dX9_parse_79 : decode cX9_parse 79 = .ok (.iload 4, 2) := by decide +kernel
theorem dX9_parse_81 : decode cX9_parse 81 = .ok (.imul, 1) := by decide +kernel
theorem dX9_parse_82 : decode cX9_parse 82 = .ok (.aload_n 0, 1) := by decide +kernel
theorem dX9_parse_83 : decode cX9_parse 83 = .ok (.getfield 7, 3) := by decide +kernel
theorem dX9_parse_86 : decode cX9_parse 86 = .ok (.iload_n 2, 1) := by decide +kernel
theorem dX9_parse_87 : decode cX9_parse 87 = .ok (.baload, 1) := by decide +kernel
theorem dX9_parse_88 : decode cX9_parse 88 = .ok (.iadd, 1) := by decide +kernel
theorem dX9_parse_89 : decode cX9_parse 89 = .ok (.bipush 48, 2) := by decide +kernel
theorem dX9_parse_91 : decode cX9_parse 91 = .ok (.isub, 1) := by decide +kernel
theorem dX9_parse_92 : decode cX9_parse 92 = .ok (.istore 4, 2) := by decide +kernel
theorem dX9_parse_94 : decode cX9_parse 94 = .ok (.iload 5, 2) := by decide +kernel
theorem dX9_parse_96 : decode cX9_parse 96 = .ok (.iconst 1, 1) := by decide +kernel
theorem dX9_parse_97 : decode cX9_parse 97 = .ok (.iadd, 1) := by decide +kernel
theorem dX9_parse_98 : decode cX9_parse 98 = .ok (.istore 5, 2) := by decide +kernel
theorem dX9_parse_100 : decode cX9_parse 100 = .ok (.iload_n 2, 1) := by decide +kernel
theorem dX9_parse_101 : decode cX9_parse 101 = .ok (.iconst 1, 1) := by decide +kernel
theorem dX9_parse_102 : decode cX9_parse 102 = .ok (.iadd, 1) := by decide +kernel
theorem dX9_parse_103 : decode cX9_parse 103 = .ok (.istore_n 2, 1) := by decide +kernel
theorem dX9_parse_104 : decode cX9_parse 104 = .ok (.goto (-48), 3) := by decide +kernel
theorem dX9_parse_107 : decode cX9_parse 107 = .ok (.aload_n 0, 1) := by decide +kernel
theorem dX9_parse_108 : decode cX9_parse 108 = .ok (.getfield 26, 3) := by decide +kernel
theorem dX9_parse_111 : decode cX9_parse 111 = .ok (.iload_n 3, 1) := by decide +kernel
theorem dX9_parse_112 : decode cX9_parse 112 = .ok (.iload 4, 2) := by decide +kernel
theorem dX9_parse_114 : decode cX9_parse 114 = .ok (.iastore, 1) := by decide +kernel
theorem dX9_parse_115 : decode cX9_parse 115 = .ok (.iload_n 2, 1) := by decide +kernel
theorem dX9_parse_116 : decode cX9_parse 116 = .ok (.iload_n 1, 1) := by decide +kernel
theorem dX9_parse_117 : decode cX9_parse 117 = .ok (.if_icmp .ne 5, 3) := by decide +kernel
theorem dX9_parse_120 : decode cX9_parse 120 = .ok (.iconst 0, 1) := by decide +kernel
theorem dX9_parse_121 : decode cX9_parse 121 = .ok (.ireturn, 1) := by decide +kernel
theorem dX9_parse_122 : decode cX9_parse 122 = .ok (.aload_n 0, 1) := by decide +kernel
theorem dX9_parse_123 : decode cX9_parse 123 = .ok (.getfield 7, 3) := by decide +kernel
theorem dX9_parse_126 : decode cX9_parse 126 = .ok (.iload_n 2, 1) := by decide +kernel
theorem dX9_parse_127 : decode cX9_parse 127 = .ok (.baload, 1) := by decide +kernel
theorem dX9_parse_128 : decode cX9_parse 128 = .ok (.bipush 59, 2) := by decide +kernel
theorem dX9_parse_130 : decode cX9_parse 130 = .ok (.if_icmp .eq 9, 3) := by decide +kernel
theorem dX9_parse_133 : decode cX9_parse 133 = .ok (.sipush 400, 3) := by decide +kernel
theorem dX9_parse_136 : decode cX9_parse 136 = .ok (.iload_n 2, 1) := by decide +kernel
theorem dX9_parse_137 : decode cX9_parse 137 = .ok (.iadd, 1) := by decide +kernel
theorem dX9_parse_138 : decode cX9_parse 138 = .ok (.ireturn, 1) := by decide +kernel
theorem dX9_parse_139 : decode cX9_parse 139 = .ok (.iload_n 2, 1) := by decide +kernel
theorem dX9_parse_140 : decode cX9_parse 140 = .ok (.iconst 1, 1) := by decide +kernel
theorem dX9_parse_141 : decode cX9_parse 141 = .ok (.iadd, 1) := by decide +kernel
theorem dX9_parse_142 : decode cX9_parse 142 = .ok (.istore_n 2, 1) := by decide +kernel
theorem dX9_parse_143 : decode cX9_parse 143 = .ok (.goto (-141), 3) := by decide +kernel
theorem dX9_rules_0 : decode cX9_rules 0 = .ok (.iload_n 1, 1) := by decide +kernel
theorem dX9_rules_1 : decode cX9_rules 1 = .ok (.ifCond .lt 11, 3) := by decide +kernel
theorem dX9_rules_4 : decode cX9_rules 4 = .ok (.iload_n 1, 1) := by decide +kernel
theorem dX9_rules_5 : decode cX9_rules 5 = .ok (.aload_n 0, 1) := by decide +kernel
theorem dX9_rules_6 : decode cX9_rules 6 = .ok (.getfield 104, 3) := by decide +kernel
theorem dX9_rules_9 : decode cX9_rules 9 = .ok (.if_icmp .le 5, 3) := by decide +kernel
theorem dX9_rules_12 : decode cX9_rules 12 = .ok (.iconst (-1), 1) := by decide +kernel
theorem dX9_rules_13 : decode cX9_rules 13 = .ok (.ireturn, 1) := by decide +kernel
theorem dX9_rules_14 : decode cX9_rules 14 = .ok (.aload_n 0, 1) := by decide +kernel
theorem dX9_rules_15 : decode cX9_rules 15 = .ok (.getfield 26, 3) := by decide +kernel
theorem dX9_rules_18 : decode cX9_rules 18 = .ok (.iconst 0, 1) := by decide +kernel
theorem dX9_rules_19 : decode cX9_rules 19 = .ok (.iconst 5, 1) := by decide +kernel
theorem dX9_rules_20 : decode cX9_rules 20 = .ok (.iastore, 1) := by decide +kernel
theorem dX9_rules_21 : decode cX9_rules 21 = .ok (.aload_n 0, 1) := by decide +kernel
theorem dX9_rules_22 : decode cX9_rules 22 = .ok (.getfield 26, 3) := by decide +kernel
theorem dX9_rules_25 : decode cX9_rules 25 = .ok (.iconst 1, 1) := by decide +kernel
theorem dX9_rules_26 : decode cX9_rules 26 = .ok (.sipush 500, 3) := by decide +kernel
theorem dX9_rules_29 : decode cX9_rules 29 = .ok (.iastore, 1) := by decide +kernel
theorem dX9_rules_30 : decode cX9_rules 30 = .ok (.aload_n 0, 1) := by decide +kernel
theorem dX9_rules_31 : decode cX9_rules 31 = .ok (.getfield 26, 3) := by decide +kernel
theorem dX9_rules_34 : decode cX9_rules 34 = .ok (.iconst 2, 1) := by decide +kernel
theorem dX9_rules_35 : decode cX9_rules 35 = .ok (.bipush 40, 2) := by decide +kernel
theorem dX9_rules_37 : decode cX9_rules 37 = .ok (.iastore, 1) := by decide +kernel
theorem dX9_rules_38 : decode cX9_rules 38 = .ok (.aload_n 0, 1) := by decide +kernel
theorem dX9_rules_39 : decode cX9_rules 39 = .ok (.getfield 26, 3) := by decide +kernel
theorem dX9_rules_42 : decode cX9_rules 42 = .ok (.iconst 3, 1) := by decide +kernel
theorem dX9_rules_43 : decode cX9_rules 43 = .ok (.bipush 90, 2) := by decide +kernel
theorem dX9_rules_45 : decode cX9_rules 45 = .ok (.iastore, 1) := by decide +kernel
theorem dX9_rules_46 : decode cX9_rules 46 = .ok (.aload_n 0, 1) := by decide +kernel
theorem dX9_rules_47 : decode cX9_rules 47 = .ok (.aload_n 0, 1) := by decide +kernel
theorem dX9_rules_48 : decode cX9_rules 48 = .ok (.iload_n 1, 1) := by decide +kernel
theorem dX9_rules_49 : decode cX9_rules 49 = .ok (.invokevirtual 119, 3) := by decide +kernel
theorem dX9_rules_52 : decode cX9_rules 52 = .ok (.putfield 122, 3) := by decide +kernel
theorem dX9_rules_55 : decode cX9_rules 55 = .ok (.aload_n 0, 1) := by decide +kernel
theorem dX9_rules_56 : decode cX9_rules 56 = .ok (.iconst 0, 1) := by decide +kernel
theorem dX9_rules_57 : decode cX9_rules 57 = .ok (.putfield 104, 3) := by decide +kernel
theorem dX9_rules_60 : decode cX9_rules 60 = .ok (.aload_n 0, 1) := by decide +kernel
theorem dX9_rules_61 : decode cX9_rules 61 = .ok (.getfield 122, 3) := by decide +kernel
theorem dX9_rules_64 : decode cX9_rules 64 = .ok (.ifCond .eq 8, 3) := by decide +kernel
theorem dX9_rules_67 : decode cX9_rules 67 = .ok (.aload_n 0, 1) := by decide +kernel
theorem dX9_rules_68 : decode cX9_rules 68 = .ok (.getfield 122, 3) := by decide +kernel
theorem dX9_rules_71 : decode cX9_rules 71 = .ok (.ireturn, 1) := by decide +kernel
theorem dX9_rules_72 : decode cX9_rules 72 = .ok (.aload_n 0, 1) := by decide +kernel
theorem dX9_rules_73 : decode cX9_rules 73 = .ok (.aload_n 0, 1) := by decide +kernel
theorem dX9_rules_74 : decode cX9_rules 74 = .ok (.getfield 26, 3) := by decide +kernel
theorem dX9_rules_77 : decode cX9_rules 77 = .ok (.iconst 0, 1) := by decide +kernel
theorem dX9_rules_78 : decode cX9_rules 78 = .ok (.iaload, 1) := by decide +kernel
theorem dX9_rules_79 : decode cX9_rules 79 = .ok (.putfield 13, 3) := by decide +kernel
theorem dX9_rules_82 : decode cX9_rules 82 = .ok (.aload_n 0, 1) := by decide +kernel
theorem dX9_rules_83 : decode cX9_rules 83 = .ok (.aload_n 0, 1) := by decide +kernel
theorem dX9_rules_84 : decode cX9_rules 84 = .ok (.getfield 26, 3) := by decide +kernel
theorem dX9_rules_87 : decode cX9_rules 87 = .ok (.iconst 1, 1) := by decide +kernel
theorem dX9_rules_88 : decode cX9_rules 88 = .ok (.iaload, 1) := by decide +kernel
theorem dX9_rules_89 : decode cX9_rules 89 = .ok (.putfield 17, 3) := by decide +kernel
theorem dX9_rules_92 : decode cX9_rules 92 = .ok (.aload_n 0, 1) := by decide +kernel
theorem dX9_rules_93 : decode cX9_rules 93 = .ok (.aload_n 0, 1) := by decide +kernel
theorem dX9_rules_94 : decode cX9_rules 94 = .ok (.getfield 26, 3) := by decide +kernel
theorem dX9_rules_97 : decode cX9_rules 97 = .ok (.iconst 2, 1) := by decide +kernel
theorem dX9_rules_98 : decode cX9_rules 98 = .ok (.iaload, 1) := by decide +kernel
theorem dX9_rules_99 : decode cX9_rules 99 = .ok (.putfield 20, 3) := by decide +kernel
theorem dX9_rules_102 : decode cX9_rules 102 = .ok (.aload_n 0, 1) := by decide +kernel
theorem dX9_rules_103 : decode cX9_rules 103 = .ok (.aload_n 0, 1) := by decide +kernel
theorem dX9_rules_104 : decode cX9_rules 104 = .ok (.getfield 26, 3) := by decide +kernel
theorem dX9_rules_107 : decode cX9_rules 107 = .ok (.iconst 3, 1) := by decide +kernel
theorem dX9_rules_108 : decode cX9_rules 108 = .ok (.iaload, 1) := by decide +kernel
theorem dX9_rules_109 : decode cX9_rules 109 = .ok (.putfield 23, 3) := by decide +kernel
theorem dX9_rules_112 : decode cX9_rules 112 = .ok (.iconst 0, 1) := by decide +kernel
theorem dX9_rules_113 : decode cX9_rules 113 = .ok (.ireturn, 1) := by decide +kernel
theorem dX9_rule_0 : decode cX9_rule 0 = .ok (.iload_n 1, 1) := by decide +kernel
theorem dX9_rule_1 : decode cX9_rule 1 = .ok (.tableswitch 51 0 3 #[31, 36, 41, 46], 31) := by decide +kernel
theorem dX9_rule_32 : decode cX9_rule 32 = .ok (.aload_n 0, 1) := by decide +kernel
theorem dX9_rule_33 : decode cX9_rule 33 = .ok (.getfield 13, 3) := by decide +kernel
theorem dX9_rule_36 : decode cX9_rule 36 = .ok (.ireturn, 1) := by decide +kernel
theorem dX9_rule_37 : decode cX9_rule 37 = .ok (.aload_n 0, 1) := by decide +kernel
theorem dX9_rule_38 : decode cX9_rule 38 = .ok (.getfield 17, 3) := by decide +kernel
theorem dX9_rule_41 : decode cX9_rule 41 = .ok (.ireturn, 1) := by decide +kernel
theorem dX9_rule_42 : decode cX9_rule 42 = .ok (.aload_n 0, 1) := by decide +kernel
theorem dX9_rule_43 : decode cX9_rule 43 = .ok (.getfield 20, 3) := by decide +kernel
theorem dX9_rule_46 : decode cX9_rule 46 = .ok (.ireturn, 1) := by decide +kernel
theorem dX9_rule_47 : decode cX9_rule 47 = .ok (.aload_n 0, 1) := by decide +kernel
theorem dX9_rule_48 : decode cX9_rule 48 = .ok (.getfield 23, 3) := by decide +kernel
theorem dX9_rule_51 : decode cX9_rule 51 = .ok (.ireturn, 1) := by decide +kernel
theorem dX9_rule_52 : decode cX9_rule 52 = .ok (.iconst (-1), 1) := by decide +kernel
theorem dX9_rule_53 : decode cX9_rule 53 = .ok (.ireturn, 1) := by decide +kernel
theorem dX9_alp_0 : decode cX9_alp 0 = .ok (.iload_n 1, 1) := by decide +kernel
theorem dX9_alp_1 : decode cX9_alp 1 = .ok (.iconst 1, 1) := by decide +kernel
theorem dX9_alp_2 : decode cX9_alp 2 = .ok (.if_icmp .lt 39, 3) := by decide +kernel
theorem dX9_alp_5 : decode cX9_alp 5 = .ok (.iload_n 1, 1) := by decide +kernel
theorem dX9_alp_6 : decode cX9_alp 6 = .ok (.bipush 6, 2) := by decide +kernel
theorem dX9_alp_8 : decode cX9_alp 8 = .ok (.if_icmp .gt 33, 3) := by decide +kernel
theorem dX9_alp_11 : decode cX9_alp 11 = .ok (.aload_n 0, 1) := by decide +kernel
theorem dX9_alp_12 : decode cX9_alp 12 = .ok (.getfield 125, 3) := by decide +kernel
theorem dX9_alp_15 : decode cX9_alp 15 = .ok (.ifCond .gt 26, 3) := by decide +kernel
theorem dX9_alp_18 : decode cX9_alp 18 = .ok (.aload_n 0, 1) := by decide +kernel
theorem dX9_alp_19 : decode cX9_alp 19 = .ok (.getfield 36, 3) := by decide +kernel
theorem dX9_alp_22 : decode cX9_alp 22 = .ok (.iconst 1, 1) := by decide +kernel
theorem dX9_alp_23 : decode cX9_alp 23 = .ok (.if_icmp .gt 18, 3) := by decide +kernel
theorem dX9_alp_26 : decode cX9_alp 26 = .ok (.aload_n 0, 1) := by decide +kernel
theorem dX9_alp_27 : decode cX9_alp 27 = .ok (.getfield 33, 3) := by decide +kernel
theorem dX9_alp_30 : decode cX9_alp 30 = .ok (.iconst (-1), 1) := by decide +kernel
theorem dX9_alp_31 : decode cX9_alp 31 = .ok (.if_icmp .ne 10, 3) := by decide +kernel
theorem dX9_alp_34 : decode cX9_alp 34 = .ok (.aload_n 0, 1) := by decide +kernel
theorem dX9_alp_35 : decode cX9_alp 35 = .ok (.getfield 128, 3) := by decide +kernel
theorem dX9_alp_38 : decode cX9_alp 38 = .ok (.ifCond .le 5, 3) := by decide +kernel
theorem dX9_alp_41 : decode cX9_alp 41 = .ok (.iconst 0, 1) := by decide +kernel
theorem dX9_alp_42 : decode cX9_alp 42 = .ok (.ireturn, 1) := by decide +kernel
theorem dX9_alp_43 : decode cX9_alp 43 = .ok (.aload_n 0, 1) := by decide +kernel
theorem dX9_alp_44 : decode cX9_alp 44 = .ok (.iload_n 1, 1) := by decide +kernel
theorem dX9_alp_45 : decode cX9_alp 45 = .ok (.putfield 30, 3) := by decide +kernel
theorem dX9_alp_48 : decode cX9_alp 48 = .ok (.iconst 0, 1) := by decide +kernel
theorem dX9_alp_49 : decode cX9_alp 49 = .ok (.istore_n 2, 1) := by decide +kernel
theorem dX9_alp_50 : decode cX9_alp 50 = .ok (.iload_n 2, 1) := by decide +kernel
theorem dX9_alp_51 : decode cX9_alp 51 = .ok (.bipush 6, 2) := by decide +kernel
theorem dX9_alp_53 : decode cX9_alp 53 = .ok (.if_icmp .ge 30, 3) := by decide +kernel
theorem dX9_alp_56 : decode cX9_alp 56 = .ok (.aload_n 0, 1) := by decide +kernel
theorem dX9_alp_57 : decode cX9_alp 57 = .ok (.getfield 39, 3) := by decide +kernel
theorem dX9_alp_60 : decode cX9_alp 60 = .ok (.iload_n 2, 1) := by decide +kernel
theorem dX9_alp_61 : decode cX9_alp 61 = .ok (.iconst 0, 1) := by decide +kernel
theorem dX9_alp_62 : decode cX9_alp 62 = .ok (.iastore, 1) := by decide +kernel
theorem dX9_alp_63 : decode cX9_alp 63 = .ok (.aload_n 0, 1) := by decide +kernel
theorem dX9_alp_64 : decode cX9_alp 64 = .ok (.getfield 42, 3) := by decide +kernel
theorem dX9_alp_67 : decode cX9_alp 67 = .ok (.iload_n 2, 1) := by decide +kernel
theorem dX9_alp_68 : decode cX9_alp 68 = .ok (.iconst 1, 1) := by decide +kernel
theorem dX9_alp_69 : decode cX9_alp 69 = .ok (.iastore, 1) := by decide +kernel
theorem dX9_alp_70 : decode cX9_alp 70 = .ok (.aload_n 0, 1) := by decide +kernel
theorem dX9_alp_71 : decode cX9_alp 71 = .ok (.getfield 45, 3) := by decide +kernel
theorem dX9_alp_74 : decode cX9_alp 74 = .ok (.iload_n 2, 1) := by decide +kernel
theorem dX9_alp_75 : decode cX9_alp 75 = .ok (.iconst 0, 1) := by decide +kernel
theorem dX9_alp_76 : decode cX9_alp 76 = .ok (.iastore, 1) := by decide +kernel
theorem dX9_alp_77 : decode cX9_alp 77 = .ok (.iinc 2 1, 3) := by decide +kernel
theorem dX9_alp_80 : decode cX9_alp 80 = .ok (.goto (-30), 3) := by decide +kernel
theorem dX9_alp_83 : decode cX9_alp 83 = .ok (.iconst 1, 1) := by decide +kernel
theorem dX9_alp_84 : decode cX9_alp 84 = .ok (.ireturn, 1) := by decide +kernel
theorem dX9_isHeight_0 : decode cX9_isHeight 0 = .ok (.iload_n 1, 1) := by decide +kernel
theorem dX9_isHeight_1 : decode cX9_isHeight 1 = .ok (.ifCond .lt 15, 3) := by decide +kernel
theorem dX9_isHeight_4 : decode cX9_isHeight 4 = .ok (.iload_n 1, 1) := by decide +kernel
theorem dX9_isHeight_5 : decode cX9_isHeight 5 = .ok (.aload_n 0, 1) := by decide +kernel
theorem dX9_isHeight_6 : decode cX9_isHeight 6 = .ok (.getfield 30, 3) := by decide +kernel
theorem dX9_isHeight_9 : decode cX9_isHeight 9 = .ok (.if_icmp .ge 7, 3) := by decide +kernel
theorem dX9_isHeight_12 : decode cX9_isHeight 12 = .ok (.iconst 1, 1) := by decide +kernel
theorem dX9_isHeight_13 : decode cX9_isHeight 13 = .ok (.goto 4, 3) := by decide +kernel
theorem dX9_isHeight_16 : decode cX9_isHeight 16 = .ok (.iconst 0, 1) := by decide +kernel
theorem dX9_isHeight_17 : decode cX9_isHeight 17 = .ok (.ireturn, 1) := by decide +kernel
theorem dX9_height_0 : decode cX9_height 0 = .ok (.aload_n 0, 1) := by decide +kernel
theorem dX9_height_1 : decode cX9_height 1 = .ok (.iload_n 1, 1) := by decide +kernel
theorem dX9_height_2 : decode cX9_height 2 = .ok (.invokevirtual 131, 3) := by decide +kernel
theorem dX9_height_5 : decode cX9_height 5 = .ok (.ifCond .eq 36, 3) := by decide +kernel
theorem dX9_height_8 : decode cX9_height 8 = .ok (.iload_n 2, 1) := by decide +kernel
theorem dX9_height_9 : decode cX9_height 9 = .ok (.ifCond .lt 32, 3) := by decide +kernel
theorem dX9_height_12 : decode cX9_height 12 = .ok (.iload_n 2, 1) := by decide +kernel
theorem dX9_height_13 : decode cX9_height 13 = .ok (.ldc 135, 2) := by decide +kernel
theorem dX9_height_15 : decode cX9_height 15 = .ok (.if_icmp .gt 26, 3) := by decide +kernel
theorem dX9_height_18 : decode cX9_height 18 = .ok (.iload_n 3, 1) := by decide +kernel
theorem dX9_height_19 : decode cX9_height 19 = .ok (.iconst 1, 1) := by decide +kernel
theorem dX9_height_20 : decode cX9_height 20 = .ok (.if_icmp .lt 21, 3) := by decide +kernel
theorem dX9_height_23 : decode cX9_height 23 = .ok (.iload_n 3, 1) := by decide +kernel
theorem dX9_height_24 : decode cX9_height 24 = .ok (.ldc 135, 2) := by decide +kernel
theorem dX9_height_26 : decode cX9_height 26 = .ok (.if_icmp .gt 15, 3) := by decide +kernel
theorem dX9_height_29 : decode cX9_height 29 = .ok (.iload 4, 2) := by decide +kernel
theorem dX9_height_31 : decode cX9_height 31 = .ok (.ifCond .lt 10, 3) := by decide +kernel
theorem dX9_height_34 : decode cX9_height 34 = .ok (.iload 4, 2) := by decide +kernel
theorem dX9_height_36 : decode cX9_height 36 = .ok (.bipush 100, 2) := by decide +kernel
theorem dX9_height_38 : decode cX9_height 38 = .ok (.if_icmp .le 5, 3) := by decide +kernel
theorem dX9_height_41 : decode cX9_height 41 = .ok (.iconst 0, 1) := by decide +kernel
theorem dX9_height_42 : decode cX9_height 42 = .ok (.ireturn, 1) := by decide +kernel
theorem dX9_height_43 : decode cX9_height 43 = .ok (.aload_n 0, 1) := by decide +kernel
theorem dX9_height_44 : decode cX9_height 44 = .ok (.getfield 39, 3) := by decide +kernel
theorem dX9_height_47 : decode cX9_height 47 = .ok (.iload_n 1, 1) := by decide +kernel
theorem dX9_height_48 : decode cX9_height 48 = .ok (.iload_n 2, 1) := by decide +kernel
theorem dX9_height_49 : decode cX9_height 49 = .ok (.iastore, 1) := by decide +kernel
theorem dX9_height_50 : decode cX9_height 50 = .ok (.aload_n 0, 1) := by decide +kernel
theorem dX9_height_51 : decode cX9_height 51 = .ok (.getfield 42, 3) := by decide +kernel
theorem dX9_height_54 : decode cX9_height 54 = .ok (.iload_n 1, 1) := by decide +kernel
theorem dX9_height_55 : decode cX9_height 55 = .ok (.iload_n 3, 1) := by decide +kernel
theorem dX9_height_56 : decode cX9_height 56 = .ok (.iastore, 1) := by decide +kernel
theorem dX9_height_57 : decode cX9_height 57 = .ok (.aload_n 0, 1) := by decide +kernel
theorem dX9_height_58 : decode cX9_height 58 = .ok (.getfield 45, 3) := by decide +kernel
theorem dX9_height_61 : decode cX9_height 61 = .ok (.iload_n 1, 1) := by decide +kernel
theorem dX9_height_62 : decode cX9_height 62 = .ok (.iload 4, 2) := by decide +kernel
theorem dX9_height_64 : decode cX9_height 64 = .ok (.iastore, 1) := by decide +kernel
theorem dX9_height_65 : decode cX9_height 65 = .ok (.iconst 1, 1) := by decide +kernel
theorem dX9_height_66 : decode cX9_height 66 = .ok (.ireturn, 1) := by decide +kernel
theorem dX9_grass_0 : decode cX9_grass 0 = .ok (.aload_n 0, 1) := by decide +kernel
theorem dX9_grass_1 : decode cX9_grass 1 = .ok (.iload_n 1, 1) := by decide +kernel
theorem dX9_grass_2 : decode cX9_grass 2 = .ok (.invokevirtual 131, 3) := by decide +kernel
theorem dX9_grass_5 : decode cX9_grass 5 = .ok (.ifCond .ne 5, 3) := by decide +kernel
theorem dX9_grass_8 : decode cX9_grass 8 = .ok (.iconst (-1), 1) := by decide +kernel
theorem dX9_grass_9 : decode cX9_grass 9 = .ok (.ireturn, 1) := by decide +kernel
theorem dX9_grass_10 : decode cX9_grass 10 = .ok (.iload_n 2, 1) := by decide +kernel
theorem dX9_grass_11 : decode cX9_grass 11 = .ok (.ifCond .ne 12, 3) := by decide +kernel
theorem dX9_grass_14 : decode cX9_grass 14 = .ok (.aload_n 0, 1) := by decide +kernel
theorem dX9_grass_15 : decode cX9_grass 15 = .ok (.getfield 39, 3) := by decide +kernel
theorem dX9_grass_18 : decode cX9_grass 18 = .ok (.iload_n 1, 1) := by decide +kernel
theorem dX9_grass_19 : decode cX9_grass 19 = .ok (.iaload, 1) := by decide +kernel
theorem dX9_grass_20 : decode cX9_grass 20 = .ok (.goto 32, 3) := by decide +kernel
theorem dX9_grass_23 : decode cX9_grass 23 = .ok (.iload_n 2, 1) := by decide +kernel
theorem dX9_grass_24 : decode cX9_grass 24 = .ok (.iconst 1, 1) := by decide +kernel
theorem dX9_grass_25 : decode cX9_grass 25 = .ok (.if_icmp .ne 12, 3) := by decide +kernel
theorem dX9_grass_28 : decode cX9_grass 28 = .ok (.aload_n 0, 1) := by decide +kernel
theorem dX9_grass_29 : decode cX9_grass 29 = .ok (.getfield 42, 3) := by decide +kernel
theorem dX9_grass_32 : decode cX9_grass 32 = .ok (.iload_n 1, 1) := by decide +kernel
theorem dX9_grass_33 : decode cX9_grass 33 = .ok (.iaload, 1) := by decide +kernel
theorem dX9_grass_34 : decode cX9_grass 34 = .ok (.goto 18, 3) := by decide +kernel
theorem dX9_grass_37 : decode cX9_grass 37 = .ok (.iload_n 2, 1) := by decide +kernel
theorem dX9_grass_38 : decode cX9_grass 38 = .ok (.iconst 2, 1) := by decide +kernel
theorem dX9_grass_39 : decode cX9_grass 39 = .ok (.if_icmp .ne 12, 3) := by decide +kernel
theorem dX9_grass_42 : decode cX9_grass 42 = .ok (.aload_n 0, 1) := by decide +kernel
theorem dX9_grass_43 : decode cX9_grass 43 = .ok (.getfield 45, 3) := by decide +kernel
theorem dX9_grass_46 : decode cX9_grass 46 = .ok (.iload_n 1, 1) := by decide +kernel
theorem dX9_grass_47 : decode cX9_grass 47 = .ok (.iaload, 1) := by decide +kernel
theorem dX9_grass_48 : decode cX9_grass 48 = .ok (.goto 4, 3) := by decide +kernel
theorem dX9_grass_51 : decode cX9_grass 51 = .ok (.iconst (-1), 1) := by decide +kernel
theorem dX9_grass_52 : decode cX9_grass 52 = .ok (.ireturn, 1) := by decide +kernel
theorem dX9_move_0 : decode cX9_move 0 = .ok (.iload_n 1, 1) := by decide +kernel
theorem dX9_move_1 : decode cX9_move 1 = .ok (.iconst (-1), 1) := by decide +kernel
theorem dX9_move_2 : decode cX9_move 2 = .ok (.if_icmp .eq 13, 3) := by decide +kernel
theorem dX9_move_5 : decode cX9_move 5 = .ok (.aload_n 0, 1) := by decide +kernel
theorem dX9_move_6 : decode cX9_move 6 = .ok (.iload_n 1, 1) := by decide +kernel
theorem dX9_move_7 : decode cX9_move 7 = .ok (.invokevirtual 131, 3) := by decide +kernel
theorem dX9_move_10 : decode cX9_move 10 = .ok (.ifCond .ne 5, 3) := by decide +kernel
theorem dX9_move_13 : decode cX9_move 13 = .ok (.iconst 0, 1) := by decide +kernel
theorem dX9_move_14 : decode cX9_move 14 = .ok (.ireturn, 1) := by decide +kernel
theorem dX9_move_15 : decode cX9_move 15 = .ok (.aload_n 0, 1) := by decide +kernel
theorem dX9_move_16 : decode cX9_move 16 = .ok (.getfield 33, 3) := by decide +kernel
theorem dX9_move_19 : decode cX9_move 19 = .ok (.iconst (-1), 1) := by decide +kernel
theorem dX9_move_20 : decode cX9_move 20 = .ok (.if_icmp .ne 7, 3) := by decide +kernel
theorem dX9_move_23 : decode cX9_move 23 = .ok (.iload_n 1, 1) := by decide +kernel
theorem dX9_move_24 : decode cX9_move 24 = .ok (.ifCond .eq 15, 3) := by decide +kernel
theorem dX9_move_27 : decode cX9_move 27 = .ok (.aload_n 0, 1) := by decide +kernel
theorem dX9_move_28 : decode cX9_move 28 = .ok (.getfield 33, 3) := by decide +kernel
theorem dX9_move_31 : decode cX9_move 31 = .ok (.ifCond .ne 12, 3) := by decide +kernel
theorem dX9_move_34 : decode cX9_move 34 = .ok (.iload_n 1, 1) := by decide +kernel
theorem dX9_move_35 : decode cX9_move 35 = .ok (.iconst (-1), 1) := by decide +kernel
theorem dX9_move_36 : decode cX9_move 36 = .ok (.if_icmp .ne 7, 3) := by decide +kernel
theorem dX9_move_39 : decode cX9_move 39 = .ok (.iconst 1, 1) := by decide +kernel
theorem dX9_move_40 : decode cX9_move 40 = .ok (.goto 4, 3) := by decide +kernel
theorem dX9_move_43 : decode cX9_move 43 = .ok (.iconst 0, 1) := by decide +kernel
theorem dX9_move_44 : decode cX9_move 44 = .ok (.istore_n 2, 1) := by decide +kernel
theorem dX9_move_45 : decode cX9_move 45 = .ok (.aload_n 0, 1) := by decide +kernel
theorem dX9_move_46 : decode cX9_move 46 = .ok (.getfield 33, 3) := by decide +kernel
theorem dX9_move_49 : decode cX9_move 49 = .ok (.iconst (-1), 1) := by decide +kernel
theorem dX9_move_50 : decode cX9_move 50 = .ok (.if_icmp .eq 32, 3) := by decide +kernel
theorem dX9_move_53 : decode cX9_move 53 = .ok (.iload_n 1, 1) := by decide +kernel
theorem dX9_move_54 : decode cX9_move 54 = .ok (.iconst (-1), 1) := by decide +kernel
theorem dX9_move_55 : decode cX9_move 55 = .ok (.if_icmp .eq 27, 3) := by decide +kernel
theorem dX9_move_58 : decode cX9_move 58 = .ok (.iload_n 1, 1) := by decide +kernel
theorem dX9_move_59 : decode cX9_move 59 = .ok (.aload_n 0, 1) := by decide +kernel
theorem dX9_move_60 : decode cX9_move 60 = .ok (.getfield 33, 3) := by decide +kernel
theorem dX9_move_63 : decode cX9_move 63 = .ok (.iconst 1, 1) := by decide +kernel
theorem dX9_move_64 : decode cX9_move 64 = .ok (.iadd, 1) := by decide +kernel
theorem dX9_move_65 : decode cX9_move 65 = .ok (.if_icmp .eq 13, 3) := by decide +kernel
theorem dX9_move_68 : decode cX9_move 68 = .ok (.iload_n 1, 1) := by decide +kernel
theorem dX9_move_69 : decode cX9_move 69 = .ok (.aload_n 0, 1) := by decide +kernel
theorem dX9_move_70 : decode cX9_move 70 = .ok (.getfield 33, 3) := by decide +kernel
theorem dX9_move_73 : decode cX9_move 73 = .ok (.iconst 1, 1) := by decide +kernel
theorem dX9_move_74 : decode cX9_move 74 = .ok (.isub, 1) := by decide +kernel
theorem dX9_move_75 : decode cX9_move 75 = .ok (.if_icmp .ne 7, 3) := by decide +kernel
theorem dX9_move_78 : decode cX9_move 78 = .ok (.iconst 1, 1) := by decide +kernel
theorem dX9_move_79 : decode cX9_move 79 = .ok (.goto 4, 3) := by decide +kernel
theorem dX9_move_82 : decode cX9_move 82 = .ok (.iconst 0, 1) := by decide +kernel
theorem dX9_move_83 : decode cX9_move 83 = .ok (.istore_n 3, 1) := by decide +kernel
theorem dX9_move_84 : decode cX9_move 84 = .ok (.iload_n 2, 1) := by decide +kernel
theorem dX9_move_85 : decode cX9_move 85 = .ok (.ifCond .eq 12, 3) := by decide +kernel
theorem dX9_move_88 : decode cX9_move 88 = .ok (.aload_n 0, 1) := by decide +kernel
theorem dX9_move_89 : decode cX9_move 89 = .ok (.getfield 136, 3) := by decide +kernel
theorem dX9_move_92 : decode cX9_move 92 = .ok (.bipush 20, 2) := by decide +kernel
theorem dX9_move_94 : decode cX9_move 94 = .ok (.if_icmp .le 9, 3) := by decide +kernel
theorem dX9_move_97 : decode cX9_move 97 = .ok (.iload_n 3, 1) := by decide +kernel
theorem dX9_move_98 : decode cX9_move 98 = .ok (.ifCond .ne 5, 3) := by decide +kernel
theorem dX9_move_101 : decode cX9_move 101 = .ok (.iconst 0, 1) := by decide +kernel
theorem dX9_move_102 : decode cX9_move 102 = .ok (.ireturn, 1) := by decide +kernel
theorem dX9_move_103 : decode cX9_move 103 = .ok (.aload_n 0, 1) := by decide +kernel
theorem dX9_move_104 : decode cX9_move 104 = .ok (.iload_n 1, 1) := by decide +kernel
theorem dX9_move_105 : decode cX9_move 105 = .ok (.putfield 33, 3) := by decide +kernel
theorem dX9_move_108 : decode cX9_move 108 = .ok (.iconst 1, 1) := by decide +kernel
theorem dX9_move_109 : decode cX9_move 109 = .ok (.ireturn, 1) := by decide +kernel
theorem dX9_grows_0 : decode cX9_grows 0 = .ok (.iconst 0, 1) := by decide +kernel
theorem dX9_grows_1 : decode cX9_grows 1 = .ok (.istore_n 2, 1) := by decide +kernel
theorem dX9_grows_2 : decode cX9_grows 2 = .ok (.iload_n 2, 1) := by decide +kernel
theorem dX9_grows_3 : decode cX9_grows 3 = .ok (.aload_n 0, 1) := by decide +kernel
theorem dX9_grows_4 : decode cX9_grows 4 = .ok (.getfield 30, 3) := by decide +kernel
theorem dX9_grows_7 : decode cX9_grows 7 = .ok (.if_icmp .ge 93, 3) := by decide +kernel
theorem dX9_grows_10 : decode cX9_grows 10 = .ok (.aload_n 0, 1) := by decide +kernel
theorem dX9_grows_11 : decode cX9_grows 11 = .ok (.getfield 45, 3) := by decide +kernel
theorem dX9_grows_14 : decode cX9_grows 14 = .ok (.iload_n 2, 1) := by decide +kernel
theorem dX9_grows_15 : decode cX9_grows 15 = .ok (.iaload, 1) := by decide +kernel
theorem dX9_grows_16 : decode cX9_grows 16 = .ok (.iload_n 1, 1) := by decide +kernel
theorem dX9_grows_17 : decode cX9_grows 17 = .ok (.iconst 3, 1) := by decide +kernel
theorem dX9_grows_18 : decode cX9_grows 18 = .ok (.iload_n 2, 1) := by decide +kernel
theorem dX9_grows_19 : decode cX9_grows 19 = .ok (.imul, 1) := by decide +kernel
theorem dX9_grows_20 : decode cX9_grows 20 = .ok (.isub, 1) := by decide +kernel
theorem dX9_grows_21 : decode cX9_grows 21 = .ok (.imul, 1) := by decide +kernel
theorem dX9_grows_22 : decode cX9_grows 22 = .ok (.istore_n 3, 1) := by decide +kernel
theorem dX9_grows_23 : decode cX9_grows 23 = .ok (.iload_n 3, 1) := by decide +kernel
theorem dX9_grows_24 : decode cX9_grows 24 = .ok (.ifCond .gt 6, 3) := by decide +kernel
theorem dX9_grows_27 : decode cX9_grows 27 = .ok (.goto 67, 3) := by decide +kernel
theorem dX9_grows_30 : decode cX9_grows 30 = .ok (.aload_n 0, 1) := by decide +kernel
theorem dX9_grows_31 : decode cX9_grows 31 = .ok (.getfield 39, 3) := by decide +kernel
theorem dX9_grows_34 : decode cX9_grows 34 = .ok (.iload_n 2, 1) := by decide +kernel
theorem dX9_grows_35 : decode cX9_grows 35 = .ok (.iaload, 1) := by decide +kernel
theorem dX9_grows_36 : decode cX9_grows 36 = .ok (.aload_n 0, 1) := by decide +kernel
theorem dX9_grows_37 : decode cX9_grows 37 = .ok (.getfield 42, 3) := by decide +kernel
theorem dX9_grows_40 : decode cX9_grows 40 = .ok (.iload_n 2, 1) := by decide +kernel
theorem dX9_grows_41 : decode cX9_grows 41 = .ok (.iaload, 1) := by decide +kernel
theorem dX9_grows_42 : decode cX9_grows 42 = .ok (.if_icmp .le 12, 3) := by decide +kernel
theorem dX9_grows_45 : decode cX9_grows 45 = .ok (.aload_n 0, 1) := by decide +kernel
theorem dX9_grows_46 : decode cX9_grows 46 = .ok (.getfield 39, 3) := by decide +kernel
theorem dX9_grows_49 : decode cX9_grows 49 = .ok (.iload_n 2, 1) := by decide +kernel
theorem dX9_grows_50 : decode cX9_grows 50 = .ok (.iaload, 1) := by decide +kernel
theorem dX9_grows_51 : decode cX9_grows 51 = .ok (.goto 9, 3) := by decide +kernel
theorem dX9_grows_54 : decode cX9_grows 54 = .ok (.aload_n 0, 1) := by decide +kernel
theorem dX9_grows_55 : decode cX9_grows 55 = .ok (.getfield 42, 3) := by decide +kernel
theorem dX9_grows_58 : decode cX9_grows 58 = .ok (.iload_n 2, 1) := by decide +kernel
theorem dX9_grows_59 : decode cX9_grows 59 = .ok (.iaload, 1) := by decide +kernel
theorem dX9_grows_60 : decode cX9_grows 60 = .ok (.istore 4, 2) := by decide +kernel
theorem dX9_grows_62 : decode cX9_grows 62 = .ok (.aload_n 0, 1) := by decide +kernel
theorem dX9_grows_63 : decode cX9_grows 63 = .ok (.getfield 39, 3) := by decide +kernel
theorem dX9_grows_66 : decode cX9_grows 66 = .ok (.iload_n 2, 1) := by decide +kernel
theorem dX9_grows_67 : decode cX9_grows 67 = .ok (.aload_n 0, 1) := by decide +kernel
theorem dX9_grows_68 : decode cX9_grows 68 = .ok (.getfield 39, 3) := by decide +kernel
theorem dX9_grows_71 : decode cX9_grows 71 = .ok (.iload_n 2, 1) := by decide +kernel
theorem dX9_grows_72 : decode cX9_grows 72 = .ok (.iaload, 1) := by decide +kernel
theorem dX9_grows_73 : decode cX9_grows 73 = .ok (.iload_n 3, 1) := by decide +kernel
theorem dX9_grows_74 : decode cX9_grows 74 = .ok (.iadd, 1) := by decide +kernel
theorem dX9_grows_75 : decode cX9_grows 75 = .ok (.iload 4, 2) := by decide +kernel
theorem dX9_grows_77 : decode cX9_grows 77 = .ok (.if_icmp .le 8, 3) := by decide +kernel
theorem dX9_grows_80 : decode cX9_grows 80 = .ok (.iload 4, 2) := by decide +kernel
theorem dX9_grows_82 : decode cX9_grows 82 = .ok (.goto 11, 3) := by decide +kernel
theorem dX9_grows_85 : decode cX9_grows 85 = .ok (.aload_n 0, 1) := by decide +kernel
theorem dX9_grows_86 : decode cX9_grows 86 = .ok (.getfield 39, 3) := by decide +kernel
theorem dX9_grows_89 : decode cX9_grows 89 = .ok (.iload_n 2, 1) := by decide +kernel
theorem dX9_grows_90 : decode cX9_grows 90 = .ok (.iaload, 1) := by decide +kernel
theorem dX9_grows_91 : decode cX9_grows 91 = .ok (.iload_n 3, 1) := by decide +kernel
theorem dX9_grows_92 : decode cX9_grows 92 = .ok (.iadd, 1) := by decide +kernel
theorem dX9_grows_93 : decode cX9_grows 93 = .ok (.iastore, 1) := by decide +kernel
theorem dX9_grows_94 : decode cX9_grows 94 = .ok (.iinc 2 1, 3) := by decide +kernel
theorem dX9_grows_97 : decode cX9_grows 97 = .ok (.goto (-95), 3) := by decide +kernel
theorem dX9_grows_100 : decode cX9_grows 100 = .ok (.return_, 1) := by decide +kernel
theorem dX9_eats_0 : decode cX9_eats 0 = .ok (.bipush 10, 2) := by decide +kernel
theorem dX9_eats_2 : decode cX9_eats 2 = .ok (.iload_n 2, 1) := by decide +kernel
theorem dX9_eats_3 : decode cX9_eats 3 = .ok (.imul, 1) := by decide +kernel
theorem dX9_eats_4 : decode cX9_eats 4 = .ok (.istore_n 3, 1) := by decide +kernel
theorem dX9_eats_5 : decode cX9_eats 5 = .ok (.iload_n 3, 1) := by decide +kernel
theorem dX9_eats_6 : decode cX9_eats 6 = .ok (.aload_n 0, 1) := by decide +kernel
theorem dX9_eats_7 : decode cX9_eats 7 = .ok (.getfield 39, 3) := by decide +kernel
theorem dX9_eats_10 : decode cX9_eats 10 = .ok (.iload_n 1, 1) := by decide +kernel
theorem dX9_eats_11 : decode cX9_eats 11 = .ok (.iaload, 1) := by decide +kernel
theorem dX9_eats_12 : decode cX9_eats 12 = .ok (.if_icmp .ge 7, 3) := by decide +kernel
theorem dX9_eats_15 : decode cX9_eats 15 = .ok (.iload_n 3, 1) := by decide +kernel
theorem dX9_eats_16 : decode cX9_eats 16 = .ok (.goto 9, 3) := by decide +kernel
theorem dX9_eats_19 : decode cX9_eats 19 = .ok (.aload_n 0, 1) := by decide +kernel
theorem dX9_eats_20 : decode cX9_eats 20 = .ok (.getfield 39, 3) := by decide +kernel
theorem dX9_eats_23 : decode cX9_eats 23 = .ok (.iload_n 1, 1) := by decide +kernel
theorem dX9_eats_24 : decode cX9_eats 24 = .ok (.iaload, 1) := by decide +kernel
theorem dX9_eats_25 : decode cX9_eats 25 = .ok (.istore 4, 2) := by decide +kernel
theorem dX9_eats_27 : decode cX9_eats 27 = .ok (.aload_n 0, 1) := by decide +kernel
theorem dX9_eats_28 : decode cX9_eats 28 = .ok (.getfield 39, 3) := by decide +kernel
theorem dX9_eats_31 : decode cX9_eats 31 = .ok (.iload_n 1, 1) := by decide +kernel
theorem dX9_eats_32 : decode cX9_eats 32 = .ok (.aload_n 0, 1) := by decide +kernel
theorem dX9_eats_33 : decode cX9_eats 33 = .ok (.getfield 39, 3) := by decide +kernel
theorem dX9_eats_36 : decode cX9_eats 36 = .ok (.iload_n 1, 1) := by decide +kernel
theorem dX9_eats_37 : decode cX9_eats 37 = .ok (.iaload, 1) := by decide +kernel
theorem dX9_eats_38 : decode cX9_eats 38 = .ok (.iload 4, 2) := by decide +kernel
theorem dX9_eats_40 : decode cX9_eats 40 = .ok (.isub, 1) := by decide +kernel
theorem dX9_eats_41 : decode cX9_eats 41 = .ok (.iastore, 1) := by decide +kernel
theorem dX9_eats_42 : decode cX9_eats 42 = .ok (.iload_n 3, 1) := by decide +kernel
theorem dX9_eats_43 : decode cX9_eats 43 = .ok (.iload 4, 2) := by decide +kernel
theorem dX9_eats_45 : decode cX9_eats 45 = .ok (.isub, 1) := by decide +kernel
theorem dX9_eats_46 : decode cX9_eats 46 = .ok (.ireturn, 1) := by decide +kernel
theorem dX9_day_0 : decode cX9_day 0 = .ok (.iload_n 1, 1) := by decide +kernel
theorem dX9_day_1 : decode cX9_day 1 = .ok (.bipush (-30), 2) := by decide +kernel
theorem dX9_day_3 : decode cX9_day 3 = .ok (.if_icmp .lt 30, 3) := by decide +kernel
theorem dX9_day_6 : decode cX9_day 6 = .ok (.iload_n 1, 1) := by decide +kernel
theorem dX9_day_7 : decode cX9_day 7 = .ok (.bipush 40, 2) := by decide +kernel
theorem dX9_day_9 : decode cX9_day 9 = .ok (.if_icmp .gt 24, 3) := by decide +kernel
theorem dX9_day_12 : decode cX9_day 12 = .ok (.iload_n 2, 1) := by decide +kernel
theorem dX9_day_13 : decode cX9_day 13 = .ok (.ifCond .lt 20, 3) := by decide +kernel
theorem dX9_day_16 : decode cX9_day 16 = .ok (.iload_n 2, 1) := by decide +kernel
theorem dX9_day_17 : decode cX9_day 17 = .ok (.sipush 300, 3) := by decide +kernel
theorem dX9_day_20 : decode cX9_day 20 = .ok (.if_icmp .gt 13, 3) := by decide +kernel
theorem dX9_day_23 : decode cX9_day 23 = .ok (.aload_n 0, 1) := by decide +kernel
theorem dX9_day_24 : decode cX9_day 24 = .ok (.getfield 125, 3) := by decide +kernel
theorem dX9_day_27 : decode cX9_day 27 = .ok (.sipush 150, 3) := by decide +kernel
end
section
theorem dX9_day_30 : decode cX9_day 30 = .ok (.if_icmp .ne 5, 3) := by decide +kernel
theorem dX9_day_33 : decode cX9_day 33 = .ok (.iconst (-1), 1) := by decide +kernel
theorem dX9_day_34 : decode cX9_day 34 = .ok (.ireturn, 1) := by decide +kernel
theorem dX9_day_35 : decode cX9_day 35 = .ok (.aload_n 0, 1) := by decide +kernel
theorem dX9_day_36 : decode cX9_day 36 = .ok (.aload_n 0, 1) := by decide +kernel
theorem dX9_day_37 : decode cX9_day 37 = .ok (.getfield 125, 3) := by decide +kernel
theorem dX9_day_40 : decode cX9_day 40 = .ok (.iconst 1, 1) := by decide +kernel
theorem dX9_day_41 : decode cX9_day 41 = .ok (.iadd, 1) := by decide +kernel
theorem dX9_day_42 : decode cX9_day 42 = .ok (.putfield 125, 3) := by decide +kernel
theorem dX9_day_45 : decode cX9_day 45 = .ok (.aload_n 0, 1) := by decide +kernel
theorem dX9_day_46 : decode cX9_day 46 = .ok (.aload_n 0, 1) := by decide +kernel
theorem dX9_day_47 : decode cX9_day 47 = .ok (.getfield 136, 3) := by decide +kernel
theorem dX9_day_50 : decode cX9_day 50 = .ok (.iload_n 2, 1) := by decide +kernel
theorem dX9_day_51 : decode cX9_day 51 = .ok (.iadd, 1) := by decide +kernel
theorem dX9_day_52 : decode cX9_day 52 = .ok (.iload_n 1, 1) := by decide +kernel
theorem dX9_day_53 : decode cX9_day 53 = .ok (.ifCond .le 9, 3) := by decide +kernel
theorem dX9_day_56 : decode cX9_day 56 = .ok (.iconst 4, 1) := by decide +kernel
theorem dX9_day_57 : decode cX9_day 57 = .ok (.iload_n 1, 1) := by decide +kernel
theorem dX9_day_58 : decode cX9_day 58 = .ok (.imul, 1) := by decide +kernel
theorem dX9_day_59 : decode cX9_day 59 = .ok (.goto 4, 3) := by decide +kernel
theorem dX9_day_62 : decode cX9_day 62 = .ok (.iconst 0, 1) := by decide +kernel
theorem dX9_day_63 : decode cX9_day 63 = .ok (.isub, 1) := by decide +kernel
theorem dX9_day_64 : decode cX9_day 64 = .ok (.putfield 136, 3) := by decide +kernel
theorem dX9_day_67 : decode cX9_day 67 = .ok (.aload_n 0, 1) := by decide +kernel
theorem dX9_day_68 : decode cX9_day 68 = .ok (.getfield 136, 3) := by decide +kernel
theorem dX9_day_71 : decode cX9_day 71 = .ok (.ifCond .ge 8, 3) := by decide +kernel
theorem dX9_day_74 : decode cX9_day 74 = .ok (.aload_n 0, 1) := by decide +kernel
theorem dX9_day_75 : decode cX9_day 75 = .ok (.iconst 0, 1) := by decide +kernel
theorem dX9_day_76 : decode cX9_day 76 = .ok (.putfield 136, 3) := by decide +kernel
theorem dX9_day_79 : decode cX9_day 79 = .ok (.aload_n 0, 1) := by decide +kernel
theorem dX9_day_80 : decode cX9_day 80 = .ok (.iload_n 1, 1) := by decide +kernel
theorem dX9_day_81 : decode cX9_day 81 = .ok (.invokevirtual 139, 3) := by decide +kernel
theorem dX9_day_84 : decode cX9_day 84 = .ok (.aload_n 0, 1) := by decide +kernel
theorem dX9_day_85 : decode cX9_day 85 = .ok (.getfield 33, 3) := by decide +kernel
theorem dX9_day_88 : decode cX9_day 88 = .ok (.iconst (-1), 1) := by decide +kernel
theorem dX9_day_89 : decode cX9_day 89 = .ok (.if_icmp .eq 52, 3) := by decide +kernel
theorem dX9_day_92 : decode cX9_day 92 = .ok (.aload_n 0, 1) := by decide +kernel
theorem dX9_day_93 : decode cX9_day 93 = .ok (.aload_n 0, 1) := by decide +kernel
theorem dX9_day_94 : decode cX9_day 94 = .ok (.getfield 125, 3) := by decide +kernel
theorem dX9_day_97 : decode cX9_day 97 = .ok (.invokevirtual 142, 3) := by decide +kernel
theorem dX9_day_100 : decode cX9_day 100 = .ok (.istore_n 3, 1) := by decide +kernel
theorem dX9_day_101 : decode cX9_day 101 = .ok (.aload_n 0, 1) := by decide +kernel
theorem dX9_day_102 : decode cX9_day 102 = .ok (.aload_n 0, 1) := by decide +kernel
theorem dX9_day_103 : decode cX9_day 103 = .ok (.getfield 33, 3) := by decide +kernel
theorem dX9_day_106 : decode cX9_day 106 = .ok (.iload_n 3, 1) := by decide +kernel
theorem dX9_day_107 : decode cX9_day 107 = .ok (.invokevirtual 145, 3) := by decide +kernel
theorem dX9_day_110 : decode cX9_day 110 = .ok (.istore 4, 2) := by decide +kernel
theorem dX9_day_112 : decode cX9_day 112 = .ok (.aload_n 0, 1) := by decide +kernel
theorem dX9_day_113 : decode cX9_day 113 = .ok (.aload_n 0, 1) := by decide +kernel
theorem dX9_day_114 : decode cX9_day 114 = .ok (.getfield 149, 3) := by decide +kernel
theorem dX9_day_117 : decode cX9_day 117 = .ok (.iload 4, 2) := by decide +kernel
theorem dX9_day_119 : decode cX9_day 119 = .ok (.iadd, 1) := by decide +kernel
theorem dX9_day_120 : decode cX9_day 120 = .ok (.putfield 149, 3) := by decide +kernel
theorem dX9_day_123 : decode cX9_day 123 = .ok (.aload_n 0, 1) := by decide +kernel
theorem dX9_day_124 : decode cX9_day 124 = .ok (.aload_n 0, 1) := by decide +kernel
theorem dX9_day_125 : decode cX9_day 125 = .ok (.getfield 152, 3) := by decide +kernel
theorem dX9_day_128 : decode cX9_day 128 = .ok (.bipush 10, 2) := by decide +kernel
theorem dX9_day_130 : decode cX9_day 130 = .ok (.iload_n 3, 1) := by decide +kernel
theorem dX9_day_131 : decode cX9_day 131 = .ok (.imul, 1) := by decide +kernel
theorem dX9_day_132 : decode cX9_day 132 = .ok (.i2l, 1) := by decide +kernel
theorem dX9_day_133 : decode cX9_day 133 = .ok (.ladd, 1) := by decide +kernel
theorem dX9_day_134 : decode cX9_day 134 = .ok (.iload 4, 2) := by decide +kernel
theorem dX9_day_136 : decode cX9_day 136 = .ok (.i2l, 1) := by decide +kernel
theorem dX9_day_137 : decode cX9_day 137 = .ok (.lsub, 1) := by decide +kernel
theorem dX9_day_138 : decode cX9_day 138 = .ok (.putfield 152, 3) := by decide +kernel
theorem dX9_day_141 : decode cX9_day 141 = .ok (.aload_n 0, 1) := by decide +kernel
theorem dX9_day_142 : decode cX9_day 142 = .ok (.getfield 125, 3) := by decide +kernel
theorem dX9_day_145 : decode cX9_day 145 = .ok (.ireturn, 1) := by decide +kernel
theorem dX9_lays_0 : decode cX9_lays 0 = .ok (.iload_n 1, 1) := by decide +kernel
theorem dX9_lays_1 : decode cX9_lays 1 = .ok (.istore_n 3, 1) := by decide +kernel
theorem dX9_lays_2 : decode cX9_lays 2 = .ok (.aload_n 0, 1) := by decide +kernel
theorem dX9_lays_3 : decode cX9_lays 3 = .ok (.getfield 33, 3) := by decide +kernel
theorem dX9_lays_6 : decode cX9_lays 6 = .ok (.istore 4, 2) := by decide +kernel
theorem dX9_lays_8 : decode cX9_lays 8 = .ok (.iconst 0, 1) := by decide +kernel
theorem dX9_lays_9 : decode cX9_lays 9 = .ok (.istore 5, 2) := by decide +kernel
theorem dX9_lays_11 : decode cX9_lays 11 = .ok (.iload 5, 2) := by decide +kernel
theorem dX9_lays_13 : decode cX9_lays 13 = .ok (.iload_n 2, 1) := by decide +kernel
theorem dX9_lays_14 : decode cX9_lays 14 = .ok (.if_icmp .ge 89, 3) := by decide +kernel
theorem dX9_lays_17 : decode cX9_lays 17 = .ok (.iload 5, 2) := by decide +kernel
theorem dX9_lays_19 : decode cX9_lays 19 = .ok (.ifCond .ne 17, 3) := by decide +kernel
theorem dX9_lays_22 : decode cX9_lays 22 = .ok (.aload_n 0, 1) := by decide +kernel
theorem dX9_lays_23 : decode cX9_lays 23 = .ok (.getfield 33, 3) := by decide +kernel
theorem dX9_lays_26 : decode cX9_lays 26 = .ok (.iconst (-1), 1) := by decide +kernel
theorem dX9_lays_27 : decode cX9_lays 27 = .ok (.if_icmp .ne 9, 3) := by decide +kernel
theorem dX9_lays_30 : decode cX9_lays 30 = .ok (.iconst 0, 1) := by decide +kernel
theorem dX9_lays_31 : decode cX9_lays 31 = .ok (.istore 4, 2) := by decide +kernel
theorem dX9_lays_33 : decode cX9_lays 33 = .ok (.goto 13, 3) := by decide +kernel
theorem dX9_lays_36 : decode cX9_lays 36 = .ok (.iload 4, 2) := by decide +kernel
theorem dX9_lays_38 : decode cX9_lays 38 = .ok (.iload_n 3, 1) := by decide +kernel
theorem dX9_lays_39 : decode cX9_lays 39 = .ok (.iconst 3, 1) := by decide +kernel
theorem dX9_lays_40 : decode cX9_lays 40 = .ok (.irem, 1) := by decide +kernel
theorem dX9_lays_41 : decode cX9_lays 41 = .ok (.iadd, 1) := by decide +kernel
theorem dX9_lays_42 : decode cX9_lays 42 = .ok (.iconst 1, 1) := by decide +kernel
theorem dX9_lays_43 : decode cX9_lays 43 = .ok (.isub, 1) := by decide +kernel
theorem dX9_lays_44 : decode cX9_lays 44 = .ok (.istore 4, 2) := by decide +kernel
theorem dX9_lays_46 : decode cX9_lays 46 = .ok (.iload 5, 2) := by decide +kernel
theorem dX9_lays_48 : decode cX9_lays 48 = .ok (.ifCond .ne 20, 3) := by decide +kernel
theorem dX9_lays_51 : decode cX9_lays 51 = .ok (.aload_n 0, 1) := by decide +kernel
theorem dX9_lays_52 : decode cX9_lays 52 = .ok (.getfield 33, 3) := by decide +kernel
theorem dX9_lays_55 : decode cX9_lays 55 = .ok (.iconst (-1), 1) := by decide +kernel
theorem dX9_lays_56 : decode cX9_lays 56 = .ok (.if_icmp .ne 12, 3) := by decide +kernel
theorem dX9_lays_59 : decode cX9_lays 59 = .ok (.iload_n 3, 1) := by decide +kernel
theorem dX9_lays_60 : decode cX9_lays 60 = .ok (.iconst 3, 1) := by decide +kernel
theorem dX9_lays_61 : decode cX9_lays 61 = .ok (.irem, 1) := by decide +kernel
theorem dX9_lays_62 : decode cX9_lays 62 = .ok (.iconst 1, 1) := by decide +kernel
theorem dX9_lays_63 : decode cX9_lays 63 = .ok (.if_icmp .eq 5, 3) := by decide +kernel
theorem dX9_lays_66 : decode cX9_lays 66 = .ok (.iconst 0, 1) := by decide +kernel
theorem dX9_lays_67 : decode cX9_lays 67 = .ok (.ireturn, 1) := by decide +kernel
theorem dX9_lays_68 : decode cX9_lays 68 = .ok (.iload 4, 2) := by decide +kernel
theorem dX9_lays_70 : decode cX9_lays 70 = .ok (.ifCond .lt 12, 3) := by decide +kernel
theorem dX9_lays_73 : decode cX9_lays 73 = .ok (.iload 4, 2) := by decide +kernel
theorem dX9_lays_75 : decode cX9_lays 75 = .ok (.aload_n 0, 1) := by decide +kernel
theorem dX9_lays_76 : decode cX9_lays 76 = .ok (.getfield 30, 3) := by decide +kernel
theorem dX9_lays_79 : decode cX9_lays 79 = .ok (.if_icmp .lt 5, 3) := by decide +kernel
theorem dX9_lays_82 : decode cX9_lays 82 = .ok (.iconst 0, 1) := by decide +kernel
theorem dX9_lays_83 : decode cX9_lays 83 = .ok (.ireturn, 1) := by decide +kernel
theorem dX9_lays_84 : decode cX9_lays 84 = .ok (.aload_n 0, 1) := by decide +kernel
theorem dX9_lays_85 : decode cX9_lays 85 = .ok (.getfield 51, 3) := by decide +kernel
theorem dX9_lays_88 : decode cX9_lays 88 = .ok (.iload 5, 2) := by decide +kernel
theorem dX9_lays_90 : decode cX9_lays 90 = .ok (.iload 4, 2) := by decide +kernel
theorem dX9_lays_92 : decode cX9_lays 92 = .ok (.iastore, 1) := by decide +kernel
theorem dX9_lays_93 : decode cX9_lays 93 = .ok (.iload_n 3, 1) := by decide +kernel
theorem dX9_lays_94 : decode cX9_lays 94 = .ok (.iconst 3, 1) := by decide +kernel
theorem dX9_lays_95 : decode cX9_lays 95 = .ok (.idiv, 1) := by decide +kernel
theorem dX9_lays_96 : decode cX9_lays 96 = .ok (.istore_n 3, 1) := by decide +kernel
theorem dX9_lays_97 : decode cX9_lays 97 = .ok (.iinc 5 1, 3) := by decide +kernel
theorem dX9_lays_100 : decode cX9_lays 100 = .ok (.goto (-89), 3) := by decide +kernel
theorem dX9_lays_103 : decode cX9_lays 103 = .ok (.iconst 1, 1) := by decide +kernel
theorem dX9_lays_104 : decode cX9_lays 104 = .ok (.ireturn, 1) := by decide +kernel
theorem dX9_isLess_0 : decode cX9_isLess 0 = .ok (.iconst 0, 1) := by decide +kernel
theorem dX9_isLess_1 : decode cX9_isLess 1 = .ok (.istore_n 2, 1) := by decide +kernel
theorem dX9_isLess_2 : decode cX9_isLess 2 = .ok (.iload_n 2, 1) := by decide +kernel
theorem dX9_isLess_3 : decode cX9_isLess 3 = .ok (.iload_n 1, 1) := by decide +kernel
theorem dX9_isLess_4 : decode cX9_isLess 4 = .ok (.if_icmp .ge 45, 3) := by decide +kernel
theorem dX9_isLess_7 : decode cX9_isLess 7 = .ok (.aload_n 0, 1) := by decide +kernel
theorem dX9_isLess_8 : decode cX9_isLess 8 = .ok (.getfield 51, 3) := by decide +kernel
theorem dX9_isLess_11 : decode cX9_isLess 11 = .ok (.iload_n 2, 1) := by decide +kernel
theorem dX9_isLess_12 : decode cX9_isLess 12 = .ok (.iaload, 1) := by decide +kernel
theorem dX9_isLess_13 : decode cX9_isLess 13 = .ok (.aload_n 0, 1) := by decide +kernel
theorem dX9_isLess_14 : decode cX9_isLess 14 = .ok (.getfield 54, 3) := by decide +kernel
theorem dX9_isLess_17 : decode cX9_isLess 17 = .ok (.iload_n 2, 1) := by decide +kernel
theorem dX9_isLess_18 : decode cX9_isLess 18 = .ok (.iaload, 1) := by decide +kernel
theorem dX9_isLess_19 : decode cX9_isLess 19 = .ok (.if_icmp .eq 24, 3) := by decide +kernel
theorem dX9_isLess_22 : decode cX9_isLess 22 = .ok (.aload_n 0, 1) := by decide +kernel
theorem dX9_isLess_23 : decode cX9_isLess 23 = .ok (.getfield 51, 3) := by decide +kernel
theorem dX9_isLess_26 : decode cX9_isLess 26 = .ok (.iload_n 2, 1) := by decide +kernel
theorem dX9_isLess_27 : decode cX9_isLess 27 = .ok (.iaload, 1) := by decide +kernel
theorem dX9_isLess_28 : decode cX9_isLess 28 = .ok (.aload_n 0, 1) := by decide +kernel
theorem dX9_isLess_29 : decode cX9_isLess 29 = .ok (.getfield 54, 3) := by decide +kernel
theorem dX9_isLess_32 : decode cX9_isLess 32 = .ok (.iload_n 2, 1) := by decide +kernel
theorem dX9_isLess_33 : decode cX9_isLess 33 = .ok (.iaload, 1) := by decide +kernel
theorem dX9_isLess_34 : decode cX9_isLess 34 = .ok (.if_icmp .ge 7, 3) := by decide +kernel
theorem dX9_isLess_37 : decode cX9_isLess 37 = .ok (.iconst 1, 1) := by decide +kernel
theorem dX9_isLess_38 : decode cX9_isLess 38 = .ok (.goto 4, 3) := by decide +kernel
theorem dX9_isLess_41 : decode cX9_isLess 41 = .ok (.iconst 0, 1) := by decide +kernel
theorem dX9_isLess_42 : decode cX9_isLess 42 = .ok (.ireturn, 1) := by decide +kernel
theorem dX9_isLess_43 : decode cX9_isLess 43 = .ok (.iinc 2 1, 3) := by decide +kernel
theorem dX9_isLess_46 : decode cX9_isLess 46 = .ok (.goto (-44), 3) := by decide +kernel
theorem dX9_isLess_49 : decode cX9_isLess 49 = .ok (.iconst 0, 1) := by decide +kernel
theorem dX9_isLess_50 : decode cX9_isLess 50 = .ok (.ireturn, 1) := by decide +kernel
theorem dX9_way_0 : decode cX9_way 0 = .ok (.iload_n 1, 1) := by decide +kernel
theorem dX9_way_1 : decode cX9_way 1 = .ok (.iconst 1, 1) := by decide +kernel
theorem dX9_way_2 : decode cX9_way 2 = .ok (.if_icmp .lt 21, 3) := by decide +kernel
theorem dX9_way_5 : decode cX9_way 5 = .ok (.iload_n 1, 1) := by decide +kernel
theorem dX9_way_6 : decode cX9_way 6 = .ok (.bipush 8, 2) := by decide +kernel
theorem dX9_way_8 : decode cX9_way 8 = .ok (.if_icmp .gt 15, 3) := by decide +kernel
theorem dX9_way_11 : decode cX9_way 11 = .ok (.iload_n 2, 1) := by decide +kernel
theorem dX9_way_12 : decode cX9_way 12 = .ok (.bipush (-30), 2) := by decide +kernel
theorem dX9_way_14 : decode cX9_way 14 = .ok (.if_icmp .lt 9, 3) := by decide +kernel
theorem dX9_way_17 : decode cX9_way 17 = .ok (.iload_n 2, 1) := by decide +kernel
theorem dX9_way_18 : decode cX9_way 18 = .ok (.bipush 40, 2) := by decide +kernel
theorem dX9_way_20 : decode cX9_way 20 = .ok (.if_icmp .le 5, 3) := by decide +kernel
theorem dX9_way_23 : decode cX9_way 23 = .ok (.iconst (-1), 1) := by decide +kernel
theorem dX9_way_24 : decode cX9_way 24 = .ok (.ireturn, 1) := by decide +kernel
theorem dX9_way_25 : decode cX9_way 25 = .ok (.aload_n 0, 1) := by decide +kernel
theorem dX9_way_26 : decode cX9_way 26 = .ok (.aload_n 0, 1) := by decide +kernel
theorem dX9_way_27 : decode cX9_way 27 = .ok (.getfield 125, 3) := by decide +kernel
theorem dX9_way_30 : decode cX9_way 30 = .ok (.invokevirtual 142, 3) := by decide +kernel
theorem dX9_way_33 : decode cX9_way 33 = .ok (.istore_n 3, 1) := by decide +kernel
theorem dX9_way_34 : decode cX9_way 34 = .ok (.iconst 0, 1) := by decide +kernel
theorem dX9_way_35 : decode cX9_way 35 = .ok (.istore 4, 2) := by decide +kernel
theorem dX9_way_37 : decode cX9_way 37 = .ok (.iload 4, 2) := by decide +kernel
theorem dX9_way_39 : decode cX9_way 39 = .ok (.bipush 6, 2) := by decide +kernel
theorem dX9_way_41 : decode cX9_way 41 = .ok (.if_icmp .ge 23, 3) := by decide +kernel
theorem dX9_way_44 : decode cX9_way 44 = .ok (.aload_n 0, 1) := by decide +kernel
theorem dX9_way_45 : decode cX9_way 45 = .ok (.getfield 48, 3) := by decide +kernel
theorem dX9_way_48 : decode cX9_way 48 = .ok (.iload 4, 2) := by decide +kernel
theorem dX9_way_50 : decode cX9_way 50 = .ok (.aload_n 0, 1) := by decide +kernel
theorem dX9_way_51 : decode cX9_way 51 = .ok (.getfield 39, 3) := by decide +kernel
theorem dX9_way_54 : decode cX9_way 54 = .ok (.iload 4, 2) := by decide +kernel
theorem dX9_way_56 : decode cX9_way 56 = .ok (.iaload, 1) := by decide +kernel
theorem dX9_way_57 : decode cX9_way 57 = .ok (.iastore, 1) := by decide +kernel
theorem dX9_way_58 : decode cX9_way 58 = .ok (.iinc 4 1, 3) := by decide +kernel
theorem dX9_way_61 : decode cX9_way 61 = .ok (.goto (-24), 3) := by decide +kernel
theorem dX9_way_64 : decode cX9_way 64 = .ok (.iconst 1, 1) := by decide +kernel
theorem dX9_way_65 : decode cX9_way 65 = .ok (.istore 4, 2) := by decide +kernel
theorem dX9_way_67 : decode cX9_way 67 = .ok (.iconst 0, 1) := by decide +kernel
theorem dX9_way_68 : decode cX9_way 68 = .ok (.istore 5, 2) := by decide +kernel
theorem dX9_way_70 : decode cX9_way 70 = .ok (.iload 5, 2) := by decide +kernel
theorem dX9_way_72 : decode cX9_way 72 = .ok (.iload_n 1, 1) := by decide +kernel
theorem dX9_way_73 : decode cX9_way 73 = .ok (.if_icmp .ge 15, 3) := by decide +kernel
theorem dX9_way_76 : decode cX9_way 76 = .ok (.iconst 3, 1) := by decide +kernel
theorem dX9_way_77 : decode cX9_way 77 = .ok (.iload 4, 2) := by decide +kernel
theorem dX9_way_79 : decode cX9_way 79 = .ok (.imul, 1) := by decide +kernel
theorem dX9_way_80 : decode cX9_way 80 = .ok (.istore 4, 2) := by decide +kernel
theorem dX9_way_82 : decode cX9_way 82 = .ok (.iinc 5 1, 3) := by decide +kernel
theorem dX9_way_85 : decode cX9_way 85 = .ok (.goto (-15), 3) := by decide +kernel
theorem dX9_way_88 : decode cX9_way 88 = .ok (.aload_n 0, 1) := by decide +kernel
theorem dX9_way_89 : decode cX9_way 89 = .ok (.iconst (-1), 1) := by decide +kernel
theorem dX9_way_90 : decode cX9_way 90 = .ok (.putfield 156, 3) := by decide +kernel
theorem dX9_way_93 : decode cX9_way 93 = .ok (.iconst 0, 1) := by decide +kernel
theorem dX9_way_94 : decode cX9_way 94 = .ok (.istore 5, 2) := by decide +kernel
theorem dX9_way_96 : decode cX9_way 96 = .ok (.iload 5, 2) := by decide +kernel
theorem dX9_way_98 : decode cX9_way 98 = .ok (.iload 4, 2) := by decide +kernel
theorem dX9_way_100 : decode cX9_way 100 = .ok (.if_icmp .ge 217, 3) := by decide +kernel
theorem dX9_way_103 : decode cX9_way 103 = .ok (.aload_n 0, 1) := by decide +kernel
theorem dX9_way_104 : decode cX9_way 104 = .ok (.iload 5, 2) := by decide +kernel
theorem dX9_way_106 : decode cX9_way 106 = .ok (.iload_n 1, 1) := by decide +kernel
theorem dX9_way_107 : decode cX9_way 107 = .ok (.invokevirtual 159, 3) := by decide +kernel
theorem dX9_way_110 : decode cX9_way 110 = .ok (.ifCond .ne 6, 3) := by decide +kernel
theorem dX9_way_113 : decode cX9_way 113 = .ok (.goto 198, 3) := by decide +kernel
theorem dX9_way_116 : decode cX9_way 116 = .ok (.iconst 0, 1) := by decide +kernel
theorem dX9_way_117 : decode cX9_way 117 = .ok (.istore 6, 2) := by decide +kernel
theorem dX9_way_119 : decode cX9_way 119 = .ok (.iconst 0, 1) := by decide +kernel
theorem dX9_way_120 : decode cX9_way 120 = .ok (.istore 7, 2) := by decide +kernel
theorem dX9_way_122 : decode cX9_way 122 = .ok (.iload 7, 2) := by decide +kernel
theorem dX9_way_124 : decode cX9_way 124 = .ok (.iload_n 1, 1) := by decide +kernel
theorem dX9_way_125 : decode cX9_way 125 = .ok (.if_icmp .ge 31, 3) := by decide +kernel
theorem dX9_way_128 : decode cX9_way 128 = .ok (.aload_n 0, 1) := by decide +kernel
theorem dX9_way_129 : decode cX9_way 129 = .ok (.iload_n 2, 1) := by decide +kernel
theorem dX9_way_130 : decode cX9_way 130 = .ok (.invokevirtual 139, 3) := by decide +kernel
theorem dX9_way_133 : decode cX9_way 133 = .ok (.iload 6, 2) := by decide +kernel
theorem dX9_way_135 : decode cX9_way 135 = .ok (.aload_n 0, 1) := by decide +kernel
theorem dX9_way_136 : decode cX9_way 136 = .ok (.aload_n 0, 1) := by decide +kernel
theorem dX9_way_137 : decode cX9_way 137 = .ok (.getfield 51, 3) := by decide +kernel
theorem dX9_way_140 : decode cX9_way 140 = .ok (.iload 7, 2) := by decide +kernel
theorem dX9_way_142 : decode cX9_way 142 = .ok (.iaload, 1) := by decide +kernel
theorem dX9_way_143 : decode cX9_way 143 = .ok (.iload_n 3, 1) := by decide +kernel
theorem dX9_way_144 : decode cX9_way 144 = .ok (.invokevirtual 145, 3) := by decide +kernel
theorem dX9_way_147 : decode cX9_way 147 = .ok (.iadd, 1) := by decide +kernel
theorem dX9_way_148 : decode cX9_way 148 = .ok (.istore 6, 2) := by decide +kernel
theorem dX9_way_150 : decode cX9_way 150 = .ok (.iinc 7 1, 3) := by decide +kernel
theorem dX9_way_153 : decode cX9_way 153 = .ok (.goto (-31), 3) := by decide +kernel
theorem dX9_way_156 : decode cX9_way 156 = .ok (.iconst 0, 1) := by decide +kernel
theorem dX9_way_157 : decode cX9_way 157 = .ok (.istore 7, 2) := by decide +kernel
theorem dX9_way_159 : decode cX9_way 159 = .ok (.iconst 0, 1) := by decide +kernel
theorem dX9_way_160 : decode cX9_way 160 = .ok (.istore 8, 2) := by decide +kernel
theorem dX9_way_162 : decode cX9_way 162 = .ok (.iload 8, 2) := by decide +kernel
theorem dX9_way_164 : decode cX9_way 164 = .ok (.aload_n 0, 1) := by decide +kernel
theorem dX9_way_165 : decode cX9_way 165 = .ok (.getfield 30, 3) := by decide +kernel
theorem dX9_way_168 : decode cX9_way 168 = .ok (.if_icmp .ge 35, 3) := by decide +kernel
theorem dX9_way_171 : decode cX9_way 171 = .ok (.iload 7, 2) := by decide +kernel
theorem dX9_way_173 : decode cX9_way 173 = .ok (.aload_n 0, 1) := by decide +kernel
theorem dX9_way_174 : decode cX9_way 174 = .ok (.getfield 39, 3) := by decide +kernel
theorem dX9_way_177 : decode cX9_way 177 = .ok (.iload 8, 2) := by decide +kernel
theorem dX9_way_179 : decode cX9_way 179 = .ok (.iaload, 1) := by decide +kernel
theorem dX9_way_180 : decode cX9_way 180 = .ok (.iadd, 1) := by decide +kernel
theorem dX9_way_181 : decode cX9_way 181 = .ok (.istore 7, 2) := by decide +kernel
theorem dX9_way_183 : decode cX9_way 183 = .ok (.aload_n 0, 1) := by decide +kernel
theorem dX9_way_184 : decode cX9_way 184 = .ok (.getfield 39, 3) := by decide +kernel
theorem dX9_way_187 : decode cX9_way 187 = .ok (.iload 8, 2) := by decide +kernel
theorem dX9_way_189 : decode cX9_way 189 = .ok (.aload_n 0, 1) := by decide +kernel
theorem dX9_way_190 : decode cX9_way 190 = .ok (.getfield 48, 3) := by decide +kernel
theorem dX9_way_193 : decode cX9_way 193 = .ok (.iload 8, 2) := by decide +kernel
theorem dX9_way_195 : decode cX9_way 195 = .ok (.iaload, 1) := by decide +kernel
theorem dX9_way_196 : decode cX9_way 196 = .ok (.iastore, 1) := by decide +kernel
theorem dX9_way_197 : decode cX9_way 197 = .ok (.iinc 8 1, 3) := by decide +kernel
theorem dX9_way_200 : decode cX9_way 200 = .ok (.goto (-38), 3) := by decide +kernel
theorem dX9_way_203 : decode cX9_way 203 = .ok (.aload_n 0, 1) := by decide +kernel
theorem dX9_way_204 : decode cX9_way 204 = .ok (.getfield 156, 3) := by decide +kernel
theorem dX9_way_207 : decode cX9_way 207 = .ok (.iconst (-1), 1) := by decide +kernel
theorem dX9_way_208 : decode cX9_way 208 = .ok (.if_icmp .eq 47, 3) := by decide +kernel
theorem dX9_way_211 : decode cX9_way 211 = .ok (.iload 6, 2) := by decide +kernel
theorem dX9_way_213 : decode cX9_way 213 = .ok (.aload_n 0, 1) := by decide +kernel
theorem dX9_way_214 : decode cX9_way 214 = .ok (.getfield 156, 3) := by decide +kernel
theorem dX9_way_217 : decode cX9_way 217 = .ok (.if_icmp .lt 38, 3) := by decide +kernel
theorem dX9_way_220 : decode cX9_way 220 = .ok (.iload 6, 2) := by decide +kernel
theorem dX9_way_222 : decode cX9_way 222 = .ok (.aload_n 0, 1) := by decide +kernel
theorem dX9_way_223 : decode cX9_way 223 = .ok (.getfield 156, 3) := by decide +kernel
theorem dX9_way_226 : decode cX9_way 226 = .ok (.if_icmp .ne 33, 3) := by decide +kernel
theorem dX9_way_229 : decode cX9_way 229 = .ok (.iload 7, 2) := by decide +kernel
theorem dX9_way_231 : decode cX9_way 231 = .ok (.aload_n 0, 1) := by decide +kernel
theorem dX9_way_232 : decode cX9_way 232 = .ok (.getfield 162, 3) := by decide +kernel
theorem dX9_way_235 : decode cX9_way 235 = .ok (.if_icmp .gt 20, 3) := by decide +kernel
theorem dX9_way_238 : decode cX9_way 238 = .ok (.iload 7, 2) := by decide +kernel
theorem dX9_way_240 : decode cX9_way 240 = .ok (.aload_n 0, 1) := by decide +kernel
theorem dX9_way_241 : decode cX9_way 241 = .ok (.getfield 162, 3) := by decide +kernel
theorem dX9_way_244 : decode cX9_way 244 = .ok (.if_icmp .ne 15, 3) := by decide +kernel
theorem dX9_way_247 : decode cX9_way 247 = .ok (.aload_n 0, 1) := by decide +kernel
theorem dX9_way_248 : decode cX9_way 248 = .ok (.iload_n 1, 1) := by decide +kernel
theorem dX9_way_249 : decode cX9_way 249 = .ok (.invokevirtual 165, 3) := by decide +kernel
theorem dX9_way_252 : decode cX9_way 252 = .ok (.ifCond .eq 7, 3) := by decide +kernel
theorem dX9_way_255 : decode cX9_way 255 = .ok (.iconst 1, 1) := by decide +kernel
theorem dX9_way_256 : decode cX9_way 256 = .ok (.goto 4, 3) := by decide +kernel
theorem dX9_way_259 : decode cX9_way 259 = .ok (.iconst 0, 1) := by decide +kernel
theorem dX9_way_260 : decode cX9_way 260 = .ok (.istore 8, 2) := by decide +kernel
theorem dX9_way_262 : decode cX9_way 262 = .ok (.iload 8, 2) := by decide +kernel
theorem dX9_way_264 : decode cX9_way 264 = .ok (.ifCond .ne 6, 3) := by decide +kernel
theorem dX9_way_267 : decode cX9_way 267 = .ok (.goto 44, 3) := by decide +kernel
theorem dX9_way_270 : decode cX9_way 270 = .ok (.aload_n 0, 1) := by decide +kernel
theorem dX9_way_271 : decode cX9_way 271 = .ok (.iload 6, 2) := by decide +kernel
theorem dX9_way_273 : decode cX9_way 273 = .ok (.putfield 156, 3) := by decide +kernel
theorem dX9_way_276 : decode cX9_way 276 = .ok (.aload_n 0, 1) := by decide +kernel
theorem dX9_way_277 : decode cX9_way 277 = .ok (.iload 7, 2) := by decide +kernel
theorem dX9_way_279 : decode cX9_way 279 = .ok (.putfield 162, 3) := by decide +kernel
theorem dX9_way_282 : decode cX9_way 282 = .ok (.iconst 0, 1) := by decide +kernel
theorem dX9_way_283 : decode cX9_way 283 = .ok (.istore 9, 2) := by decide +kernel
theorem dX9_way_285 : decode cX9_way 285 = .ok (.iload 9, 2) := by decide +kernel
theorem dX9_way_287 : decode cX9_way 287 = .ok (.iload_n 1, 1) := by decide +kernel
theorem dX9_way_288 : decode cX9_way 288 = .ok (.if_icmp .ge 23, 3) := by decide +kernel
theorem dX9_way_291 : decode cX9_way 291 = .ok (.aload_n 0, 1) := by decide +kernel
theorem dX9_way_292 : decode cX9_way 292 = .ok (.getfield 54, 3) := by decide +kernel
theorem dX9_way_295 : decode cX9_way 295 = .ok (.iload 9, 2) := by decide +kernel
theorem dX9_way_297 : decode cX9_way 297 = .ok (.aload_n 0, 1) := by decide +kernel
theorem dX9_way_298 : decode cX9_way 298 = .ok (.getfield 51, 3) := by decide +kernel
theorem dX9_way_301 : decode cX9_way 301 = .ok (.iload 9, 2) := by decide +kernel
theorem dX9_way_303 : decode cX9_way 303 = .ok (.iaload, 1) := by decide +kernel
theorem dX9_way_304 : decode cX9_way 304 = .ok (.iastore, 1) := by decide +kernel
theorem dX9_way_305 : decode cX9_way 305 = .ok (.iinc 9 1, 3) := by decide +kernel
theorem dX9_way_308 : decode cX9_way 308 = .ok (.goto (-23), 3) := by decide +kernel
theorem dX9_way_311 : decode cX9_way 311 = .ok (.iinc 5 1, 3) := by decide +kernel
theorem dX9_way_314 : decode cX9_way 314 = .ok (.goto (-218), 3) := by decide +kernel
theorem dX9_way_317 : decode cX9_way 317 = .ok (.aload_n 0, 1) := by decide +kernel
theorem dX9_way_318 : decode cX9_way 318 = .ok (.iload_n 1, 1) := by decide +kernel
theorem dX9_way_319 : decode cX9_way 319 = .ok (.putfield 168, 3) := by decide +kernel
theorem dX9_way_322 : decode cX9_way 322 = .ok (.aload_n 0, 1) := by decide +kernel
theorem dX9_way_323 : decode cX9_way 323 = .ok (.getfield 156, 3) := by decide +kernel
theorem dX9_way_326 : decode cX9_way 326 = .ok (.ireturn, 1) := by decide +kernel
theorem dX9_step_0 : decode cX9_step 0 = .ok (.iload_n 1, 1) := by decide +kernel
theorem dX9_step_1 : decode cX9_step 1 = .ok (.ifCond .lt 20, 3) := by decide +kernel
theorem dX9_step_4 : decode cX9_step 4 = .ok (.iload_n 1, 1) := by decide +kernel
theorem dX9_step_5 : decode cX9_step 5 = .ok (.aload_n 0, 1) := by decide +kernel
theorem dX9_step_6 : decode cX9_step 6 = .ok (.getfield 168, 3) := by decide +kernel
theorem dX9_step_9 : decode cX9_step 9 = .ok (.if_icmp .ge 12, 3) := by decide +kernel
theorem dX9_step_12 : decode cX9_step 12 = .ok (.aload_n 0, 1) := by decide +kernel
theorem dX9_step_13 : decode cX9_step 13 = .ok (.getfield 54, 3) := by decide +kernel
theorem dX9_step_16 : decode cX9_step 16 = .ok (.iload_n 1, 1) := by decide +kernel
theorem dX9_step_17 : decode cX9_step 17 = .ok (.iaload, 1) := by decide +kernel
theorem dX9_step_18 : decode cX9_step 18 = .ok (.goto 4, 3) := by decide +kernel
theorem dX9_step_21 : decode cX9_step 21 = .ok (.iconst (-1), 1) := by decide +kernel
theorem dX9_step_22 : decode cX9_step 22 = .ok (.ireturn, 1) := by decide +kernel
theorem dX9_sheep_0 : decode cX9_sheep 0 = .ok (.iload_n 1, 1) := by decide +kernel
theorem dX9_sheep_1 : decode cX9_sheep 1 = .ok (.ifCond .lt 25, 3) := by decide +kernel
theorem dX9_sheep_4 : decode cX9_sheep 4 = .ok (.iload_n 1, 1) := by decide +kernel
theorem dX9_sheep_5 : decode cX9_sheep 5 = .ok (.bipush 12, 2) := by decide +kernel
theorem dX9_sheep_7 : decode cX9_sheep 7 = .ok (.if_icmp .ge 19, 3) := by decide +kernel
theorem dX9_sheep_10 : decode cX9_sheep 10 = .ok (.aload_n 0, 1) := by decide +kernel
theorem dX9_sheep_11 : decode cX9_sheep 11 = .ok (.getfield 171, 3) := by decide +kernel
theorem dX9_sheep_14 : decode cX9_sheep 14 = .ok (.bipush 80, 2) := by decide +kernel
theorem dX9_sheep_16 : decode cX9_sheep 16 = .ok (.if_icmp .eq 10, 3) := by decide +kernel
theorem dX9_sheep_19 : decode cX9_sheep 19 = .ok (.aload_n 0, 1) := by decide +kernel
theorem dX9_sheep_20 : decode cX9_sheep 20 = .ok (.getfield 128, 3) := by decide +kernel
theorem dX9_sheep_23 : decode cX9_sheep 23 = .ok (.ifCond .le 5, 3) := by decide +kernel
theorem dX9_sheep_26 : decode cX9_sheep 26 = .ok (.iconst (-1), 1) := by decide +kernel
theorem dX9_sheep_27 : decode cX9_sheep 27 = .ok (.ireturn, 1) := by decide +kernel
theorem dX9_sheep_28 : decode cX9_sheep 28 = .ok (.aload_n 0, 1) := by decide +kernel
theorem dX9_sheep_29 : decode cX9_sheep 29 = .ok (.getfield 60, 3) := by decide +kernel
theorem dX9_sheep_32 : decode cX9_sheep 32 = .ok (.aload_n 0, 1) := by decide +kernel
theorem dX9_sheep_33 : decode cX9_sheep 33 = .ok (.getfield 171, 3) := by decide +kernel
theorem dX9_sheep_36 : decode cX9_sheep 36 = .ok (.iload_n 1, 1) := by decide +kernel
theorem dX9_sheep_37 : decode cX9_sheep 37 = .ok (.iastore, 1) := by decide +kernel
theorem dX9_sheep_38 : decode cX9_sheep 38 = .ok (.aload_n 0, 1) := by decide +kernel
theorem dX9_sheep_39 : decode cX9_sheep 39 = .ok (.getfield 63, 3) := by decide +kernel
theorem dX9_sheep_42 : decode cX9_sheep 42 = .ok (.aload_n 0, 1) := by decide +kernel
theorem dX9_sheep_43 : decode cX9_sheep 43 = .ok (.getfield 171, 3) := by decide +kernel
theorem dX9_sheep_46 : decode cX9_sheep 46 = .ok (.iconst 0, 1) := by decide +kernel
theorem dX9_sheep_47 : decode cX9_sheep 47 = .ok (.iastore, 1) := by decide +kernel
theorem dX9_sheep_48 : decode cX9_sheep 48 = .ok (.aload_n 0, 1) := by decide +kernel
theorem dX9_sheep_49 : decode cX9_sheep 49 = .ok (.getfield 66, 3) := by decide +kernel
theorem dX9_sheep_52 : decode cX9_sheep 52 = .ok (.aload_n 0, 1) := by decide +kernel
theorem dX9_sheep_53 : decode cX9_sheep 53 = .ok (.getfield 171, 3) := by decide +kernel
theorem dX9_sheep_56 : decode cX9_sheep 56 = .ok (.iconst 0, 1) := by decide +kernel
theorem dX9_sheep_57 : decode cX9_sheep 57 = .ok (.bastore, 1) := by decide +kernel
theorem dX9_sheep_58 : decode cX9_sheep 58 = .ok (.aload_n 0, 1) := by decide +kernel
theorem dX9_sheep_59 : decode cX9_sheep 59 = .ok (.aload_n 0, 1) := by decide +kernel
theorem dX9_sheep_60 : decode cX9_sheep 60 = .ok (.getfield 171, 3) := by decide +kernel
theorem dX9_sheep_63 : decode cX9_sheep 63 = .ok (.iconst 1, 1) := by decide +kernel
theorem dX9_sheep_64 : decode cX9_sheep 64 = .ok (.iadd, 1) := by decide +kernel
theorem dX9_sheep_65 : decode cX9_sheep 65 = .ok (.putfield 171, 3) := by decide +kernel
theorem dX9_sheep_68 : decode cX9_sheep 68 = .ok (.aload_n 0, 1) := by decide +kernel
theorem dX9_sheep_69 : decode cX9_sheep 69 = .ok (.getfield 171, 3) := by decide +kernel
theorem dX9_sheep_72 : decode cX9_sheep 72 = .ok (.iconst 1, 1) := by decide +kernel
theorem dX9_sheep_73 : decode cX9_sheep 73 = .ok (.isub, 1) := by decide +kernel
theorem dX9_sheep_74 : decode cX9_sheep 74 = .ok (.ireturn, 1) := by decide +kernel
theorem dX9_isSheep_0 : decode cX9_isSheep 0 = .ok (.iload_n 1, 1) := by decide +kernel
theorem dX9_isSheep_1 : decode cX9_isSheep 1 = .ok (.ifCond .lt 15, 3) := by decide +kernel
theorem dX9_isSheep_4 : decode cX9_isSheep 4 = .ok (.iload_n 1, 1) := by decide +kernel
theorem dX9_isSheep_5 : decode cX9_isSheep 5 = .ok (.aload_n 0, 1) := by decide +kernel
theorem dX9_isSheep_6 : decode cX9_isSheep 6 = .ok (.getfield 171, 3) := by decide +kernel
theorem dX9_isSheep_9 : decode cX9_isSheep 9 = .ok (.if_icmp .ge 7, 3) := by decide +kernel
theorem dX9_isSheep_12 : decode cX9_isSheep 12 = .ok (.iconst 1, 1) := by decide +kernel
theorem dX9_isSheep_13 : decode cX9_isSheep 13 = .ok (.goto 4, 3) := by decide +kernel
theorem dX9_isSheep_16 : decode cX9_isSheep 16 = .ok (.iconst 0, 1) := by decide +kernel
theorem dX9_isSheep_17 : decode cX9_isSheep 17 = .ok (.ireturn, 1) := by decide +kernel
theorem dX9_fitsAct_0 : decode cX9_fitsAct 0 = .ok (.aload_n 0, 1) := by decide +kernel
theorem dX9_fitsAct_1 : decode cX9_fitsAct 1 = .ok (.getfield 70, 3) := by decide +kernel
theorem dX9_fitsAct_4 : decode cX9_fitsAct 4 = .ok (.iload_n 1, 1) := by decide +kernel
theorem dX9_fitsAct_5 : decode cX9_fitsAct 5 = .ok (.iaload, 1) := by decide +kernel
theorem dX9_fitsAct_6 : decode cX9_fitsAct 6 = .ok (.tableswitch 51 0 2 #[26, 46, 46], 26) := by decide +kernel
theorem dX9_fitsAct_32 : decode cX9_fitsAct 32 = .ok (.aload_n 0, 1) := by decide +kernel
theorem dX9_fitsAct_33 : decode cX9_fitsAct 33 = .ok (.getfield 174, 3) := by decide +kernel
theorem dX9_fitsAct_36 : decode cX9_fitsAct 36 = .ok (.ifCond .ne 14, 3) := by decide +kernel
theorem dX9_fitsAct_39 : decode cX9_fitsAct 39 = .ok (.aload_n 0, 1) := by decide +kernel
theorem dX9_fitsAct_40 : decode cX9_fitsAct 40 = .ok (.getfield 178, 3) := by decide +kernel
theorem dX9_fitsAct_43 : decode cX9_fitsAct 43 = .ok (.ifCond .ne 7, 3) := by decide +kernel
theorem dX9_fitsAct_46 : decode cX9_fitsAct 46 = .ok (.iconst 1, 1) := by decide +kernel
theorem dX9_fitsAct_47 : decode cX9_fitsAct 47 = .ok (.goto 4, 3) := by decide +kernel
theorem dX9_fitsAct_50 : decode cX9_fitsAct 50 = .ok (.iconst 0, 1) := by decide +kernel
theorem dX9_fitsAct_51 : decode cX9_fitsAct 51 = .ok (.ireturn, 1) := by decide +kernel
theorem dX9_fitsAct_52 : decode cX9_fitsAct 52 = .ok (.aload_n 0, 1) := by decide +kernel
theorem dX9_fitsAct_53 : decode cX9_fitsAct 53 = .ok (.getfield 174, 3) := by decide +kernel
theorem dX9_fitsAct_56 : decode cX9_fitsAct 56 = .ok (.ireturn, 1) := by decide +kernel
theorem dX9_fitsAct_57 : decode cX9_fitsAct 57 = .ok (.aload_n 0, 1) := by decide +kernel
theorem dX9_fitsAct_58 : decode cX9_fitsAct 58 = .ok (.getfield 178, 3) := by decide +kernel
theorem dX9_fitsAct_61 : decode cX9_fitsAct 61 = .ok (.ifCond .ne 20, 3) := by decide +kernel
theorem dX9_fitsAct_64 : decode cX9_fitsAct 64 = .ok (.aload_n 0, 1) := by decide +kernel
theorem dX9_fitsAct_65 : decode cX9_fitsAct 65 = .ok (.getfield 79, 3) := by decide +kernel
theorem dX9_fitsAct_68 : decode cX9_fitsAct 68 = .ok (.iload_n 1, 1) := by decide +kernel
theorem dX9_fitsAct_69 : decode cX9_fitsAct 69 = .ok (.iaload, 1) := by decide +kernel
theorem dX9_fitsAct_70 : decode cX9_fitsAct 70 = .ok (.aload_n 0, 1) := by decide +kernel
theorem dX9_fitsAct_71 : decode cX9_fitsAct 71 = .ok (.getfield 181, 3) := by decide +kernel
theorem dX9_fitsAct_74 : decode cX9_fitsAct 74 = .ok (.if_icmp .eq 7, 3) := by decide +kernel
theorem dX9_fitsAct_77 : decode cX9_fitsAct 77 = .ok (.iconst 1, 1) := by decide +kernel
theorem dX9_fitsAct_78 : decode cX9_fitsAct 78 = .ok (.goto 4, 3) := by decide +kernel
theorem dX9_fitsAct_81 : decode cX9_fitsAct 81 = .ok (.iconst 0, 1) := by decide +kernel
theorem dX9_fitsAct_82 : decode cX9_fitsAct 82 = .ok (.ireturn, 1) := by decide +kernel
theorem dX9_does_0 : decode cX9_does 0 = .ok (.aload_n 0, 1) := by decide +kernel
theorem dX9_does_1 : decode cX9_does 1 = .ok (.getfield 70, 3) := by decide +kernel
theorem dX9_does_4 : decode cX9_does 4 = .ok (.iload_n 1, 1) := by decide +kernel
theorem dX9_does_5 : decode cX9_does 5 = .ok (.iaload, 1) := by decide +kernel
theorem dX9_does_6 : decode cX9_does 6 = .ok (.iconst 3, 1) := by decide +kernel
theorem dX9_does_7 : decode cX9_does 7 = .ok (.if_icmp .ne 16, 3) := by decide +kernel
theorem dX9_does_10 : decode cX9_does 10 = .ok (.aload_n 0, 1) := by decide +kernel
theorem dX9_does_11 : decode cX9_does 11 = .ok (.aload_n 0, 1) := by decide +kernel
theorem dX9_does_12 : decode cX9_does 12 = .ok (.getfield 79, 3) := by decide +kernel
theorem dX9_does_15 : decode cX9_does 15 = .ok (.iload_n 1, 1) := by decide +kernel
theorem dX9_does_16 : decode cX9_does 16 = .ok (.iaload, 1) := by decide +kernel
theorem dX9_does_17 : decode cX9_does 17 = .ok (.putfield 181, 3) := by decide +kernel
theorem dX9_does_20 : decode cX9_does 20 = .ok (.goto 21, 3) := by decide +kernel
theorem dX9_does_23 : decode cX9_does 23 = .ok (.aload_n 0, 1) := by decide +kernel
theorem dX9_does_24 : decode cX9_does 24 = .ok (.aload_n 0, 1) := by decide +kernel
theorem dX9_does_25 : decode cX9_does 25 = .ok (.getfield 70, 3) := by decide +kernel
theorem dX9_does_28 : decode cX9_does 28 = .ok (.iload_n 1, 1) := by decide +kernel
theorem dX9_does_29 : decode cX9_does 29 = .ok (.iaload, 1) := by decide +kernel
theorem dX9_does_30 : decode cX9_does 30 = .ok (.ifCond .ne 7, 3) := by decide +kernel
theorem dX9_does_33 : decode cX9_does 33 = .ok (.iconst 1, 1) := by decide +kernel
theorem dX9_does_34 : decode cX9_does 34 = .ok (.goto 4, 3) := by decide +kernel
theorem dX9_does_37 : decode cX9_does 37 = .ok (.iconst 0, 1) := by decide +kernel
theorem dX9_does_38 : decode cX9_does 38 = .ok (.putfield 174, 3) := by decide +kernel
theorem dX9_does_41 : decode cX9_does 41 = .ok (.aload_n 0, 1) := by decide +kernel
theorem dX9_does_42 : decode cX9_does 42 = .ok (.getfield 70, 3) := by decide +kernel
theorem dX9_does_45 : decode cX9_does 45 = .ok (.iload_n 1, 1) := by decide +kernel
theorem dX9_does_46 : decode cX9_does 46 = .ok (.iaload, 1) := by decide +kernel
theorem dX9_does_47 : decode cX9_does 47 = .ok (.iconst 2, 1) := by decide +kernel
theorem dX9_does_48 : decode cX9_does 48 = .ok (.if_icmp .ne 8, 3) := by decide +kernel
theorem dX9_does_51 : decode cX9_does 51 = .ok (.aload_n 0, 1) := by decide +kernel
theorem dX9_does_52 : decode cX9_does 52 = .ok (.iconst 1, 1) := by decide +kernel
theorem dX9_does_53 : decode cX9_does 53 = .ok (.putfield 178, 3) := by decide +kernel
theorem dX9_does_56 : decode cX9_does 56 = .ok (.return_, 1) := by decide +kernel
theorem dX9_asks_0 : decode cX9_asks 0 = .ok (.aload_n 0, 1) := by decide +kernel
theorem dX9_asks_1 : decode cX9_asks 1 = .ok (.iconst 0, 1) := by decide +kernel
theorem dX9_asks_2 : decode cX9_asks 2 = .ok (.putfield 174, 3) := by decide +kernel
theorem dX9_asks_5 : decode cX9_asks 5 = .ok (.aload_n 0, 1) := by decide +kernel
theorem dX9_asks_6 : decode cX9_asks 6 = .ok (.aload_n 0, 1) := by decide +kernel
theorem dX9_asks_7 : decode cX9_asks 7 = .ok (.getfield 66, 3) := by decide +kernel
theorem dX9_asks_10 : decode cX9_asks 10 = .ok (.iload_n 2, 1) := by decide +kernel
theorem dX9_asks_11 : decode cX9_asks 11 = .ok (.baload, 1) := by decide +kernel
theorem dX9_asks_12 : decode cX9_asks 12 = .ok (.putfield 178, 3) := by decide +kernel
theorem dX9_asks_15 : decode cX9_asks 15 = .ok (.aload_n 0, 1) := by decide +kernel
theorem dX9_asks_16 : decode cX9_asks 16 = .ok (.aload_n 0, 1) := by decide +kernel
theorem dX9_asks_17 : decode cX9_asks 17 = .ok (.getfield 60, 3) := by decide +kernel
theorem dX9_asks_20 : decode cX9_asks 20 = .ok (.iload_n 2, 1) := by decide +kernel
theorem dX9_asks_21 : decode cX9_asks 21 = .ok (.iaload, 1) := by decide +kernel
theorem dX9_asks_22 : decode cX9_asks 22 = .ok (.putfield 181, 3) := by decide +kernel
theorem dX9_asks_25 : decode cX9_asks 25 = .ok (.iconst 1, 1) := by decide +kernel
theorem dX9_asks_26 : decode cX9_asks 26 = .ok (.istore 4, 2) := by decide +kernel
theorem dX9_asks_28 : decode cX9_asks 28 = .ok (.iconst 1, 1) := by decide +kernel
theorem dX9_asks_29 : decode cX9_asks 29 = .ok (.istore 5, 2) := by decide +kernel
theorem dX9_asks_31 : decode cX9_asks 31 = .ok (.iload 5, 2) := by decide +kernel
theorem dX9_asks_33 : decode cX9_asks 33 = .ok (.iload_n 3, 1) := by decide +kernel
theorem dX9_asks_34 : decode cX9_asks 34 = .ok (.if_icmp .gt 77, 3) := by decide +kernel
theorem dX9_asks_37 : decode cX9_asks 37 = .ok (.iconst 0, 1) := by decide +kernel
theorem dX9_asks_38 : decode cX9_asks 38 = .ok (.istore 6, 2) := by decide +kernel
theorem dX9_asks_40 : decode cX9_asks 40 = .ok (.iload 6, 2) := by decide +kernel
theorem dX9_asks_42 : decode cX9_asks 42 = .ok (.iload_n 1, 1) := by decide +kernel
theorem dX9_asks_43 : decode cX9_asks 43 = .ok (.if_icmp .ge 62, 3) := by decide +kernel
theorem dX9_asks_46 : decode cX9_asks 46 = .ok (.aload_n 0, 1) := by decide +kernel
theorem dX9_asks_47 : decode cX9_asks 47 = .ok (.getfield 73, 3) := by decide +kernel
theorem dX9_asks_50 : decode cX9_asks 50 = .ok (.iload 6, 2) := by decide +kernel
theorem dX9_asks_52 : decode cX9_asks 52 = .ok (.iaload, 1) := by decide +kernel
theorem dX9_asks_53 : decode cX9_asks 53 = .ok (.iload_n 2, 1) := by decide +kernel
theorem dX9_asks_54 : decode cX9_asks 54 = .ok (.if_icmp .ne 45, 3) := by decide +kernel
theorem dX9_asks_57 : decode cX9_asks 57 = .ok (.aload_n 0, 1) := by decide +kernel
theorem dX9_asks_58 : decode cX9_asks 58 = .ok (.getfield 76, 3) := by decide +kernel
theorem dX9_asks_61 : decode cX9_asks 61 = .ok (.iload 6, 2) := by decide +kernel
theorem dX9_asks_63 : decode cX9_asks 63 = .ok (.iaload, 1) := by decide +kernel
theorem dX9_asks_64 : decode cX9_asks 64 = .ok (.iload 5, 2) := by decide +kernel
theorem dX9_asks_66 : decode cX9_asks 66 = .ok (.if_icmp .eq 6, 3) := by decide +kernel
theorem dX9_asks_69 : decode cX9_asks 69 = .ok (.goto 30, 3) := by decide +kernel
theorem dX9_asks_72 : decode cX9_asks 72 = .ok (.iload 4, 2) := by decide +kernel
theorem dX9_asks_74 : decode cX9_asks 74 = .ok (.ifCond .eq 16, 3) := by decide +kernel
theorem dX9_asks_77 : decode cX9_asks 77 = .ok (.aload_n 0, 1) := by decide +kernel
theorem dX9_asks_78 : decode cX9_asks 78 = .ok (.iload 6, 2) := by decide +kernel
theorem dX9_asks_80 : decode cX9_asks 80 = .ok (.invokevirtual 184, 3) := by decide +kernel
theorem dX9_asks_83 : decode cX9_asks 83 = .ok (.ifCond .eq 7, 3) := by decide +kernel
theorem dX9_asks_86 : decode cX9_asks 86 = .ok (.iconst 1, 1) := by decide +kernel
theorem dX9_asks_87 : decode cX9_asks 87 = .ok (.goto 4, 3) := by decide +kernel
theorem dX9_asks_90 : decode cX9_asks 90 = .ok (.iconst 0, 1) := by decide +kernel
theorem dX9_asks_91 : decode cX9_asks 91 = .ok (.istore 4, 2) := by decide +kernel
theorem dX9_asks_93 : decode cX9_asks 93 = .ok (.aload_n 0, 1) := by decide +kernel
theorem dX9_asks_94 : decode cX9_asks 94 = .ok (.iload 6, 2) := by decide +kernel
theorem dX9_asks_96 : decode cX9_asks 96 = .ok (.invokevirtual 187, 3) := by decide +kernel
theorem dX9_asks_99 : decode cX9_asks 99 = .ok (.iinc 6 1, 3) := by decide +kernel
theorem dX9_asks_102 : decode cX9_asks 102 = .ok (.goto (-62), 3) := by decide +kernel
theorem dX9_asks_105 : decode cX9_asks 105 = .ok (.iinc 5 1, 3) := by decide +kernel
theorem dX9_asks_108 : decode cX9_asks 108 = .ok (.goto (-77), 3) := by decide +kernel
theorem dX9_asks_111 : decode cX9_asks 111 = .ok (.iload 4, 2) := by decide +kernel
theorem dX9_asks_113 : decode cX9_asks 113 = .ok (.ireturn, 1) := by decide +kernel
theorem dX9_ups_0 : decode cX9_ups 0 = .ok (.iconst 0, 1) := by decide +kernel
theorem dX9_ups_1 : decode cX9_ups 1 = .ok (.istore_n 2, 1) := by decide +kernel
theorem dX9_ups_2 : decode cX9_ups 2 = .ok (.iconst 0, 1) := by decide +kernel
theorem dX9_ups_3 : decode cX9_ups 3 = .ok (.istore_n 3, 1) := by decide +kernel
theorem dX9_ups_4 : decode cX9_ups 4 = .ok (.iload_n 3, 1) := by decide +kernel
theorem dX9_ups_5 : decode cX9_ups 5 = .ok (.aload_n 0, 1) := by decide +kernel
theorem dX9_ups_6 : decode cX9_ups 6 = .ok (.getfield 171, 3) := by decide +kernel
theorem dX9_ups_9 : decode cX9_ups 9 = .ok (.if_icmp .ge 35, 3) := by decide +kernel
theorem dX9_ups_12 : decode cX9_ups 12 = .ok (.aload_n 0, 1) := by decide +kernel
theorem dX9_ups_13 : decode cX9_ups 13 = .ok (.aload_n 0, 1) := by decide +kernel
theorem dX9_ups_14 : decode cX9_ups 14 = .ok (.getfield 128, 3) := by decide +kernel
theorem dX9_ups_17 : decode cX9_ups 17 = .ok (.iload_n 3, 1) := by decide +kernel
theorem dX9_ups_18 : decode cX9_ups 18 = .ok (.iload_n 1, 1) := by decide +kernel
theorem dX9_ups_19 : decode cX9_ups 19 = .ok (.invokevirtual 190, 3) := by decide +kernel
theorem dX9_ups_22 : decode cX9_ups 22 = .ok (.pop, 1) := by decide +kernel
theorem dX9_ups_23 : decode cX9_ups 23 = .ok (.iload_n 2, 1) := by decide +kernel
theorem dX9_ups_24 : decode cX9_ups 24 = .ok (.aload_n 0, 1) := by decide +kernel
theorem dX9_ups_25 : decode cX9_ups 25 = .ok (.getfield 174, 3) := by decide +kernel
theorem dX9_ups_28 : decode cX9_ups 28 = .ok (.ifCond .eq 7, 3) := by decide +kernel
theorem dX9_ups_31 : decode cX9_ups 31 = .ok (.iconst 1, 1) := by decide +kernel
theorem dX9_ups_32 : decode cX9_ups 32 = .ok (.goto 4, 3) := by decide +kernel
theorem dX9_ups_35 : decode cX9_ups 35 = .ok (.iconst 0, 1) := by decide +kernel
theorem dX9_ups_36 : decode cX9_ups 36 = .ok (.iadd, 1) := by decide +kernel
theorem dX9_ups_37 : decode cX9_ups 37 = .ok (.istore_n 2, 1) := by decide +kernel
theorem dX9_ups_38 : decode cX9_ups 38 = .ok (.iinc 3 1, 3) := by decide +kernel
theorem dX9_ups_41 : decode cX9_ups 41 = .ok (.goto (-37), 3) := by decide +kernel
theorem dX9_ups_44 : decode cX9_ups 44 = .ok (.iload_n 2, 1) := by decide +kernel
theorem dX9_ups_45 : decode cX9_ups 45 = .ok (.ireturn, 1) := by decide +kernel
theorem dX9_act_0 : decode cX9_act 0 = .ok (.iload_n 1, 1) := by decide +kernel
theorem dX9_act_1 : decode cX9_act 1 = .ok (.ifCond .lt 54, 3) := by decide +kernel
theorem dX9_act_4 : decode cX9_act 4 = .ok (.iload_n 1, 1) := by decide +kernel
theorem dX9_act_5 : decode cX9_act 5 = .ok (.iconst 3, 1) := by decide +kernel
theorem dX9_act_6 : decode cX9_act 6 = .ok (.if_icmp .gt 49, 3) := by decide +kernel
theorem dX9_act_9 : decode cX9_act 9 = .ok (.aload_n 0, 1) := by decide +kernel
theorem dX9_act_10 : decode cX9_act 10 = .ok (.iload_n 2, 1) := by decide +kernel
theorem dX9_act_11 : decode cX9_act 11 = .ok (.invokevirtual 194, 3) := by decide +kernel
theorem dX9_act_14 : decode cX9_act 14 = .ok (.ifCond .eq 41, 3) := by decide +kernel
theorem dX9_act_17 : decode cX9_act 17 = .ok (.iload_n 3, 1) := by decide +kernel
theorem dX9_act_18 : decode cX9_act 18 = .ok (.iconst 1, 1) := by decide +kernel
theorem dX9_act_19 : decode cX9_act 19 = .ok (.if_icmp .lt 36, 3) := by decide +kernel
theorem dX9_act_22 : decode cX9_act 22 = .ok (.iload_n 3, 1) := by decide +kernel
theorem dX9_act_23 : decode cX9_act 23 = .ok (.sipush 150, 3) := by decide +kernel
theorem dX9_act_26 : decode cX9_act 26 = .ok (.if_icmp .gt 29, 3) := by decide +kernel
theorem dX9_act_29 : decode cX9_act 29 = .ok (.iload_n 1, 1) := by decide +kernel
theorem dX9_act_30 : decode cX9_act 30 = .ok (.iconst 3, 1) := by decide +kernel
theorem dX9_act_31 : decode cX9_act 31 = .ok (.if_icmp .ne 15, 3) := by decide +kernel
theorem dX9_act_34 : decode cX9_act 34 = .ok (.iload 4, 2) := by decide +kernel
theorem dX9_act_36 : decode cX9_act 36 = .ok (.ifCond .lt 19, 3) := by decide +kernel
theorem dX9_act_39 : decode cX9_act 39 = .ok (.iload 4, 2) := by decide +kernel
theorem dX9_act_41 : decode cX9_act 41 = .ok (.bipush 12, 2) := by decide +kernel
theorem dX9_act_43 : decode cX9_act 43 = .ok (.if_icmp .ge 12, 3) := by decide +kernel
theorem dX9_act_46 : decode cX9_act 46 = .ok (.aload_n 0, 1) := by decide +kernel
theorem dX9_act_47 : decode cX9_act 47 = .ok (.getfield 128, 3) := by decide +kernel
theorem dX9_act_50 : decode cX9_act 50 = .ok (.bipush 100, 2) := by decide +kernel
theorem dX9_act_52 : decode cX9_act 52 = .ok (.if_icmp .ne 5, 3) := by decide +kernel
theorem dX9_act_55 : decode cX9_act 55 = .ok (.iconst (-1), 1) := by decide +kernel
theorem dX9_act_56 : decode cX9_act 56 = .ok (.ireturn, 1) := by decide +kernel
theorem dX9_act_57 : decode cX9_act 57 = .ok (.aload_n 0, 1) := by decide +kernel
theorem dX9_act_58 : decode cX9_act 58 = .ok (.getfield 70, 3) := by decide +kernel
theorem dX9_act_61 : decode cX9_act 61 = .ok (.aload_n 0, 1) := by decide +kernel
theorem dX9_act_62 : decode cX9_act 62 = .ok (.getfield 128, 3) := by decide +kernel
theorem dX9_act_65 : decode cX9_act 65 = .ok (.iload_n 1, 1) := by decide +kernel
theorem dX9_act_66 : decode cX9_act 66 = .ok (.iastore, 1) := by decide +kernel
theorem dX9_act_67 : decode cX9_act 67 = .ok (.aload_n 0, 1) := by decide +kernel
theorem dX9_act_68 : decode cX9_act 68 = .ok (.getfield 73, 3) := by decide +kernel
theorem dX9_act_71 : decode cX9_act 71 = .ok (.aload_n 0, 1) := by decide +kernel
theorem dX9_act_72 : decode cX9_act 72 = .ok (.getfield 128, 3) := by decide +kernel
theorem dX9_act_75 : decode cX9_act 75 = .ok (.iload_n 2, 1) := by decide +kernel
theorem dX9_act_76 : decode cX9_act 76 = .ok (.iastore, 1) := by decide +kernel
theorem dX9_act_77 : decode cX9_act 77 = .ok (.aload_n 0, 1) := by decide +kernel
theorem dX9_act_78 : decode cX9_act 78 = .ok (.getfield 76, 3) := by decide +kernel
theorem dX9_act_81 : decode cX9_act 81 = .ok (.aload_n 0, 1) := by decide +kernel
theorem dX9_act_82 : decode cX9_act 82 = .ok (.getfield 128, 3) := by decide +kernel
theorem dX9_act_85 : decode cX9_act 85 = .ok (.iload_n 3, 1) := by decide +kernel
theorem dX9_act_86 : decode cX9_act 86 = .ok (.iastore, 1) := by decide +kernel
theorem dX9_act_87 : decode cX9_act 87 = .ok (.aload_n 0, 1) := by decide +kernel
theorem dX9_act_88 : decode cX9_act 88 = .ok (.getfield 79, 3) := by decide +kernel
theorem dX9_act_91 : decode cX9_act 91 = .ok (.aload_n 0, 1) := by decide +kernel
theorem dX9_act_92 : decode cX9_act 92 = .ok (.getfield 128, 3) := by decide +kernel
theorem dX9_act_95 : decode cX9_act 95 = .ok (.iload_n 1, 1) := by decide +kernel
theorem dX9_act_96 : decode cX9_act 96 = .ok (.iconst 3, 1) := by decide +kernel
theorem dX9_act_97 : decode cX9_act 97 = .ok (.if_icmp .ne 8, 3) := by decide +kernel
theorem dX9_act_100 : decode cX9_act 100 = .ok (.iload 4, 2) := by decide +kernel
theorem dX9_act_102 : decode cX9_act 102 = .ok (.goto 4, 3) := by decide +kernel
theorem dX9_act_105 : decode cX9_act 105 = .ok (.iconst (-1), 1) := by decide +kernel
theorem dX9_act_106 : decode cX9_act 106 = .ok (.iastore, 1) := by decide +kernel
theorem dX9_act_107 : decode cX9_act 107 = .ok (.aload_n 0, 1) := by decide +kernel
theorem dX9_act_108 : decode cX9_act 108 = .ok (.aload_n 0, 1) := by decide +kernel
theorem dX9_act_109 : decode cX9_act 109 = .ok (.getfield 128, 3) := by decide +kernel
theorem dX9_act_112 : decode cX9_act 112 = .ok (.iconst 1, 1) := by decide +kernel
theorem dX9_act_113 : decode cX9_act 113 = .ok (.iadd, 1) := by decide +kernel
theorem dX9_act_114 : decode cX9_act 114 = .ok (.iload_n 2, 1) := by decide +kernel
theorem dX9_act_115 : decode cX9_act 115 = .ok (.sipush 150, 3) := by decide +kernel
theorem dX9_act_118 : decode cX9_act 118 = .ok (.invokevirtual 190, 3) := by decide +kernel
theorem dX9_act_121 : decode cX9_act 121 = .ok (.ifCond .ne 5, 3) := by decide +kernel
theorem dX9_act_124 : decode cX9_act 124 = .ok (.iconst (-1), 1) := by decide +kernel
theorem dX9_act_125 : decode cX9_act 125 = .ok (.ireturn, 1) := by decide +kernel
theorem dX9_act_126 : decode cX9_act 126 = .ok (.aload_n 0, 1) := by decide +kernel
theorem dX9_act_127 : decode cX9_act 127 = .ok (.aload_n 0, 1) := by decide +kernel
theorem dX9_act_128 : decode cX9_act 128 = .ok (.getfield 128, 3) := by decide +kernel
theorem dX9_act_131 : decode cX9_act 131 = .ok (.iconst 1, 1) := by decide +kernel
theorem dX9_act_132 : decode cX9_act 132 = .ok (.iadd, 1) := by decide +kernel
theorem dX9_act_133 : decode cX9_act 133 = .ok (.putfield 128, 3) := by decide +kernel
theorem dX9_act_136 : decode cX9_act 136 = .ok (.aload_n 0, 1) := by decide +kernel
theorem dX9_act_137 : decode cX9_act 137 = .ok (.getfield 128, 3) := by decide +kernel
theorem dX9_act_140 : decode cX9_act 140 = .ok (.iconst 1, 1) := by decide +kernel
theorem dX9_act_141 : decode cX9_act 141 = .ok (.isub, 1) := by decide +kernel
theorem dX9_act_142 : decode cX9_act 142 = .ok (.ireturn, 1) := by decide +kernel
theorem dX9_entry_0 : decode cX9_entry 0 = .ok (.iload_n 1, 1) := by decide +kernel
theorem dX9_entry_1 : decode cX9_entry 1 = .ok (.ifCond .lt 11, 3) := by decide +kernel
theorem dX9_entry_4 : decode cX9_entry 4 = .ok (.iload_n 1, 1) := by decide +kernel
theorem dX9_entry_5 : decode cX9_entry 5 = .ok (.aload_n 0, 1) := by decide +kernel
theorem dX9_entry_6 : decode cX9_entry 6 = .ok (.getfield 128, 3) := by decide +kernel
theorem dX9_entry_9 : decode cX9_entry 9 = .ok (.if_icmp .lt 5, 3) := by decide +kernel
theorem dX9_entry_12 : decode cX9_entry 12 = .ok (.iconst (-1), 1) := by decide +kernel
theorem dX9_entry_13 : decode cX9_entry 13 = .ok (.ireturn, 1) := by decide +kernel
theorem dX9_entry_14 : decode cX9_entry 14 = .ok (.iload_n 2, 1) := by decide +kernel
theorem dX9_entry_15 : decode cX9_entry 15 = .ok (.tableswitch 57 0 3 #[29, 36, 43, 50], 29) := by decide +kernel
theorem dX9_entry_44 : decode cX9_entry 44 = .ok (.aload_n 0, 1) := by decide +kernel
theorem dX9_entry_45 : decode cX9_entry 45 = .ok (.getfield 70, 3) := by decide +kernel
theorem dX9_entry_48 : decode cX9_entry 48 = .ok (.iload_n 1, 1) := by decide +kernel
theorem dX9_entry_49 : decode cX9_entry 49 = .ok (.iaload, 1) := by decide +kernel
theorem dX9_entry_50 : decode cX9_entry 50 = .ok (.ireturn, 1) := by decide +kernel
theorem dX9_entry_51 : decode cX9_entry 51 = .ok (.aload_n 0, 1) := by decide +kernel
theorem dX9_entry_52 : decode cX9_entry 52 = .ok (.getfield 73, 3) := by decide +kernel
theorem dX9_entry_55 : decode cX9_entry 55 = .ok (.iload_n 1, 1) := by decide +kernel
theorem dX9_entry_56 : decode cX9_entry 56 = .ok (.iaload, 1) := by decide +kernel
theorem dX9_entry_57 : decode cX9_entry 57 = .ok (.ireturn, 1) := by decide +kernel
theorem dX9_entry_58 : decode cX9_entry 58 = .ok (.aload_n 0, 1) := by decide +kernel
theorem dX9_entry_59 : decode cX9_entry 59 = .ok (.getfield 76, 3) := by decide +kernel
theorem dX9_entry_62 : decode cX9_entry 62 = .ok (.iload_n 1, 1) := by decide +kernel
theorem dX9_entry_63 : decode cX9_entry 63 = .ok (.iaload, 1) := by decide +kernel
theorem dX9_entry_64 : decode cX9_entry 64 = .ok (.ireturn, 1) := by decide +kernel
theorem dX9_entry_65 : decode cX9_entry 65 = .ok (.aload_n 0, 1) := by decide +kernel
theorem dX9_entry_66 : decode cX9_entry 66 = .ok (.getfield 79, 3) := by decide +kernel
theorem dX9_entry_69 : decode cX9_entry 69 = .ok (.iload_n 1, 1) := by decide +kernel
theorem dX9_entry_70 : decode cX9_entry 70 = .ok (.iaload, 1) := by decide +kernel
theorem dX9_entry_71 : decode cX9_entry 71 = .ok (.ireturn, 1) := by decide +kernel
theorem dX9_entry_72 : decode cX9_entry 72 = .ok (.iconst (-1), 1) := by decide +kernel
theorem dX9_entry_73 : decode cX9_entry 73 = .ok (.ireturn, 1) := by decide +kernel
theorem dX9_isKnowing_0 : decode cX9_isKnowing 0 = .ok (.iload_n 1, 1) := by decide +kernel
theorem dX9_isKnowing_1 : decode cX9_isKnowing 1 = .ok (.ifCond .lt 15, 3) := by decide +kernel
theorem dX9_isKnowing_4 : decode cX9_isKnowing 4 = .ok (.iload_n 1, 1) := by decide +kernel
theorem dX9_isKnowing_5 : decode cX9_isKnowing 5 = .ok (.aload_n 0, 1) := by decide +kernel
theorem dX9_isKnowing_6 : decode cX9_isKnowing 6 = .ok (.getfield 128, 3) := by decide +kernel
theorem dX9_isKnowing_9 : decode cX9_isKnowing 9 = .ok (.if_icmp .gt 7, 3) := by decide +kernel
theorem dX9_isKnowing_12 : decode cX9_isKnowing 12 = .ok (.iconst 1, 1) := by decide +kernel
theorem dX9_isKnowing_13 : decode cX9_isKnowing 13 = .ok (.goto 4, 3) := by decide +kernel
theorem dX9_isKnowing_16 : decode cX9_isKnowing 16 = .ok (.iconst 0, 1) := by decide +kernel
theorem dX9_isKnowing_17 : decode cX9_isKnowing 17 = .ok (.ireturn, 1) := by decide +kernel
theorem dX9_look_0 : decode cX9_look 0 = .ok (.aload_n 0, 1) := by decide +kernel
theorem dX9_look_1 : decode cX9_look 1 = .ok (.iload_n 1, 1) := by decide +kernel
theorem dX9_look_2 : decode cX9_look 2 = .ok (.invokevirtual 197, 3) := by decide +kernel
theorem dX9_look_5 : decode cX9_look 5 = .ok (.ifCond .eq 33, 3) := by decide +kernel
theorem dX9_look_8 : decode cX9_look 8 = .ok (.iload_n 2, 1) := by decide +kernel
theorem dX9_look_9 : decode cX9_look 9 = .ok (.ifCond .lt 29, 3) := by decide +kernel
theorem dX9_look_12 : decode cX9_look 12 = .ok (.iload_n 2, 1) := by decide +kernel
theorem dX9_look_13 : decode cX9_look 13 = .ok (.sipush 150, 3) := by decide +kernel
theorem dX9_look_16 : decode cX9_look 16 = .ok (.if_icmp .gt 22, 3) := by decide +kernel
theorem dX9_look_19 : decode cX9_look 19 = .ok (.aload_n 0, 1) := by decide +kernel
theorem dX9_look_20 : decode cX9_look 20 = .ok (.iload_n 3, 1) := by decide +kernel
theorem dX9_look_21 : decode cX9_look 21 = .ok (.invokevirtual 194, 3) := by decide +kernel
theorem dX9_look_24 : decode cX9_look 24 = .ok (.ifCond .eq 14, 3) := by decide +kernel
theorem dX9_look_27 : decode cX9_look 27 = .ok (.iload 4, 2) := by decide +kernel
theorem dX9_look_29 : decode cX9_look 29 = .ok (.ifCond .lt 9, 3) := by decide +kernel
theorem dX9_look_32 : decode cX9_look 32 = .ok (.iload 4, 2) := by decide +kernel
theorem dX9_look_34 : decode cX9_look 34 = .ok (.iconst 1, 1) := by decide +kernel
theorem dX9_look_35 : decode cX9_look 35 = .ok (.if_icmp .le 5, 3) := by decide +kernel
theorem dX9_look_38 : decode cX9_look 38 = .ok (.iconst (-1), 1) := by decide +kernel
theorem dX9_look_39 : decode cX9_look 39 = .ok (.ireturn, 1) := by decide +kernel
theorem dX9_look_40 : decode cX9_look 40 = .ok (.aload_n 0, 1) := by decide +kernel
theorem dX9_look_41 : decode cX9_look 41 = .ok (.iload_n 1, 1) := by decide +kernel
theorem dX9_look_42 : decode cX9_look 42 = .ok (.iload_n 3, 1) := by decide +kernel
theorem dX9_look_43 : decode cX9_look 43 = .ok (.iload_n 2, 1) := by decide +kernel
theorem dX9_look_44 : decode cX9_look 44 = .ok (.invokevirtual 190, 3) := by decide +kernel
theorem dX9_look_47 : decode cX9_look 47 = .ok (.pop, 1) := by decide +kernel
theorem dX9_look_48 : decode cX9_look 48 = .ok (.iload 4, 2) := by decide +kernel
theorem dX9_look_50 : decode cX9_look 50 = .ok (.iconst 1, 1) := by decide +kernel
theorem dX9_look_51 : decode cX9_look 51 = .ok (.if_icmp .ne 8, 3) := by decide +kernel
theorem dX9_look_54 : decode cX9_look 54 = .ok (.aload_n 0, 1) := by decide +kernel
theorem dX9_look_55 : decode cX9_look 55 = .ok (.getfield 181, 3) := by decide +kernel
theorem dX9_look_58 : decode cX9_look 58 = .ok (.ireturn, 1) := by decide +kernel
end
section
theorem dX9_look_59 : decode cX9_look 59 = .ok (.aload_n 0, 1) := by decide +kernel
theorem dX9_look_60 : decode cX9_look 60 = .ok (.getfield 178, 3) := by decide +kernel
theorem dX9_look_63 : decode cX9_look 63 = .ok (.ifCond .eq 7, 3) := by decide +kernel
theorem dX9_look_66 : decode cX9_look 66 = .ok (.iconst 2, 1) := by decide +kernel
theorem dX9_look_67 : decode cX9_look 67 = .ok (.goto 15, 3) := by decide +kernel
theorem dX9_look_70 : decode cX9_look 70 = .ok (.aload_n 0, 1) := by decide +kernel
theorem dX9_look_71 : decode cX9_look 71 = .ok (.getfield 174, 3) := by decide +kernel
theorem dX9_look_74 : decode cX9_look 74 = .ok (.ifCond .eq 7, 3) := by decide +kernel
theorem dX9_look_77 : decode cX9_look 77 = .ok (.iconst 1, 1) := by decide +kernel
theorem dX9_look_78 : decode cX9_look 78 = .ok (.goto 4, 3) := by decide +kernel
theorem dX9_look_81 : decode cX9_look 81 = .ok (.iconst 0, 1) := by decide +kernel
theorem dX9_look_82 : decode cX9_look 82 = .ok (.ireturn, 1) := by decide +kernel
theorem dX9_milking_0 : decode cX9_milking 0 = .ok (.iload_n 1, 1) := by decide +kernel
theorem dX9_milking_1 : decode cX9_milking 1 = .ok (.iconst 1, 1) := by decide +kernel
theorem dX9_milking_2 : decode cX9_milking 2 = .ok (.if_icmp .lt 18, 3) := by decide +kernel
theorem dX9_milking_5 : decode cX9_milking 5 = .ok (.iload_n 1, 1) := by decide +kernel
theorem dX9_milking_6 : decode cX9_milking 6 = .ok (.sipush 150, 3) := by decide +kernel
theorem dX9_milking_9 : decode cX9_milking 9 = .ok (.if_icmp .gt 11, 3) := by decide +kernel
theorem dX9_milking_12 : decode cX9_milking 12 = .ok (.aload_n 0, 1) := by decide +kernel
theorem dX9_milking_13 : decode cX9_milking 13 = .ok (.getfield 57, 3) := by decide +kernel
theorem dX9_milking_16 : decode cX9_milking 16 = .ok (.iconst (-1), 1) := by decide +kernel
theorem dX9_milking_17 : decode cX9_milking 17 = .ok (.if_icmp .eq 5, 3) := by decide +kernel
theorem dX9_milking_20 : decode cX9_milking 20 = .ok (.iconst 0, 1) := by decide +kernel
theorem dX9_milking_21 : decode cX9_milking 21 = .ok (.ireturn, 1) := by decide +kernel
theorem dX9_milking_22 : decode cX9_milking 22 = .ok (.aload_n 0, 1) := by decide +kernel
theorem dX9_milking_23 : decode cX9_milking 23 = .ok (.iload_n 1, 1) := by decide +kernel
theorem dX9_milking_24 : decode cX9_milking 24 = .ok (.putfield 57, 3) := by decide +kernel
theorem dX9_milking_27 : decode cX9_milking 27 = .ok (.iconst 1, 1) := by decide +kernel
theorem dX9_milking_28 : decode cX9_milking 28 = .ok (.ireturn, 1) := by decide +kernel
theorem dX9_milk_0 : decode cX9_milk 0 = .ok (.aload_n 0, 1) := by decide +kernel
theorem dX9_milk_1 : decode cX9_milk 1 = .ok (.iload_n 1, 1) := by decide +kernel
theorem dX9_milk_2 : decode cX9_milk 2 = .ok (.invokevirtual 194, 3) := by decide +kernel
theorem dX9_milk_5 : decode cX9_milk 5 = .ok (.ifCond .eq 22, 3) := by decide +kernel
theorem dX9_milk_8 : decode cX9_milk 8 = .ok (.iload_n 2, 1) := by decide +kernel
theorem dX9_milk_9 : decode cX9_milk 9 = .ok (.ifCond .lt 18, 3) := by decide +kernel
theorem dX9_milk_12 : decode cX9_milk 12 = .ok (.iload_n 2, 1) := by decide +kernel
theorem dX9_milk_13 : decode cX9_milk 13 = .ok (.sipush 5000, 3) := by decide +kernel
theorem dX9_milk_16 : decode cX9_milk 16 = .ok (.if_icmp .gt 11, 3) := by decide +kernel
theorem dX9_milk_19 : decode cX9_milk 19 = .ok (.aload_n 0, 1) := by decide +kernel
theorem dX9_milk_20 : decode cX9_milk 20 = .ok (.getfield 57, 3) := by decide +kernel
theorem dX9_milk_23 : decode cX9_milk 23 = .ok (.iconst (-1), 1) := by decide +kernel
theorem dX9_milk_24 : decode cX9_milk 24 = .ok (.if_icmp .ne 5, 3) := by decide +kernel
theorem dX9_milk_27 : decode cX9_milk 27 = .ok (.iconst 0, 1) := by decide +kernel
theorem dX9_milk_28 : decode cX9_milk 28 = .ok (.ireturn, 1) := by decide +kernel
theorem dX9_milk_29 : decode cX9_milk 29 = .ok (.aload_n 0, 1) := by decide +kernel
theorem dX9_milk_30 : decode cX9_milk 30 = .ok (.getfield 63, 3) := by decide +kernel
theorem dX9_milk_33 : decode cX9_milk 33 = .ok (.iload_n 1, 1) := by decide +kernel
theorem dX9_milk_34 : decode cX9_milk 34 = .ok (.iload_n 2, 1) := by decide +kernel
theorem dX9_milk_35 : decode cX9_milk 35 = .ok (.iastore, 1) := by decide +kernel
theorem dX9_milk_36 : decode cX9_milk 36 = .ok (.iconst 1, 1) := by decide +kernel
theorem dX9_milk_37 : decode cX9_milk 37 = .ok (.ireturn, 1) := by decide +kernel
theorem dX9_creditOf_0 : decode cX9_creditOf 0 = .ok (.aload_n 0, 1) := by decide +kernel
theorem dX9_creditOf_1 : decode cX9_creditOf 1 = .ok (.getfield 125, 3) := by decide +kernel
theorem dX9_creditOf_4 : decode cX9_creditOf 4 = .ok (.ifCond .eq 11, 3) := by decide +kernel
theorem dX9_creditOf_7 : decode cX9_creditOf 7 = .ok (.aload_n 0, 1) := by decide +kernel
theorem dX9_creditOf_8 : decode cX9_creditOf 8 = .ok (.getfield 57, 3) := by decide +kernel
theorem dX9_creditOf_11 : decode cX9_creditOf 11 = .ok (.iconst (-1), 1) := by decide +kernel
theorem dX9_creditOf_12 : decode cX9_creditOf 12 = .ok (.if_icmp .ne 5, 3) := by decide +kernel
theorem dX9_creditOf_15 : decode cX9_creditOf 15 = .ok (.iconst 0, 1) := by decide +kernel
theorem dX9_creditOf_16 : decode cX9_creditOf 16 = .ok (.ireturn, 1) := by decide +kernel
theorem dX9_creditOf_17 : decode cX9_creditOf 17 = .ok (.aload_n 0, 1) := by decide +kernel
theorem dX9_creditOf_18 : decode cX9_creditOf 18 = .ok (.iload_n 1, 1) := by decide +kernel
theorem dX9_creditOf_19 : decode cX9_creditOf 19 = .ok (.iload_n 2, 1) := by decide +kernel
theorem dX9_creditOf_20 : decode cX9_creditOf 20 = .ok (.aload_n 0, 1) := by decide +kernel
theorem dX9_creditOf_21 : decode cX9_creditOf 21 = .ok (.getfield 57, 3) := by decide +kernel
theorem dX9_creditOf_24 : decode cX9_creditOf 24 = .ok (.invokevirtual 190, 3) := by decide +kernel
theorem dX9_creditOf_27 : decode cX9_creditOf 27 = .ok (.pop, 1) := by decide +kernel
theorem dX9_creditOf_28 : decode cX9_creditOf 28 = .ok (.aload_n 0, 1) := by decide +kernel
theorem dX9_creditOf_29 : decode cX9_creditOf 29 = .ok (.getfield 174, 3) := by decide +kernel
theorem dX9_creditOf_32 : decode cX9_creditOf 32 = .ok (.ifCond .ne 5, 3) := by decide +kernel
theorem dX9_creditOf_35 : decode cX9_creditOf 35 = .ok (.iconst 0, 1) := by decide +kernel
theorem dX9_creditOf_36 : decode cX9_creditOf 36 = .ok (.ireturn, 1) := by decide +kernel
theorem dX9_creditOf_37 : decode cX9_creditOf 37 = .ok (.iconst 0, 1) := by decide +kernel
theorem dX9_creditOf_38 : decode cX9_creditOf 38 = .ok (.istore_n 3, 1) := by decide +kernel
theorem dX9_creditOf_39 : decode cX9_creditOf 39 = .ok (.iconst 1, 1) := by decide +kernel
theorem dX9_creditOf_40 : decode cX9_creditOf 40 = .ok (.istore 4, 2) := by decide +kernel
theorem dX9_creditOf_42 : decode cX9_creditOf 42 = .ok (.iload 4, 2) := by decide +kernel
theorem dX9_creditOf_44 : decode cX9_creditOf 44 = .ok (.aload_n 0, 1) := by decide +kernel
theorem dX9_creditOf_45 : decode cX9_creditOf 45 = .ok (.getfield 125, 3) := by decide +kernel
theorem dX9_creditOf_48 : decode cX9_creditOf 48 = .ok (.if_icmp .gt 33, 3) := by decide +kernel
theorem dX9_creditOf_51 : decode cX9_creditOf 51 = .ok (.aload_n 0, 1) := by decide +kernel
theorem dX9_creditOf_52 : decode cX9_creditOf 52 = .ok (.iload_n 1, 1) := by decide +kernel
theorem dX9_creditOf_53 : decode cX9_creditOf 53 = .ok (.iload_n 2, 1) := by decide +kernel
theorem dX9_creditOf_54 : decode cX9_creditOf 54 = .ok (.iload 4, 2) := by decide +kernel
theorem dX9_creditOf_56 : decode cX9_creditOf 56 = .ok (.invokevirtual 190, 3) := by decide +kernel
theorem dX9_creditOf_59 : decode cX9_creditOf 59 = .ok (.pop, 1) := by decide +kernel
theorem dX9_creditOf_60 : decode cX9_creditOf 60 = .ok (.iload_n 3, 1) := by decide +kernel
theorem dX9_creditOf_61 : decode cX9_creditOf 61 = .ok (.aload_n 0, 1) := by decide +kernel
theorem dX9_creditOf_62 : decode cX9_creditOf 62 = .ok (.getfield 174, 3) := by decide +kernel
theorem dX9_creditOf_65 : decode cX9_creditOf 65 = .ok (.ifCond .eq 7, 3) := by decide +kernel
theorem dX9_creditOf_68 : decode cX9_creditOf 68 = .ok (.iconst 0, 1) := by decide +kernel
theorem dX9_creditOf_69 : decode cX9_creditOf 69 = .ok (.goto 4, 3) := by decide +kernel
theorem dX9_creditOf_72 : decode cX9_creditOf 72 = .ok (.iconst 1, 1) := by decide +kernel
theorem dX9_creditOf_73 : decode cX9_creditOf 73 = .ok (.iadd, 1) := by decide +kernel
theorem dX9_creditOf_74 : decode cX9_creditOf 74 = .ok (.istore_n 3, 1) := by decide +kernel
theorem dX9_creditOf_75 : decode cX9_creditOf 75 = .ok (.iinc 4 1, 3) := by decide +kernel
theorem dX9_creditOf_78 : decode cX9_creditOf 78 = .ok (.goto (-36), 3) := by decide +kernel
theorem dX9_creditOf_81 : decode cX9_creditOf 81 = .ok (.aload_n 0, 1) := by decide +kernel
theorem dX9_creditOf_82 : decode cX9_creditOf 82 = .ok (.getfield 17, 3) := by decide +kernel
theorem dX9_creditOf_85 : decode cX9_creditOf 85 = .ok (.sipush 1000, 3) := by decide +kernel
theorem dX9_creditOf_88 : decode cX9_creditOf 88 = .ok (.if_icmp .le 9, 3) := by decide +kernel
theorem dX9_creditOf_91 : decode cX9_creditOf 91 = .ok (.sipush 1000, 3) := by decide +kernel
theorem dX9_creditOf_94 : decode cX9_creditOf 94 = .ok (.goto 7, 3) := by decide +kernel
theorem dX9_creditOf_97 : decode cX9_creditOf 97 = .ok (.aload_n 0, 1) := by decide +kernel
theorem dX9_creditOf_98 : decode cX9_creditOf 98 = .ok (.getfield 17, 3) := by decide +kernel
theorem dX9_creditOf_101 : decode cX9_creditOf 101 = .ok (.istore 4, 2) := by decide +kernel
theorem dX9_creditOf_103 : decode cX9_creditOf 103 = .ok (.sipush 1000, 3) := by decide +kernel
theorem dX9_creditOf_106 : decode cX9_creditOf 106 = .ok (.aload_n 0, 1) := by decide +kernel
theorem dX9_creditOf_107 : decode cX9_creditOf 107 = .ok (.getfield 13, 3) := by decide +kernel
theorem dX9_creditOf_110 : decode cX9_creditOf 110 = .ok (.iload_n 3, 1) := by decide +kernel
theorem dX9_creditOf_111 : decode cX9_creditOf 111 = .ok (.imul, 1) := by decide +kernel
theorem dX9_creditOf_112 : decode cX9_creditOf 112 = .ok (.isub, 1) := by decide +kernel
theorem dX9_creditOf_113 : decode cX9_creditOf 113 = .ok (.istore 5, 2) := by decide +kernel
theorem dX9_creditOf_115 : decode cX9_creditOf 115 = .ok (.iload 5, 2) := by decide +kernel
theorem dX9_creditOf_117 : decode cX9_creditOf 117 = .ok (.iload 4, 2) := by decide +kernel
theorem dX9_creditOf_119 : decode cX9_creditOf 119 = .ok (.if_icmp .ge 7, 3) := by decide +kernel
theorem dX9_creditOf_122 : decode cX9_creditOf 122 = .ok (.iload 4, 2) := by decide +kernel
theorem dX9_creditOf_124 : decode cX9_creditOf 124 = .ok (.istore 5, 2) := by decide +kernel
theorem dX9_creditOf_126 : decode cX9_creditOf 126 = .ok (.aload_n 0, 1) := by decide +kernel
theorem dX9_creditOf_127 : decode cX9_creditOf 127 = .ok (.getfield 63, 3) := by decide +kernel
theorem dX9_creditOf_130 : decode cX9_creditOf 130 = .ok (.iload_n 2, 1) := by decide +kernel
theorem dX9_creditOf_131 : decode cX9_creditOf 131 = .ok (.iaload, 1) := by decide +kernel
theorem dX9_creditOf_132 : decode cX9_creditOf 132 = .ok (.iload 5, 2) := by decide +kernel
theorem dX9_creditOf_134 : decode cX9_creditOf 134 = .ok (.imul, 1) := by decide +kernel
theorem dX9_creditOf_135 : decode cX9_creditOf 135 = .ok (.sipush 1000, 3) := by decide +kernel
theorem dX9_creditOf_138 : decode cX9_creditOf 138 = .ok (.idiv, 1) := by decide +kernel
theorem dX9_creditOf_139 : decode cX9_creditOf 139 = .ok (.ireturn, 1) := by decide +kernel
theorem dX9_credit_0 : decode cX9_credit 0 = .ok (.aload_n 0, 1) := by decide +kernel
theorem dX9_credit_1 : decode cX9_credit 1 = .ok (.iload_n 1, 1) := by decide +kernel
theorem dX9_credit_2 : decode cX9_credit 2 = .ok (.invokevirtual 197, 3) := by decide +kernel
theorem dX9_credit_5 : decode cX9_credit 5 = .ok (.ifCond .eq 20, 3) := by decide +kernel
theorem dX9_credit_8 : decode cX9_credit 8 = .ok (.aload_n 0, 1) := by decide +kernel
theorem dX9_credit_9 : decode cX9_credit 9 = .ok (.iload_n 2, 1) := by decide +kernel
theorem dX9_credit_10 : decode cX9_credit 10 = .ok (.invokevirtual 194, 3) := by decide +kernel
theorem dX9_credit_13 : decode cX9_credit 13 = .ok (.ifCond .eq 12, 3) := by decide +kernel
theorem dX9_credit_16 : decode cX9_credit 16 = .ok (.aload_n 0, 1) := by decide +kernel
theorem dX9_credit_17 : decode cX9_credit 17 = .ok (.iload_n 1, 1) := by decide +kernel
theorem dX9_credit_18 : decode cX9_credit 18 = .ok (.iload_n 2, 1) := by decide +kernel
theorem dX9_credit_19 : decode cX9_credit 19 = .ok (.invokevirtual 200, 3) := by decide +kernel
theorem dX9_credit_22 : decode cX9_credit 22 = .ok (.goto 4, 3) := by decide +kernel
theorem dX9_credit_25 : decode cX9_credit 25 = .ok (.iconst (-1), 1) := by decide +kernel
theorem dX9_credit_26 : decode cX9_credit 26 = .ok (.ireturn, 1) := by decide +kernel
theorem dX9_reckons_0 : decode cX9_reckons 0 = .ok (.iconst 0, 1) := by decide +kernel
theorem dX9_reckons_1 : decode cX9_reckons 1 = .ok (.istore_n 2, 1) := by decide +kernel
theorem dX9_reckons_2 : decode cX9_reckons 2 = .ok (.iload_n 2, 1) := by decide +kernel
theorem dX9_reckons_3 : decode cX9_reckons 3 = .ok (.bipush 12, 2) := by decide +kernel
theorem dX9_reckons_5 : decode cX9_reckons 5 = .ok (.if_icmp .ge 16, 3) := by decide +kernel
theorem dX9_reckons_8 : decode cX9_reckons 8 = .ok (.aload_n 0, 1) := by decide +kernel
theorem dX9_reckons_9 : decode cX9_reckons 9 = .ok (.getfield 85, 3) := by decide +kernel
theorem dX9_reckons_12 : decode cX9_reckons 12 = .ok (.iload_n 2, 1) := by decide +kernel
theorem dX9_reckons_13 : decode cX9_reckons 13 = .ok (.iconst 0, 1) := by decide +kernel
theorem dX9_reckons_14 : decode cX9_reckons 14 = .ok (.iastore, 1) := by decide +kernel
theorem dX9_reckons_15 : decode cX9_reckons 15 = .ok (.iinc 2 1, 3) := by decide +kernel
theorem dX9_reckons_18 : decode cX9_reckons 18 = .ok (.goto (-16), 3) := by decide +kernel
theorem dX9_reckons_21 : decode cX9_reckons 21 = .ok (.iconst 0, 1) := by decide +kernel
theorem dX9_reckons_22 : decode cX9_reckons 22 = .ok (.istore_n 2, 1) := by decide +kernel
theorem dX9_reckons_23 : decode cX9_reckons 23 = .ok (.iload_n 2, 1) := by decide +kernel
theorem dX9_reckons_24 : decode cX9_reckons 24 = .ok (.aload_n 0, 1) := by decide +kernel
theorem dX9_reckons_25 : decode cX9_reckons 25 = .ok (.getfield 171, 3) := by decide +kernel
theorem dX9_reckons_28 : decode cX9_reckons 28 = .ok (.if_icmp .ge 174, 3) := by decide +kernel
theorem dX9_reckons_31 : decode cX9_reckons 31 = .ok (.aload_n 0, 1) := by decide +kernel
theorem dX9_reckons_32 : decode cX9_reckons 32 = .ok (.iload_n 1, 1) := by decide +kernel
theorem dX9_reckons_33 : decode cX9_reckons 33 = .ok (.iload_n 2, 1) := by decide +kernel
theorem dX9_reckons_34 : decode cX9_reckons 34 = .ok (.invokevirtual 200, 3) := by decide +kernel
theorem dX9_reckons_37 : decode cX9_reckons 37 = .ok (.istore_n 3, 1) := by decide +kernel
theorem dX9_reckons_38 : decode cX9_reckons 38 = .ok (.iload_n 3, 1) := by decide +kernel
theorem dX9_reckons_39 : decode cX9_reckons 39 = .ok (.ifCond .ne 6, 3) := by decide +kernel
theorem dX9_reckons_42 : decode cX9_reckons 42 = .ok (.goto 154, 3) := by decide +kernel
theorem dX9_reckons_45 : decode cX9_reckons 45 = .ok (.iconst 0, 1) := by decide +kernel
theorem dX9_reckons_46 : decode cX9_reckons 46 = .ok (.istore 4, 2) := by decide +kernel
theorem dX9_reckons_48 : decode cX9_reckons 48 = .ok (.iload 4, 2) := by decide +kernel
theorem dX9_reckons_50 : decode cX9_reckons 50 = .ok (.bipush 12, 2) := by decide +kernel
theorem dX9_reckons_52 : decode cX9_reckons 52 = .ok (.if_icmp .ge 17, 3) := by decide +kernel
theorem dX9_reckons_55 : decode cX9_reckons 55 = .ok (.aload_n 0, 1) := by decide +kernel
theorem dX9_reckons_56 : decode cX9_reckons 56 = .ok (.getfield 82, 3) := by decide +kernel
theorem dX9_reckons_59 : decode cX9_reckons 59 = .ok (.iload 4, 2) := by decide +kernel
theorem dX9_reckons_61 : decode cX9_reckons 61 = .ok (.iconst 0, 1) := by decide +kernel
theorem dX9_reckons_62 : decode cX9_reckons 62 = .ok (.iastore, 1) := by decide +kernel
theorem dX9_reckons_63 : decode cX9_reckons 63 = .ok (.iinc 4 1, 3) := by decide +kernel
theorem dX9_reckons_66 : decode cX9_reckons 66 = .ok (.goto (-18), 3) := by decide +kernel
theorem dX9_reckons_69 : decode cX9_reckons 69 = .ok (.iconst 1, 1) := by decide +kernel
theorem dX9_reckons_70 : decode cX9_reckons 70 = .ok (.istore 4, 2) := by decide +kernel
theorem dX9_reckons_72 : decode cX9_reckons 72 = .ok (.iload 4, 2) := by decide +kernel
theorem dX9_reckons_74 : decode cX9_reckons 74 = .ok (.aload_n 0, 1) := by decide +kernel
theorem dX9_reckons_75 : decode cX9_reckons 75 = .ok (.getfield 125, 3) := by decide +kernel
theorem dX9_reckons_78 : decode cX9_reckons 78 = .ok (.if_icmp .gt 38, 3) := by decide +kernel
theorem dX9_reckons_81 : decode cX9_reckons 81 = .ok (.aload_n 0, 1) := by decide +kernel
theorem dX9_reckons_82 : decode cX9_reckons 82 = .ok (.iload_n 1, 1) := by decide +kernel
theorem dX9_reckons_83 : decode cX9_reckons 83 = .ok (.iload_n 2, 1) := by decide +kernel
theorem dX9_reckons_84 : decode cX9_reckons 84 = .ok (.iload 4, 2) := by decide +kernel
theorem dX9_reckons_86 : decode cX9_reckons 86 = .ok (.invokevirtual 190, 3) := by decide +kernel
theorem dX9_reckons_89 : decode cX9_reckons 89 = .ok (.pop, 1) := by decide +kernel
theorem dX9_reckons_90 : decode cX9_reckons 90 = .ok (.aload_n 0, 1) := by decide +kernel
theorem dX9_reckons_91 : decode cX9_reckons 91 = .ok (.getfield 82, 3) := by decide +kernel
theorem dX9_reckons_94 : decode cX9_reckons 94 = .ok (.aload_n 0, 1) := by decide +kernel
theorem dX9_reckons_95 : decode cX9_reckons 95 = .ok (.getfield 181, 3) := by decide +kernel
theorem dX9_reckons_98 : decode cX9_reckons 98 = .ok (.aload_n 0, 1) := by decide +kernel
theorem dX9_reckons_99 : decode cX9_reckons 99 = .ok (.getfield 82, 3) := by decide +kernel
theorem dX9_reckons_102 : decode cX9_reckons 102 = .ok (.aload_n 0, 1) := by decide +kernel
theorem dX9_reckons_103 : decode cX9_reckons 103 = .ok (.getfield 181, 3) := by decide +kernel
theorem dX9_reckons_106 : decode cX9_reckons 106 = .ok (.iaload, 1) := by decide +kernel
theorem dX9_reckons_107 : decode cX9_reckons 107 = .ok (.iconst 1, 1) := by decide +kernel
theorem dX9_reckons_108 : decode cX9_reckons 108 = .ok (.iadd, 1) := by decide +kernel
theorem dX9_reckons_109 : decode cX9_reckons 109 = .ok (.iastore, 1) := by decide +kernel
theorem dX9_reckons_110 : decode cX9_reckons 110 = .ok (.iinc 4 1, 3) := by decide +kernel
theorem dX9_reckons_113 : decode cX9_reckons 113 = .ok (.goto (-41), 3) := by decide +kernel
theorem dX9_reckons_116 : decode cX9_reckons 116 = .ok (.iload_n 3, 1) := by decide +kernel
theorem dX9_reckons_117 : decode cX9_reckons 117 = .ok (.istore 4, 2) := by decide +kernel
theorem dX9_reckons_119 : decode cX9_reckons 119 = .ok (.iconst 0, 1) := by decide +kernel
theorem dX9_reckons_120 : decode cX9_reckons 120 = .ok (.istore 5, 2) := by decide +kernel
theorem dX9_reckons_122 : decode cX9_reckons 122 = .ok (.iload 5, 2) := by decide +kernel
theorem dX9_reckons_124 : decode cX9_reckons 124 = .ok (.bipush 12, 2) := by decide +kernel
theorem dX9_reckons_126 : decode cX9_reckons 126 = .ok (.if_icmp .ge 49, 3) := by decide +kernel
theorem dX9_reckons_129 : decode cX9_reckons 129 = .ok (.iload_n 3, 1) := by decide +kernel
theorem dX9_reckons_130 : decode cX9_reckons 130 = .ok (.aload_n 0, 1) := by decide +kernel
theorem dX9_reckons_131 : decode cX9_reckons 131 = .ok (.getfield 82, 3) := by decide +kernel
theorem dX9_reckons_134 : decode cX9_reckons 134 = .ok (.iload 5, 2) := by decide +kernel
theorem dX9_reckons_136 : decode cX9_reckons 136 = .ok (.iaload, 1) := by decide +kernel
theorem dX9_reckons_137 : decode cX9_reckons 137 = .ok (.imul, 1) := by decide +kernel
theorem dX9_reckons_138 : decode cX9_reckons 138 = .ok (.aload_n 0, 1) := by decide +kernel
theorem dX9_reckons_139 : decode cX9_reckons 139 = .ok (.getfield 125, 3) := by decide +kernel
theorem dX9_reckons_142 : decode cX9_reckons 142 = .ok (.idiv, 1) := by decide +kernel
theorem dX9_reckons_143 : decode cX9_reckons 143 = .ok (.istore 6, 2) := by decide +kernel
theorem dX9_reckons_145 : decode cX9_reckons 145 = .ok (.aload_n 0, 1) := by decide +kernel
theorem dX9_reckons_146 : decode cX9_reckons 146 = .ok (.getfield 85, 3) := by decide +kernel
theorem dX9_reckons_149 : decode cX9_reckons 149 = .ok (.iload 5, 2) := by decide +kernel
theorem dX9_reckons_151 : decode cX9_reckons 151 = .ok (.aload_n 0, 1) := by decide +kernel
theorem dX9_reckons_152 : decode cX9_reckons 152 = .ok (.getfield 85, 3) := by decide +kernel
theorem dX9_reckons_155 : decode cX9_reckons 155 = .ok (.iload 5, 2) := by decide +kernel
theorem dX9_reckons_157 : decode cX9_reckons 157 = .ok (.iaload, 1) := by decide +kernel
theorem dX9_reckons_158 : decode cX9_reckons 158 = .ok (.iload 6, 2) := by decide +kernel
theorem dX9_reckons_160 : decode cX9_reckons 160 = .ok (.iadd, 1) := by decide +kernel
theorem dX9_reckons_161 : decode cX9_reckons 161 = .ok (.iastore, 1) := by decide +kernel
theorem dX9_reckons_162 : decode cX9_reckons 162 = .ok (.iload 4, 2) := by decide +kernel
theorem dX9_reckons_164 : decode cX9_reckons 164 = .ok (.iload 6, 2) := by decide +kernel
theorem dX9_reckons_166 : decode cX9_reckons 166 = .ok (.isub, 1) := by decide +kernel
theorem dX9_reckons_167 : decode cX9_reckons 167 = .ok (.istore 4, 2) := by decide +kernel
theorem dX9_reckons_169 : decode cX9_reckons 169 = .ok (.iinc 5 1, 3) := by decide +kernel
theorem dX9_reckons_172 : decode cX9_reckons 172 = .ok (.goto (-50), 3) := by decide +kernel
theorem dX9_reckons_175 : decode cX9_reckons 175 = .ok (.aload_n 0, 1) := by decide +kernel
theorem dX9_reckons_176 : decode cX9_reckons 176 = .ok (.getfield 85, 3) := by decide +kernel
theorem dX9_reckons_179 : decode cX9_reckons 179 = .ok (.aload_n 0, 1) := by decide +kernel
theorem dX9_reckons_180 : decode cX9_reckons 180 = .ok (.getfield 181, 3) := by decide +kernel
theorem dX9_reckons_183 : decode cX9_reckons 183 = .ok (.aload_n 0, 1) := by decide +kernel
theorem dX9_reckons_184 : decode cX9_reckons 184 = .ok (.getfield 85, 3) := by decide +kernel
theorem dX9_reckons_187 : decode cX9_reckons 187 = .ok (.aload_n 0, 1) := by decide +kernel
theorem dX9_reckons_188 : decode cX9_reckons 188 = .ok (.getfield 181, 3) := by decide +kernel
theorem dX9_reckons_191 : decode cX9_reckons 191 = .ok (.iaload, 1) := by decide +kernel
theorem dX9_reckons_192 : decode cX9_reckons 192 = .ok (.iload 4, 2) := by decide +kernel
theorem dX9_reckons_194 : decode cX9_reckons 194 = .ok (.iadd, 1) := by decide +kernel
theorem dX9_reckons_195 : decode cX9_reckons 195 = .ok (.iastore, 1) := by decide +kernel
theorem dX9_reckons_196 : decode cX9_reckons 196 = .ok (.iinc 2 1, 3) := by decide +kernel
theorem dX9_reckons_199 : decode cX9_reckons 199 = .ok (.goto (-176), 3) := by decide +kernel
theorem dX9_reckons_202 : decode cX9_reckons 202 = .ok (.return_, 1) := by decide +kernel
theorem dX9_part_0 : decode cX9_part 0 = .ok (.aload_n 0, 1) := by decide +kernel
theorem dX9_part_1 : decode cX9_part 1 = .ok (.iload_n 1, 1) := by decide +kernel
theorem dX9_part_2 : decode cX9_part 2 = .ok (.invokevirtual 197, 3) := by decide +kernel
theorem dX9_part_5 : decode cX9_part 5 = .ok (.ifCond .eq 13, 3) := by decide +kernel
theorem dX9_part_8 : decode cX9_part 8 = .ok (.iload_n 2, 1) := by decide +kernel
theorem dX9_part_9 : decode cX9_part 9 = .ok (.ifCond .lt 9, 3) := by decide +kernel
theorem dX9_part_12 : decode cX9_part 12 = .ok (.iload_n 2, 1) := by decide +kernel
theorem dX9_part_13 : decode cX9_part 13 = .ok (.bipush 12, 2) := by decide +kernel
theorem dX9_part_15 : decode cX9_part 15 = .ok (.if_icmp .lt 5, 3) := by decide +kernel
theorem dX9_part_18 : decode cX9_part 18 = .ok (.iconst (-1), 1) := by decide +kernel
theorem dX9_part_19 : decode cX9_part 19 = .ok (.ireturn, 1) := by decide +kernel
theorem dX9_part_20 : decode cX9_part 20 = .ok (.aload_n 0, 1) := by decide +kernel
theorem dX9_part_21 : decode cX9_part 21 = .ok (.iload_n 1, 1) := by decide +kernel
theorem dX9_part_22 : decode cX9_part 22 = .ok (.invokevirtual 203, 3) := by decide +kernel
theorem dX9_part_25 : decode cX9_part 25 = .ok (.aload_n 0, 1) := by decide +kernel
theorem dX9_part_26 : decode cX9_part 26 = .ok (.getfield 85, 3) := by decide +kernel
theorem dX9_part_29 : decode cX9_part 29 = .ok (.iload_n 2, 1) := by decide +kernel
theorem dX9_part_30 : decode cX9_part 30 = .ok (.iaload, 1) := by decide +kernel
theorem dX9_part_31 : decode cX9_part 31 = .ok (.ireturn, 1) := by decide +kernel
theorem dX9_all_0 : decode cX9_all 0 = .ok (.lconst 0, 1) := by decide +kernel
theorem dX9_all_1 : decode cX9_all 1 = .ok (.lstore_n 1, 1) := by decide +kernel
theorem dX9_all_2 : decode cX9_all 2 = .ok (.iconst 0, 1) := by decide +kernel
theorem dX9_all_3 : decode cX9_all 3 = .ok (.istore_n 3, 1) := by decide +kernel
theorem dX9_all_4 : decode cX9_all 4 = .ok (.iload_n 3, 1) := by decide +kernel
theorem dX9_all_5 : decode cX9_all 5 = .ok (.bipush 12, 2) := by decide +kernel
theorem dX9_all_7 : decode cX9_all 7 = .ok (.if_icmp .ge 19, 3) := by decide +kernel
theorem dX9_all_10 : decode cX9_all 10 = .ok (.lload_n 1, 1) := by decide +kernel
theorem dX9_all_11 : decode cX9_all 11 = .ok (.aload_n 0, 1) := by decide +kernel
theorem dX9_all_12 : decode cX9_all 12 = .ok (.getfield 85, 3) := by decide +kernel
theorem dX9_all_15 : decode cX9_all 15 = .ok (.iload_n 3, 1) := by decide +kernel
theorem dX9_all_16 : decode cX9_all 16 = .ok (.iaload, 1) := by decide +kernel
theorem dX9_all_17 : decode cX9_all 17 = .ok (.i2l, 1) := by decide +kernel
theorem dX9_all_18 : decode cX9_all 18 = .ok (.ladd, 1) := by decide +kernel
theorem dX9_all_19 : decode cX9_all 19 = .ok (.lstore_n 1, 1) := by decide +kernel
theorem dX9_all_20 : decode cX9_all 20 = .ok (.iinc 3 1, 3) := by decide +kernel
theorem dX9_all_23 : decode cX9_all 23 = .ok (.goto (-19), 3) := by decide +kernel
theorem dX9_all_26 : decode cX9_all 26 = .ok (.lload_n 1, 1) := by decide +kernel
theorem dX9_all_27 : decode cX9_all 27 = .ok (.lreturn, 1) := by decide +kernel
theorem dX9_gives_0 : decode cX9_gives 0 = .ok (.aload_n 0, 1) := by decide +kernel
theorem dX9_gives_1 : decode cX9_gives 1 = .ok (.getfield 91, 3) := by decide +kernel
theorem dX9_gives_4 : decode cX9_gives 4 = .ok (.iload_n 1, 1) := by decide +kernel
theorem dX9_gives_5 : decode cX9_gives 5 = .ok (.aload_n 0, 1) := by decide +kernel
theorem dX9_gives_6 : decode cX9_gives 6 = .ok (.getfield 91, 3) := by decide +kernel
theorem dX9_gives_9 : decode cX9_gives 9 = .ok (.iload_n 1, 1) := by decide +kernel
theorem dX9_gives_10 : decode cX9_gives 10 = .ok (.iaload, 1) := by decide +kernel
theorem dX9_gives_11 : decode cX9_gives 11 = .ok (.iload_n 2, 1) := by decide +kernel
theorem dX9_gives_12 : decode cX9_gives 12 = .ok (.iadd, 1) := by decide +kernel
theorem dX9_gives_13 : decode cX9_gives 13 = .ok (.iastore, 1) := by decide +kernel
theorem dX9_gives_14 : decode cX9_gives 14 = .ok (.aload_n 0, 1) := by decide +kernel
theorem dX9_gives_15 : decode cX9_gives 15 = .ok (.getfield 94, 3) := by decide +kernel
theorem dX9_gives_18 : decode cX9_gives 18 = .ok (.iload_n 1, 1) := by decide +kernel
theorem dX9_gives_19 : decode cX9_gives 19 = .ok (.aload_n 0, 1) := by decide +kernel
theorem dX9_gives_20 : decode cX9_gives 20 = .ok (.getfield 94, 3) := by decide +kernel
theorem dX9_gives_23 : decode cX9_gives 23 = .ok (.iload_n 1, 1) := by decide +kernel
theorem dX9_gives_24 : decode cX9_gives 24 = .ok (.iaload, 1) := by decide +kernel
theorem dX9_gives_25 : decode cX9_gives 25 = .ok (.iload_n 2, 1) := by decide +kernel
theorem dX9_gives_26 : decode cX9_gives 26 = .ok (.iadd, 1) := by decide +kernel
theorem dX9_gives_27 : decode cX9_gives 27 = .ok (.iastore, 1) := by decide +kernel
theorem dX9_gives_28 : decode cX9_gives 28 = .ok (.return_, 1) := by decide +kernel
theorem dX9_endsTurn_0 : decode cX9_endsTurn 0 = .ok (.aload_n 0, 1) := by decide +kernel
theorem dX9_endsTurn_1 : decode cX9_endsTurn 1 = .ok (.getfield 88, 3) := by decide +kernel
theorem dX9_endsTurn_4 : decode cX9_endsTurn 4 = .ok (.iload_n 1, 1) := by decide +kernel
theorem dX9_endsTurn_5 : decode cX9_endsTurn 5 = .ok (.iaload, 1) := by decide +kernel
theorem dX9_endsTurn_6 : decode cX9_endsTurn 6 = .ok (.istore_n 2, 1) := by decide +kernel
theorem dX9_endsTurn_7 : decode cX9_endsTurn 7 = .ok (.iload_n 1, 1) := by decide +kernel
theorem dX9_endsTurn_8 : decode cX9_endsTurn 8 = .ok (.istore_n 3, 1) := by decide +kernel
theorem dX9_endsTurn_9 : decode cX9_endsTurn 9 = .ok (.iload_n 3, 1) := by decide +kernel
theorem dX9_endsTurn_10 : decode cX9_endsTurn 10 = .ok (.bipush 11, 2) := by decide +kernel
theorem dX9_endsTurn_12 : decode cX9_endsTurn 12 = .ok (.if_icmp .ge 23, 3) := by decide +kernel
theorem dX9_endsTurn_15 : decode cX9_endsTurn 15 = .ok (.aload_n 0, 1) := by decide +kernel
theorem dX9_endsTurn_16 : decode cX9_endsTurn 16 = .ok (.getfield 88, 3) := by decide +kernel
theorem dX9_endsTurn_19 : decode cX9_endsTurn 19 = .ok (.iload_n 3, 1) := by decide +kernel
theorem dX9_endsTurn_20 : decode cX9_endsTurn 20 = .ok (.aload_n 0, 1) := by decide +kernel
theorem dX9_endsTurn_21 : decode cX9_endsTurn 21 = .ok (.getfield 88, 3) := by decide +kernel
theorem dX9_endsTurn_24 : decode cX9_endsTurn 24 = .ok (.iload_n 3, 1) := by decide +kernel
theorem dX9_endsTurn_25 : decode cX9_endsTurn 25 = .ok (.iconst 1, 1) := by decide +kernel
theorem dX9_endsTurn_26 : decode cX9_endsTurn 26 = .ok (.iadd, 1) := by decide +kernel
theorem dX9_endsTurn_27 : decode cX9_endsTurn 27 = .ok (.iaload, 1) := by decide +kernel
theorem dX9_endsTurn_28 : decode cX9_endsTurn 28 = .ok (.iastore, 1) := by decide +kernel
theorem dX9_endsTurn_29 : decode cX9_endsTurn 29 = .ok (.iinc 3 1, 3) := by decide +kernel
theorem dX9_endsTurn_32 : decode cX9_endsTurn 32 = .ok (.goto (-23), 3) := by decide +kernel
theorem dX9_endsTurn_35 : decode cX9_endsTurn 35 = .ok (.aload_n 0, 1) := by decide +kernel
theorem dX9_endsTurn_36 : decode cX9_endsTurn 36 = .ok (.getfield 88, 3) := by decide +kernel
theorem dX9_endsTurn_39 : decode cX9_endsTurn 39 = .ok (.bipush 11, 2) := by decide +kernel
theorem dX9_endsTurn_41 : decode cX9_endsTurn 41 = .ok (.iload_n 2, 1) := by decide +kernel
theorem dX9_endsTurn_42 : decode cX9_endsTurn 42 = .ok (.iastore, 1) := by decide +kernel
theorem dX9_endsTurn_43 : decode cX9_endsTurn 43 = .ok (.return_, 1) := by decide +kernel
theorem dX9_wasUp_0 : decode cX9_wasUp 0 = .ok (.iconst 0, 1) := by decide +kernel
theorem dX9_wasUp_1 : decode cX9_wasUp 1 = .ok (.istore_n 2, 1) := by decide +kernel
theorem dX9_wasUp_2 : decode cX9_wasUp 2 = .ok (.iconst 1, 1) := by decide +kernel
theorem dX9_wasUp_3 : decode cX9_wasUp 3 = .ok (.istore_n 3, 1) := by decide +kernel
theorem dX9_wasUp_4 : decode cX9_wasUp 4 = .ok (.iload_n 3, 1) := by decide +kernel
theorem dX9_wasUp_5 : decode cX9_wasUp 5 = .ok (.aload_n 0, 1) := by decide +kernel
theorem dX9_wasUp_6 : decode cX9_wasUp 6 = .ok (.getfield 125, 3) := by decide +kernel
theorem dX9_wasUp_9 : decode cX9_wasUp 9 = .ok (.if_icmp .gt 37, 3) := by decide +kernel
theorem dX9_wasUp_12 : decode cX9_wasUp 12 = .ok (.aload_n 0, 1) := by decide +kernel
theorem dX9_wasUp_13 : decode cX9_wasUp 13 = .ok (.aload_n 0, 1) := by decide +kernel
theorem dX9_wasUp_14 : decode cX9_wasUp 14 = .ok (.getfield 128, 3) := by decide +kernel
theorem dX9_wasUp_17 : decode cX9_wasUp 17 = .ok (.iload_n 1, 1) := by decide +kernel
theorem dX9_wasUp_18 : decode cX9_wasUp 18 = .ok (.iload_n 3, 1) := by decide +kernel
theorem dX9_wasUp_19 : decode cX9_wasUp 19 = .ok (.invokevirtual 190, 3) := by decide +kernel
theorem dX9_wasUp_22 : decode cX9_wasUp 22 = .ok (.pop, 1) := by decide +kernel
theorem dX9_wasUp_23 : decode cX9_wasUp 23 = .ok (.iload_n 2, 1) := by decide +kernel
theorem dX9_wasUp_24 : decode cX9_wasUp 24 = .ok (.ifCond .ne 10, 3) := by decide +kernel
theorem dX9_wasUp_27 : decode cX9_wasUp 27 = .ok (.aload_n 0, 1) := by decide +kernel
theorem dX9_wasUp_28 : decode cX9_wasUp 28 = .ok (.getfield 174, 3) := by decide +kernel
theorem dX9_wasUp_31 : decode cX9_wasUp 31 = .ok (.ifCond .eq 7, 3) := by decide +kernel
theorem dX9_wasUp_34 : decode cX9_wasUp 34 = .ok (.iconst 1, 1) := by decide +kernel
theorem dX9_wasUp_35 : decode cX9_wasUp 35 = .ok (.goto 4, 3) := by decide +kernel
theorem dX9_wasUp_38 : decode cX9_wasUp 38 = .ok (.iconst 0, 1) := by decide +kernel
theorem dX9_wasUp_39 : decode cX9_wasUp 39 = .ok (.istore_n 2, 1) := by decide +kernel
theorem dX9_wasUp_40 : decode cX9_wasUp 40 = .ok (.iinc 3 1, 3) := by decide +kernel
theorem dX9_wasUp_43 : decode cX9_wasUp 43 = .ok (.goto (-39), 3) := by decide +kernel
theorem dX9_wasUp_46 : decode cX9_wasUp 46 = .ok (.iload_n 2, 1) := by decide +kernel
theorem dX9_wasUp_47 : decode cX9_wasUp 47 = .ok (.ireturn, 1) := by decide +kernel
theorem dX9_close_0 : decode cX9_close 0 = .ok (.iload_n 1, 1) := by decide +kernel
theorem dX9_close_1 : decode cX9_close 1 = .ok (.ifCond .lt 44, 3) := by decide +kernel
theorem dX9_close_4 : decode cX9_close 4 = .ok (.iload_n 1, 1) := by decide +kernel
theorem dX9_close_5 : decode cX9_close 5 = .ok (.sipush 1000, 3) := by decide +kernel
theorem dX9_close_8 : decode cX9_close 8 = .ok (.if_icmp .gt 37, 3) := by decide +kernel
theorem dX9_close_11 : decode cX9_close 11 = .ok (.aload_n 0, 1) := by decide +kernel
theorem dX9_close_12 : decode cX9_close 12 = .ok (.getfield 33, 3) := by decide +kernel
theorem dX9_close_15 : decode cX9_close 15 = .ok (.iconst (-1), 1) := by decide +kernel
theorem dX9_close_16 : decode cX9_close 16 = .ok (.if_icmp .ne 29, 3) := by decide +kernel
theorem dX9_close_19 : decode cX9_close 19 = .ok (.aload_n 0, 1) := by decide +kernel
theorem dX9_close_20 : decode cX9_close 20 = .ok (.getfield 57, 3) := by decide +kernel
theorem dX9_close_23 : decode cX9_close 23 = .ok (.iconst (-1), 1) := by decide +kernel
theorem dX9_close_24 : decode cX9_close 24 = .ok (.if_icmp .eq 21, 3) := by decide +kernel
theorem dX9_close_27 : decode cX9_close 27 = .ok (.aload_n 0, 1) := by decide +kernel
theorem dX9_close_28 : decode cX9_close 28 = .ok (.getfield 57, 3) := by decide +kernel
theorem dX9_close_31 : decode cX9_close 31 = .ok (.aload_n 0, 1) := by decide +kernel
theorem dX9_close_32 : decode cX9_close 32 = .ok (.getfield 125, 3) := by decide +kernel
theorem dX9_close_35 : decode cX9_close 35 = .ok (.if_icmp .gt 10, 3) := by decide +kernel
theorem dX9_close_38 : decode cX9_close 38 = .ok (.aload_n 0, 1) := by decide +kernel
theorem dX9_close_39 : decode cX9_close 39 = .ok (.getfield 125, 3) := by decide +kernel
theorem dX9_close_42 : decode cX9_close 42 = .ok (.ifCond .ne 5, 3) := by decide +kernel
theorem dX9_close_45 : decode cX9_close 45 = .ok (.iconst (-1), 1) := by decide +kernel
theorem dX9_close_46 : decode cX9_close 46 = .ok (.ireturn, 1) := by decide +kernel
theorem dX9_close_47 : decode cX9_close 47 = .ok (.aload_n 0, 1) := by decide +kernel
theorem dX9_close_48 : decode cX9_close 48 = .ok (.aload_n 0, 1) := by decide +kernel
theorem dX9_close_49 : decode cX9_close 49 = .ok (.getfield 128, 3) := by decide +kernel
theorem dX9_close_52 : decode cX9_close 52 = .ok (.invokevirtual 203, 3) := by decide +kernel
theorem dX9_close_55 : decode cX9_close 55 = .ok (.aload_n 0, 1) := by decide +kernel
theorem dX9_close_56 : decode cX9_close 56 = .ok (.invokevirtual 206, 3) := by decide +kernel
theorem dX9_close_59 : decode cX9_close 59 = .ok (.lstore_n 2, 1) := by decide +kernel
theorem dX9_close_60 : decode cX9_close 60 = .ok (.iload_n 1, 1) := by decide +kernel
theorem dX9_close_61 : decode cX9_close 61 = .ok (.istore 4, 2) := by decide +kernel
theorem dX9_close_63 : decode cX9_close 63 = .ok (.iconst 0, 1) := by decide +kernel
theorem dX9_close_64 : decode cX9_close 64 = .ok (.istore 5, 2) := by decide +kernel
theorem dX9_close_66 : decode cX9_close 66 = .ok (.iload 5, 2) := by decide +kernel
theorem dX9_close_68 : decode cX9_close 68 = .ok (.bipush 12, 2) := by decide +kernel
theorem dX9_close_70 : decode cX9_close 70 = .ok (.if_icmp .ge 94, 3) := by decide +kernel
theorem dX9_close_73 : decode cX9_close 73 = .ok (.aload_n 0, 1) := by decide +kernel
theorem dX9_close_74 : decode cX9_close 74 = .ok (.getfield 94, 3) := by decide +kernel
theorem dX9_close_77 : decode cX9_close 77 = .ok (.iload 5, 2) := by decide +kernel
theorem dX9_close_79 : decode cX9_close 79 = .ok (.iconst 0, 1) := by decide +kernel
theorem dX9_close_80 : decode cX9_close 80 = .ok (.iastore, 1) := by decide +kernel
theorem dX9_close_81 : decode cX9_close 81 = .ok (.lload_n 2, 1) := by decide +kernel
theorem dX9_close_82 : decode cX9_close 82 = .ok (.lconst 0, 1) := by decide +kernel
theorem dX9_close_83 : decode cX9_close 83 = .ok (.lcmp, 1) := by decide +kernel
theorem dX9_close_84 : decode cX9_close 84 = .ok (.ifCond .ne 6, 3) := by decide +kernel
theorem dX9_close_87 : decode cX9_close 87 = .ok (.goto 71, 3) := by decide +kernel
theorem dX9_close_90 : decode cX9_close 90 = .ok (.iload_n 1, 1) := by decide +kernel
theorem dX9_close_91 : decode cX9_close 91 = .ok (.i2l, 1) := by decide +kernel
theorem dX9_close_92 : decode cX9_close 92 = .ok (.aload_n 0, 1) := by decide +kernel
theorem dX9_close_93 : decode cX9_close 93 = .ok (.getfield 85, 3) := by decide +kernel
theorem dX9_close_96 : decode cX9_close 96 = .ok (.iload 5, 2) := by decide +kernel
theorem dX9_close_98 : decode cX9_close 98 = .ok (.iaload, 1) := by decide +kernel
theorem dX9_close_99 : decode cX9_close 99 = .ok (.i2l, 1) := by decide +kernel
theorem dX9_close_100 : decode cX9_close 100 = .ok (.lmul, 1) := by decide +kernel
theorem dX9_close_101 : decode cX9_close 101 = .ok (.lload_n 2, 1) := by decide +kernel
theorem dX9_close_102 : decode cX9_close 102 = .ok (.ldiv, 1) := by decide +kernel
theorem dX9_close_103 : decode cX9_close 103 = .ok (.l2i, 1) := by decide +kernel
theorem dX9_close_104 : decode cX9_close 104 = .ok (.istore 6, 2) := by decide +kernel
theorem dX9_close_106 : decode cX9_close 106 = .ok (.aload_n 0, 1) := by decide +kernel
theorem dX9_close_107 : decode cX9_close 107 = .ok (.iload 5, 2) := by decide +kernel
theorem dX9_close_109 : decode cX9_close 109 = .ok (.iload 6, 2) := by decide +kernel
theorem dX9_close_111 : decode cX9_close 111 = .ok (.invokevirtual 210, 3) := by decide +kernel
theorem dX9_close_114 : decode cX9_close 114 = .ok (.iload 4, 2) := by decide +kernel
theorem dX9_close_116 : decode cX9_close 116 = .ok (.iload 6, 2) := by decide +kernel
theorem dX9_close_118 : decode cX9_close 118 = .ok (.isub, 1) := by decide +kernel
theorem dX9_close_119 : decode cX9_close 119 = .ok (.istore 4, 2) := by decide +kernel
theorem dX9_close_121 : decode cX9_close 121 = .ok (.aload_n 0, 1) := by decide +kernel
theorem dX9_close_122 : decode cX9_close 122 = .ok (.getfield 97, 3) := by decide +kernel
theorem dX9_close_125 : decode cX9_close 125 = .ok (.iload 5, 2) := by decide +kernel
theorem dX9_close_127 : decode cX9_close 127 = .ok (.aload_n 0, 1) := by decide +kernel
theorem dX9_close_128 : decode cX9_close 128 = .ok (.getfield 97, 3) := by decide +kernel
theorem dX9_close_131 : decode cX9_close 131 = .ok (.iload 5, 2) := by decide +kernel
theorem dX9_close_133 : decode cX9_close 133 = .ok (.laload, 1) := by decide +kernel
theorem dX9_close_134 : decode cX9_close 134 = .ok (.aload_n 0, 1) := by decide +kernel
theorem dX9_close_135 : decode cX9_close 135 = .ok (.getfield 20, 3) := by decide +kernel
theorem dX9_close_138 : decode cX9_close 138 = .ok (.i2l, 1) := by decide +kernel
theorem dX9_close_139 : decode cX9_close 139 = .ok (.aload_n 0, 1) := by decide +kernel
theorem dX9_close_140 : decode cX9_close 140 = .ok (.getfield 85, 3) := by decide +kernel
theorem dX9_close_143 : decode cX9_close 143 = .ok (.iload 5, 2) := by decide +kernel
theorem dX9_close_145 : decode cX9_close 145 = .ok (.iaload, 1) := by decide +kernel
theorem dX9_close_146 : decode cX9_close 146 = .ok (.i2l, 1) := by decide +kernel
theorem dX9_close_147 : decode cX9_close 147 = .ok (.lmul, 1) := by decide +kernel
theorem dX9_close_148 : decode cX9_close 148 = .ok (.ldc2_w 214, 3) := by decide +kernel
theorem dX9_close_151 : decode cX9_close 151 = .ok (.ladd, 1) := by decide +kernel
theorem dX9_close_152 : decode cX9_close 152 = .ok (.ldc2_w 216, 3) := by decide +kernel
theorem dX9_close_155 : decode cX9_close 155 = .ok (.ldiv, 1) := by decide +kernel
theorem dX9_close_156 : decode cX9_close 156 = .ok (.ladd, 1) := by decide +kernel
theorem dX9_close_157 : decode cX9_close 157 = .ok (.lastore, 1) := by decide +kernel
theorem dX9_close_158 : decode cX9_close 158 = .ok (.iinc 5 1, 3) := by decide +kernel
theorem dX9_close_161 : decode cX9_close 161 = .ok (.goto (-95), 3) := by decide +kernel
theorem dX9_close_164 : decode cX9_close 164 = .ok (.iload 4, 2) := by decide +kernel
theorem dX9_close_166 : decode cX9_close 166 = .ok (.ifCond .le 63, 3) := by decide +kernel
theorem dX9_close_169 : decode cX9_close 169 = .ok (.lload_n 2, 1) := by decide +kernel
theorem dX9_close_170 : decode cX9_close 170 = .ok (.lconst 0, 1) := by decide +kernel
theorem dX9_close_171 : decode cX9_close 171 = .ok (.lcmp, 1) := by decide +kernel
theorem dX9_close_172 : decode cX9_close 172 = .ok (.ifCond .le 57, 3) := by decide +kernel
theorem dX9_close_175 : decode cX9_close 175 = .ok (.iconst 0, 1) := by decide +kernel
theorem dX9_close_176 : decode cX9_close 176 = .ok (.istore 5, 2) := by decide +kernel
theorem dX9_close_178 : decode cX9_close 178 = .ok (.aload_n 0, 1) := by decide +kernel
theorem dX9_close_179 : decode cX9_close 179 = .ok (.getfield 85, 3) := by decide +kernel
theorem dX9_close_182 : decode cX9_close 182 = .ok (.aload_n 0, 1) := by decide +kernel
theorem dX9_close_183 : decode cX9_close 183 = .ok (.getfield 88, 3) := by decide +kernel
theorem dX9_close_186 : decode cX9_close 186 = .ok (.iload 5, 2) := by decide +kernel
theorem dX9_close_188 : decode cX9_close 188 = .ok (.iaload, 1) := by decide +kernel
theorem dX9_close_189 : decode cX9_close 189 = .ok (.iaload, 1) := by decide +kernel
theorem dX9_close_190 : decode cX9_close 190 = .ok (.ifCond .ne 12, 3) := by decide +kernel
theorem dX9_close_193 : decode cX9_close 193 = .ok (.iload 5, 2) := by decide +kernel
theorem dX9_close_195 : decode cX9_close 195 = .ok (.iconst 1, 1) := by decide +kernel
theorem dX9_close_196 : decode cX9_close 196 = .ok (.iadd, 1) := by decide +kernel
theorem dX9_close_197 : decode cX9_close 197 = .ok (.istore 5, 2) := by decide +kernel
theorem dX9_close_199 : decode cX9_close 199 = .ok (.goto (-21), 3) := by decide +kernel
theorem dX9_close_202 : decode cX9_close 202 = .ok (.aload_n 0, 1) := by decide +kernel
theorem dX9_close_203 : decode cX9_close 203 = .ok (.aload_n 0, 1) := by decide +kernel
theorem dX9_close_204 : decode cX9_close 204 = .ok (.getfield 88, 3) := by decide +kernel
theorem dX9_close_207 : decode cX9_close 207 = .ok (.iload 5, 2) := by decide +kernel
theorem dX9_close_209 : decode cX9_close 209 = .ok (.iaload, 1) := by decide +kernel
theorem dX9_close_210 : decode cX9_close 210 = .ok (.iconst 1, 1) := by decide +kernel
theorem dX9_close_211 : decode cX9_close 211 = .ok (.invokevirtual 210, 3) := by decide +kernel
theorem dX9_close_214 : decode cX9_close 214 = .ok (.aload_n 0, 1) := by decide +kernel
theorem dX9_close_215 : decode cX9_close 215 = .ok (.iload 5, 2) := by decide +kernel
theorem dX9_close_217 : decode cX9_close 217 = .ok (.invokevirtual 218, 3) := by decide +kernel
theorem dX9_close_220 : decode cX9_close 220 = .ok (.iload 4, 2) := by decide +kernel
theorem dX9_close_222 : decode cX9_close 222 = .ok (.iconst 1, 1) := by decide +kernel
theorem dX9_close_223 : decode cX9_close 223 = .ok (.isub, 1) := by decide +kernel
theorem dX9_close_224 : decode cX9_close 224 = .ok (.istore 4, 2) := by decide +kernel
theorem dX9_close_226 : decode cX9_close 226 = .ok (.goto (-62), 3) := by decide +kernel
theorem dX9_close_229 : decode cX9_close 229 = .ok (.aload_n 0, 1) := by decide +kernel
theorem dX9_close_230 : decode cX9_close 230 = .ok (.lload_n 2, 1) := by decide +kernel
theorem dX9_close_231 : decode cX9_close 231 = .ok (.invokevirtual 221, 3) := by decide +kernel
theorem dX9_close_234 : decode cX9_close 234 = .ok (.aload_n 0, 1) := by decide +kernel
theorem dX9_close_235 : decode cX9_close 235 = .ok (.invokevirtual 225, 3) := by decide +kernel
theorem dX9_close_238 : decode cX9_close 238 = .ok (.iload 4, 2) := by decide +kernel
theorem dX9_close_240 : decode cX9_close 240 = .ok (.ireturn, 1) := by decide +kernel
theorem dX9_pays_0 : decode cX9_pays 0 = .ok (.lconst 0, 1) := by decide +kernel
theorem dX9_pays_1 : decode cX9_pays 1 = .ok (.lstore_n 3, 1) := by decide +kernel
theorem dX9_pays_2 : decode cX9_pays 2 = .ok (.iconst 0, 1) := by decide +kernel
theorem dX9_pays_3 : decode cX9_pays 3 = .ok (.istore 5, 2) := by decide +kernel
theorem dX9_pays_5 : decode cX9_pays 5 = .ok (.iload 5, 2) := by decide +kernel
theorem dX9_pays_7 : decode cX9_pays 7 = .ok (.aload_n 0, 1) := by decide +kernel
theorem dX9_pays_8 : decode cX9_pays 8 = .ok (.getfield 171, 3) := by decide +kernel
theorem dX9_pays_11 : decode cX9_pays 11 = .ok (.if_icmp .ge 99, 3) := by decide +kernel
theorem dX9_pays_14 : decode cX9_pays 14 = .ok (.aload_n 0, 1) := by decide +kernel
theorem dX9_pays_15 : decode cX9_pays 15 = .ok (.getfield 66, 3) := by decide +kernel
theorem dX9_pays_18 : decode cX9_pays 18 = .ok (.iload 5, 2) := by decide +kernel
theorem dX9_pays_20 : decode cX9_pays 20 = .ok (.baload, 1) := by decide +kernel
theorem dX9_pays_21 : decode cX9_pays 21 = .ok (.ifCond .eq 6, 3) := by decide +kernel
theorem dX9_pays_24 : decode cX9_pays 24 = .ok (.goto 80, 3) := by decide +kernel
theorem dX9_pays_27 : decode cX9_pays 27 = .ok (.aload_n 0, 1) := by decide +kernel
theorem dX9_pays_28 : decode cX9_pays 28 = .ok (.iload 5, 2) := by decide +kernel
theorem dX9_pays_30 : decode cX9_pays 30 = .ok (.invokevirtual 228, 3) := by decide +kernel
theorem dX9_pays_33 : decode cX9_pays 33 = .ok (.istore 6, 2) := by decide +kernel
theorem dX9_pays_35 : decode cX9_pays 35 = .ok (.aload_n 0, 1) := by decide +kernel
theorem dX9_pays_36 : decode cX9_pays 36 = .ok (.aload_n 0, 1) := by decide +kernel
theorem dX9_pays_37 : decode cX9_pays 37 = .ok (.getfield 128, 3) := by decide +kernel
theorem dX9_pays_40 : decode cX9_pays 40 = .ok (.iload 5, 2) := by decide +kernel
theorem dX9_pays_42 : decode cX9_pays 42 = .ok (.aload_n 0, 1) := by decide +kernel
theorem dX9_pays_43 : decode cX9_pays 43 = .ok (.getfield 125, 3) := by decide +kernel
theorem dX9_pays_46 : decode cX9_pays 46 = .ok (.invokevirtual 190, 3) := by decide +kernel
theorem dX9_pays_49 : decode cX9_pays 49 = .ok (.pop, 1) := by decide +kernel
theorem dX9_pays_50 : decode cX9_pays 50 = .ok (.aload_n 0, 1) := by decide +kernel
theorem dX9_pays_51 : decode cX9_pays 51 = .ok (.getfield 178, 3) := by decide +kernel
theorem dX9_pays_54 : decode cX9_pays 54 = .ok (.ifCond .ne 18, 3) := by decide +kernel
theorem dX9_pays_57 : decode cX9_pays 57 = .ok (.iload 6, 2) := by decide +kernel
theorem dX9_pays_59 : decode cX9_pays 59 = .ok (.ifCond .eq 45, 3) := by decide +kernel
theorem dX9_pays_62 : decode cX9_pays 62 = .ok (.aload_n 0, 1) := by decide +kernel
theorem dX9_pays_63 : decode cX9_pays 63 = .ok (.getfield 174, 3) := by decide +kernel
theorem dX9_pays_66 : decode cX9_pays 66 = .ok (.ifCond .eq 6, 3) := by decide +kernel
theorem dX9_pays_69 : decode cX9_pays 69 = .ok (.goto 35, 3) := by decide +kernel
theorem dX9_pays_72 : decode cX9_pays 72 = .ok (.aload_n 0, 1) := by decide +kernel
theorem dX9_pays_73 : decode cX9_pays 73 = .ok (.getfield 101, 3) := by decide +kernel
theorem dX9_pays_76 : decode cX9_pays 76 = .ok (.aload_n 0, 1) := by decide +kernel
theorem dX9_pays_77 : decode cX9_pays 77 = .ok (.getfield 181, 3) := by decide +kernel
theorem dX9_pays_80 : decode cX9_pays 80 = .ok (.aload_n 0, 1) := by decide +kernel
theorem dX9_pays_81 : decode cX9_pays 81 = .ok (.getfield 101, 3) := by decide +kernel
theorem dX9_pays_84 : decode cX9_pays 84 = .ok (.aload_n 0, 1) := by decide +kernel
theorem dX9_pays_85 : decode cX9_pays 85 = .ok (.getfield 181, 3) := by decide +kernel
theorem dX9_pays_88 : decode cX9_pays 88 = .ok (.laload, 1) := by decide +kernel
theorem dX9_pays_89 : decode cX9_pays 89 = .ok (.aload_n 0, 1) := by decide +kernel
theorem dX9_pays_90 : decode cX9_pays 90 = .ok (.getfield 23, 3) := by decide +kernel
theorem dX9_pays_93 : decode cX9_pays 93 = .ok (.i2l, 1) := by decide +kernel
theorem dX9_pays_94 : decode cX9_pays 94 = .ok (.ladd, 1) := by decide +kernel
theorem dX9_pays_95 : decode cX9_pays 95 = .ok (.lastore, 1) := by decide +kernel
theorem dX9_pays_96 : decode cX9_pays 96 = .ok (.lload_n 3, 1) := by decide +kernel
theorem dX9_pays_97 : decode cX9_pays 97 = .ok (.aload_n 0, 1) := by decide +kernel
theorem dX9_pays_98 : decode cX9_pays 98 = .ok (.getfield 23, 3) := by decide +kernel
theorem dX9_pays_101 : decode cX9_pays 101 = .ok (.i2l, 1) := by decide +kernel
theorem dX9_pays_102 : decode cX9_pays 102 = .ok (.ladd, 1) := by decide +kernel
theorem dX9_pays_103 : decode cX9_pays 103 = .ok (.lstore_n 3, 1) := by decide +kernel
theorem dX9_pays_104 : decode cX9_pays 104 = .ok (.iinc 5 1, 3) := by decide +kernel
theorem dX9_pays_107 : decode cX9_pays 107 = .ok (.goto (-102), 3) := by decide +kernel
theorem dX9_pays_110 : decode cX9_pays 110 = .ok (.lconst 0, 1) := by decide +kernel
theorem dX9_pays_111 : decode cX9_pays 111 = .ok (.lstore 5, 2) := by decide +kernel
theorem dX9_pays_113 : decode cX9_pays 113 = .ok (.iconst 0, 1) := by decide +kernel
theorem dX9_pays_114 : decode cX9_pays 114 = .ok (.istore 7, 2) := by decide +kernel
theorem dX9_pays_116 : decode cX9_pays 116 = .ok (.iload 7, 2) := by decide +kernel
theorem dX9_pays_118 : decode cX9_pays 118 = .ok (.bipush 12, 2) := by decide +kernel
theorem dX9_pays_120 : decode cX9_pays 120 = .ok (.if_icmp .ge 53, 3) := by decide +kernel
theorem dX9_pays_123 : decode cX9_pays 123 = .ok (.lload_n 1, 1) := by decide +kernel
theorem dX9_pays_124 : decode cX9_pays 124 = .ok (.lconst 0, 1) := by decide +kernel
theorem dX9_pays_125 : decode cX9_pays 125 = .ok (.lcmp, 1) := by decide +kernel
theorem dX9_pays_126 : decode cX9_pays 126 = .ok (.ifCond .le 47, 3) := by decide +kernel
theorem dX9_pays_129 : decode cX9_pays 129 = .ok (.lload_n 3, 1) := by decide +kernel
theorem dX9_pays_130 : decode cX9_pays 130 = .ok (.aload_n 0, 1) := by decide +kernel
theorem dX9_pays_131 : decode cX9_pays 131 = .ok (.getfield 85, 3) := by decide +kernel
theorem dX9_pays_134 : decode cX9_pays 134 = .ok (.iload 7, 2) := by decide +kernel
theorem dX9_pays_136 : decode cX9_pays 136 = .ok (.iaload, 1) := by decide +kernel
theorem dX9_pays_137 : decode cX9_pays 137 = .ok (.i2l, 1) := by decide +kernel
theorem dX9_pays_138 : decode cX9_pays 138 = .ok (.lmul, 1) := by decide +kernel
theorem dX9_pays_139 : decode cX9_pays 139 = .ok (.lload_n 1, 1) := by decide +kernel
theorem dX9_pays_140 : decode cX9_pays 140 = .ok (.ldiv, 1) := by decide +kernel
theorem dX9_pays_141 : decode cX9_pays 141 = .ok (.lstore 8, 2) := by decide +kernel
theorem dX9_pays_143 : decode cX9_pays 143 = .ok (.aload_n 0, 1) := by decide +kernel
theorem dX9_pays_144 : decode cX9_pays 144 = .ok (.getfield 101, 3) := by decide +kernel
theorem dX9_pays_147 : decode cX9_pays 147 = .ok (.iload 7, 2) := by decide +kernel
theorem dX9_pays_149 : decode cX9_pays 149 = .ok (.aload_n 0, 1) := by decide +kernel
theorem dX9_pays_150 : decode cX9_pays 150 = .ok (.getfield 101, 3) := by decide +kernel
theorem dX9_pays_153 : decode cX9_pays 153 = .ok (.iload 7, 2) := by decide +kernel
theorem dX9_pays_155 : decode cX9_pays 155 = .ok (.laload, 1) := by decide +kernel
theorem dX9_pays_156 : decode cX9_pays 156 = .ok (.lload 8, 2) := by decide +kernel
theorem dX9_pays_158 : decode cX9_pays 158 = .ok (.lsub, 1) := by decide +kernel
theorem dX9_pays_159 : decode cX9_pays 159 = .ok (.lastore, 1) := by decide +kernel
theorem dX9_pays_160 : decode cX9_pays 160 = .ok (.lload 5, 2) := by decide +kernel
theorem dX9_pays_162 : decode cX9_pays 162 = .ok (.lload 8, 2) := by decide +kernel
theorem dX9_pays_164 : decode cX9_pays 164 = .ok (.ladd, 1) := by decide +kernel
theorem dX9_pays_165 : decode cX9_pays 165 = .ok (.lstore 5, 2) := by decide +kernel
theorem dX9_pays_167 : decode cX9_pays 167 = .ok (.iinc 7 1, 3) := by decide +kernel
theorem dX9_pays_170 : decode cX9_pays 170 = .ok (.goto (-54), 3) := by decide +kernel
theorem dX9_pays_173 : decode cX9_pays 173 = .ok (.aload_n 0, 1) := by decide +kernel
theorem dX9_pays_174 : decode cX9_pays 174 = .ok (.aload_n 0, 1) := by decide +kernel
theorem dX9_pays_175 : decode cX9_pays 175 = .ok (.getfield 231, 3) := by decide +kernel
theorem dX9_pays_178 : decode cX9_pays 178 = .ok (.lload_n 3, 1) := by decide +kernel
theorem dX9_pays_179 : decode cX9_pays 179 = .ok (.ladd, 1) := by decide +kernel
theorem dX9_pays_180 : decode cX9_pays 180 = .ok (.lload 5, 2) := by decide +kernel
theorem dX9_pays_182 : decode cX9_pays 182 = .ok (.lsub, 1) := by decide +kernel
theorem dX9_pays_183 : decode cX9_pays 183 = .ok (.putfield 231, 3) := by decide +kernel
theorem dX9_pays_186 : decode cX9_pays 186 = .ok (.return_, 1) := by decide +kernel
theorem dX9_begins_0 : decode cX9_begins 0 = .ok (.iconst 0, 1) := by decide +kernel
theorem dX9_begins_1 : decode cX9_begins 1 = .ok (.istore_n 1, 1) := by decide +kernel
theorem dX9_begins_2 : decode cX9_begins 2 = .ok (.iload_n 1, 1) := by decide +kernel
theorem dX9_begins_3 : decode cX9_begins 3 = .ok (.aload_n 0, 1) := by decide +kernel
theorem dX9_begins_4 : decode cX9_begins 4 = .ok (.getfield 171, 3) := by decide +kernel
theorem dX9_begins_7 : decode cX9_begins 7 = .ok (.if_icmp .ge 50, 3) := by decide +kernel
theorem dX9_begins_10 : decode cX9_begins 10 = .ok (.aload_n 0, 1) := by decide +kernel
theorem dX9_begins_11 : decode cX9_begins 11 = .ok (.aload_n 0, 1) := by decide +kernel
theorem dX9_begins_12 : decode cX9_begins 12 = .ok (.getfield 128, 3) := by decide +kernel
theorem dX9_begins_15 : decode cX9_begins 15 = .ok (.iload_n 1, 1) := by decide +kernel
theorem dX9_begins_16 : decode cX9_begins 16 = .ok (.aload_n 0, 1) := by decide +kernel
theorem dX9_begins_17 : decode cX9_begins 17 = .ok (.getfield 125, 3) := by decide +kernel
theorem dX9_begins_20 : decode cX9_begins 20 = .ok (.invokevirtual 190, 3) := by decide +kernel
theorem dX9_begins_23 : decode cX9_begins 23 = .ok (.pop, 1) := by decide +kernel
theorem dX9_begins_24 : decode cX9_begins 24 = .ok (.aload_n 0, 1) := by decide +kernel
theorem dX9_begins_25 : decode cX9_begins 25 = .ok (.getfield 60, 3) := by decide +kernel
theorem dX9_begins_28 : decode cX9_begins 28 = .ok (.iload_n 1, 1) := by decide +kernel
theorem dX9_begins_29 : decode cX9_begins 29 = .ok (.aload_n 0, 1) := by decide +kernel
theorem dX9_begins_30 : decode cX9_begins 30 = .ok (.getfield 181, 3) := by decide +kernel
theorem dX9_begins_33 : decode cX9_begins 33 = .ok (.iastore, 1) := by decide +kernel
theorem dX9_begins_34 : decode cX9_begins 34 = .ok (.aload_n 0, 1) := by decide +kernel
theorem dX9_begins_35 : decode cX9_begins 35 = .ok (.getfield 66, 3) := by decide +kernel
theorem dX9_begins_38 : decode cX9_begins 38 = .ok (.iload_n 1, 1) := by decide +kernel
theorem dX9_begins_39 : decode cX9_begins 39 = .ok (.aload_n 0, 1) := by decide +kernel
theorem dX9_begins_40 : decode cX9_begins 40 = .ok (.getfield 178, 3) := by decide +kernel
theorem dX9_begins_43 : decode cX9_begins 43 = .ok (.bastore, 1) := by decide +kernel
theorem dX9_begins_44 : decode cX9_begins 44 = .ok (.aload_n 0, 1) := by decide +kernel
theorem dX9_begins_45 : decode cX9_begins 45 = .ok (.getfield 63, 3) := by decide +kernel
theorem dX9_begins_48 : decode cX9_begins 48 = .ok (.iload_n 1, 1) := by decide +kernel
theorem dX9_begins_49 : decode cX9_begins 49 = .ok (.iconst 0, 1) := by decide +kernel
theorem dX9_begins_50 : decode cX9_begins 50 = .ok (.iastore, 1) := by decide +kernel
theorem dX9_begins_51 : decode cX9_begins 51 = .ok (.iinc 1 1, 3) := by decide +kernel
theorem dX9_begins_54 : decode cX9_begins 54 = .ok (.goto (-52), 3) := by decide +kernel
theorem dX9_begins_57 : decode cX9_begins 57 = .ok (.aload_n 0, 1) := by decide +kernel
theorem dX9_begins_58 : decode cX9_begins 58 = .ok (.aload_n 0, 1) := by decide +kernel
theorem dX9_begins_59 : decode cX9_begins 59 = .ok (.getfield 36, 3) := by decide +kernel
theorem dX9_begins_62 : decode cX9_begins 62 = .ok (.iconst 1, 1) := by decide +kernel
theorem dX9_begins_63 : decode cX9_begins 63 = .ok (.iadd, 1) := by decide +kernel
theorem dX9_begins_64 : decode cX9_begins 64 = .ok (.putfield 36, 3) := by decide +kernel
theorem dX9_begins_67 : decode cX9_begins 67 = .ok (.aload_n 0, 1) := by decide +kernel
theorem dX9_begins_68 : decode cX9_begins 68 = .ok (.iconst 0, 1) := by decide +kernel
theorem dX9_begins_69 : decode cX9_begins 69 = .ok (.putfield 125, 3) := by decide +kernel
theorem dX9_begins_72 : decode cX9_begins 72 = .ok (.aload_n 0, 1) := by decide +kernel
theorem dX9_begins_73 : decode cX9_begins 73 = .ok (.iconst 0, 1) := by decide +kernel
theorem dX9_begins_74 : decode cX9_begins 74 = .ok (.putfield 128, 3) := by decide +kernel
theorem dX9_begins_77 : decode cX9_begins 77 = .ok (.aload_n 0, 1) := by decide +kernel
theorem dX9_begins_78 : decode cX9_begins 78 = .ok (.iconst (-1), 1) := by decide +kernel
theorem dX9_begins_79 : decode cX9_begins 79 = .ok (.putfield 57, 3) := by decide +kernel
theorem dX9_begins_82 : decode cX9_begins 82 = .ok (.aload_n 0, 1) := by decide +kernel
theorem dX9_begins_83 : decode cX9_begins 83 = .ok (.iconst 0, 1) := by decide +kernel
theorem dX9_begins_84 : decode cX9_begins 84 = .ok (.putfield 149, 3) := by decide +kernel
theorem dX9_begins_87 : decode cX9_begins 87 = .ok (.return_, 1) := by decide +kernel
theorem dX9_work_0 : decode cX9_work 0 = .ok (.iload_n 1, 1) := by decide +kernel
theorem dX9_work_1 : decode cX9_work 1 = .ok (.ifCond .lt 21, 3) := by decide +kernel
theorem dX9_work_4 : decode cX9_work 4 = .ok (.iload_n 1, 1) := by decide +kernel
theorem dX9_work_5 : decode cX9_work 5 = .ok (.bipush 12, 2) := by decide +kernel
theorem dX9_work_7 : decode cX9_work 7 = .ok (.if_icmp .ge 15, 3) := by decide +kernel
theorem dX9_work_10 : decode cX9_work 10 = .ok (.iload_n 2, 1) := by decide +kernel
theorem dX9_work_11 : decode cX9_work 11 = .ok (.iconst 1, 1) := by decide +kernel
theorem dX9_work_12 : decode cX9_work 12 = .ok (.if_icmp .lt 10, 3) := by decide +kernel
theorem dX9_work_15 : decode cX9_work 15 = .ok (.iload_n 2, 1) := by decide +kernel
theorem dX9_work_16 : decode cX9_work 16 = .ok (.sipush 1000, 3) := by decide +kernel
theorem dX9_work_19 : decode cX9_work 19 = .ok (.if_icmp .le 5, 3) := by decide +kernel
theorem dX9_work_22 : decode cX9_work 22 = .ok (.iconst 0, 1) := by decide +kernel
theorem dX9_work_23 : decode cX9_work 23 = .ok (.ireturn, 1) := by decide +kernel
theorem dX9_work_24 : decode cX9_work 24 = .ok (.aload_n 0, 1) := by decide +kernel
theorem dX9_work_25 : decode cX9_work 25 = .ok (.getfield 97, 3) := by decide +kernel
theorem dX9_work_28 : decode cX9_work 28 = .ok (.iload_n 1, 1) := by decide +kernel
theorem dX9_work_29 : decode cX9_work 29 = .ok (.aload_n 0, 1) := by decide +kernel
theorem dX9_work_30 : decode cX9_work 30 = .ok (.getfield 97, 3) := by decide +kernel
theorem dX9_work_33 : decode cX9_work 33 = .ok (.iload_n 1, 1) := by decide +kernel
theorem dX9_work_34 : decode cX9_work 34 = .ok (.laload, 1) := by decide +kernel
theorem dX9_work_35 : decode cX9_work 35 = .ok (.iload_n 2, 1) := by decide +kernel
theorem dX9_work_36 : decode cX9_work 36 = .ok (.i2l, 1) := by decide +kernel
theorem dX9_work_37 : decode cX9_work 37 = .ok (.lsub, 1) := by decide +kernel
theorem dX9_work_38 : decode cX9_work 38 = .ok (.lastore, 1) := by decide +kernel
theorem dX9_work_39 : decode cX9_work 39 = .ok (.iconst 1, 1) := by decide +kernel
theorem dX9_work_40 : decode cX9_work 40 = .ok (.ireturn, 1) := by decide +kernel
theorem dX9_herd_0 : decode cX9_herd 0 = .ok (.iconst 0, 1) := by decide +kernel
theorem dX9_herd_1 : decode cX9_herd 1 = .ok (.istore_n 2, 1) := by decide +kernel
theorem dX9_herd_2 : decode cX9_herd 2 = .ok (.iconst 0, 1) := by decide +kernel
theorem dX9_herd_3 : decode cX9_herd 3 = .ok (.istore_n 3, 1) := by decide +kernel
theorem dX9_herd_4 : decode cX9_herd 4 = .ok (.iload_n 3, 1) := by decide +kernel
theorem dX9_herd_5 : decode cX9_herd 5 = .ok (.aload_n 0, 1) := by decide +kernel
theorem dX9_herd_6 : decode cX9_herd 6 = .ok (.getfield 171, 3) := by decide +kernel
theorem dX9_herd_9 : decode cX9_herd 9 = .ok (.if_icmp .ge 46, 3) := by decide +kernel
theorem dX9_herd_12 : decode cX9_herd 12 = .ok (.aload_n 0, 1) := by decide +kernel
theorem dX9_herd_13 : decode cX9_herd 13 = .ok (.aload_n 0, 1) := by decide +kernel
theorem dX9_herd_14 : decode cX9_herd 14 = .ok (.getfield 128, 3) := by decide +kernel
theorem dX9_herd_17 : decode cX9_herd 17 = .ok (.iload_n 3, 1) := by decide +kernel
theorem dX9_herd_18 : decode cX9_herd 18 = .ok (.aload_n 0, 1) := by decide +kernel
theorem dX9_herd_19 : decode cX9_herd 19 = .ok (.getfield 125, 3) := by decide +kernel
theorem dX9_herd_22 : decode cX9_herd 22 = .ok (.invokevirtual 190, 3) := by decide +kernel
theorem dX9_herd_25 : decode cX9_herd 25 = .ok (.pop, 1) := by decide +kernel
end
section
theorem dX9_herd_26 : decode cX9_herd 26 = .ok (.iload_n 2, 1) := by decide +kernel
theorem dX9_herd_27 : decode cX9_herd 27 = .ok (.aload_n 0, 1) := by decide +kernel
theorem dX9_herd_28 : decode cX9_herd 28 = .ok (.getfield 181, 3) := by decide +kernel
theorem dX9_herd_31 : decode cX9_herd 31 = .ok (.iload_n 1, 1) := by decide +kernel
theorem dX9_herd_32 : decode cX9_herd 32 = .ok (.if_icmp .ne 14, 3) := by decide +kernel
theorem dX9_herd_35 : decode cX9_herd 35 = .ok (.aload_n 0, 1) := by decide +kernel
theorem dX9_herd_36 : decode cX9_herd 36 = .ok (.getfield 178, 3) := by decide +kernel
theorem dX9_herd_39 : decode cX9_herd 39 = .ok (.ifCond .ne 7, 3) := by decide +kernel
theorem dX9_herd_42 : decode cX9_herd 42 = .ok (.iconst 1, 1) := by decide +kernel
theorem dX9_herd_43 : decode cX9_herd 43 = .ok (.goto 4, 3) := by decide +kernel
theorem dX9_herd_46 : decode cX9_herd 46 = .ok (.iconst 0, 1) := by decide +kernel
theorem dX9_herd_47 : decode cX9_herd 47 = .ok (.iadd, 1) := by decide +kernel
theorem dX9_herd_48 : decode cX9_herd 48 = .ok (.istore_n 2, 1) := by decide +kernel
theorem dX9_herd_49 : decode cX9_herd 49 = .ok (.iinc 3 1, 3) := by decide +kernel
theorem dX9_herd_52 : decode cX9_herd 52 = .ok (.goto (-48), 3) := by decide +kernel
theorem dX9_herd_55 : decode cX9_herd 55 = .ok (.iload_n 2, 1) := by decide +kernel
theorem dX9_herd_56 : decode cX9_herd 56 = .ok (.ireturn, 1) := by decide +kernel
theorem dX9_told_0 : decode cX9_told 0 = .ok (.iload_n 1, 1) := by decide +kernel
theorem dX9_told_1 : decode cX9_told 1 = .ok (.ifCond .lt 9, 3) := by decide +kernel
theorem dX9_told_4 : decode cX9_told 4 = .ok (.iload_n 1, 1) := by decide +kernel
theorem dX9_told_5 : decode cX9_told 5 = .ok (.bipush 12, 2) := by decide +kernel
theorem dX9_told_7 : decode cX9_told 7 = .ok (.if_icmp .lt 7, 3) := by decide +kernel
theorem dX9_told_10 : decode cX9_told 10 = .ok (.ldc2_w 234, 3) := by decide +kernel
theorem dX9_told_13 : decode cX9_told 13 = .ok (.lreturn, 1) := by decide +kernel
theorem dX9_told_14 : decode cX9_told 14 = .ok (.iload_n 2, 1) := by decide +kernel
theorem dX9_told_15 : decode cX9_told 15 = .ok (.tableswitch 96 0 5 #[37, 44, 52, 60, 67, 74], 37) := by decide +kernel
theorem dX9_told_52 : decode cX9_told 52 = .ok (.aload_n 0, 1) := by decide +kernel
theorem dX9_told_53 : decode cX9_told 53 = .ok (.iload_n 1, 1) := by decide +kernel
theorem dX9_told_54 : decode cX9_told 54 = .ok (.invokevirtual 236, 3) := by decide +kernel
theorem dX9_told_57 : decode cX9_told 57 = .ok (.i2l, 1) := by decide +kernel
theorem dX9_told_58 : decode cX9_told 58 = .ok (.lreturn, 1) := by decide +kernel
theorem dX9_told_59 : decode cX9_told 59 = .ok (.aload_n 0, 1) := by decide +kernel
theorem dX9_told_60 : decode cX9_told 60 = .ok (.getfield 91, 3) := by decide +kernel
theorem dX9_told_63 : decode cX9_told 63 = .ok (.iload_n 1, 1) := by decide +kernel
theorem dX9_told_64 : decode cX9_told 64 = .ok (.iaload, 1) := by decide +kernel
theorem dX9_told_65 : decode cX9_told 65 = .ok (.i2l, 1) := by decide +kernel
theorem dX9_told_66 : decode cX9_told 66 = .ok (.lreturn, 1) := by decide +kernel
theorem dX9_told_67 : decode cX9_told 67 = .ok (.aload_n 0, 1) := by decide +kernel
theorem dX9_told_68 : decode cX9_told 68 = .ok (.getfield 94, 3) := by decide +kernel
theorem dX9_told_71 : decode cX9_told 71 = .ok (.iload_n 1, 1) := by decide +kernel
theorem dX9_told_72 : decode cX9_told 72 = .ok (.iaload, 1) := by decide +kernel
theorem dX9_told_73 : decode cX9_told 73 = .ok (.i2l, 1) := by decide +kernel
theorem dX9_told_74 : decode cX9_told 74 = .ok (.lreturn, 1) := by decide +kernel
theorem dX9_told_75 : decode cX9_told 75 = .ok (.aload_n 0, 1) := by decide +kernel
theorem dX9_told_76 : decode cX9_told 76 = .ok (.getfield 97, 3) := by decide +kernel
theorem dX9_told_79 : decode cX9_told 79 = .ok (.iload_n 1, 1) := by decide +kernel
theorem dX9_told_80 : decode cX9_told 80 = .ok (.laload, 1) := by decide +kernel
theorem dX9_told_81 : decode cX9_told 81 = .ok (.lreturn, 1) := by decide +kernel
theorem dX9_told_82 : decode cX9_told 82 = .ok (.aload_n 0, 1) := by decide +kernel
theorem dX9_told_83 : decode cX9_told 83 = .ok (.getfield 101, 3) := by decide +kernel
theorem dX9_told_86 : decode cX9_told 86 = .ok (.iload_n 1, 1) := by decide +kernel
theorem dX9_told_87 : decode cX9_told 87 = .ok (.laload, 1) := by decide +kernel
theorem dX9_told_88 : decode cX9_told 88 = .ok (.lreturn, 1) := by decide +kernel
theorem dX9_told_89 : decode cX9_told 89 = .ok (.iconst 0, 1) := by decide +kernel
theorem dX9_told_90 : decode cX9_told 90 = .ok (.istore_n 3, 1) := by decide +kernel
theorem dX9_told_91 : decode cX9_told 91 = .ok (.aload_n 0, 1) := by decide +kernel
theorem dX9_told_92 : decode cX9_told 92 = .ok (.getfield 88, 3) := by decide +kernel
theorem dX9_told_95 : decode cX9_told 95 = .ok (.iload_n 3, 1) := by decide +kernel
theorem dX9_told_96 : decode cX9_told 96 = .ok (.iaload, 1) := by decide +kernel
theorem dX9_told_97 : decode cX9_told 97 = .ok (.iload_n 1, 1) := by decide +kernel
theorem dX9_told_98 : decode cX9_told 98 = .ok (.if_icmp .eq 10, 3) := by decide +kernel
theorem dX9_told_101 : decode cX9_told 101 = .ok (.iload_n 3, 1) := by decide +kernel
theorem dX9_told_102 : decode cX9_told 102 = .ok (.iconst 1, 1) := by decide +kernel
theorem dX9_told_103 : decode cX9_told 103 = .ok (.iadd, 1) := by decide +kernel
theorem dX9_told_104 : decode cX9_told 104 = .ok (.istore_n 3, 1) := by decide +kernel
theorem dX9_told_105 : decode cX9_told 105 = .ok (.goto (-14), 3) := by decide +kernel
theorem dX9_told_108 : decode cX9_told 108 = .ok (.iload_n 3, 1) := by decide +kernel
theorem dX9_told_109 : decode cX9_told 109 = .ok (.i2l, 1) := by decide +kernel
theorem dX9_told_110 : decode cX9_told 110 = .ok (.lreturn, 1) := by decide +kernel
theorem dX9_told_111 : decode cX9_told 111 = .ok (.ldc2_w 234, 3) := by decide +kernel
theorem dX9_told_114 : decode cX9_told 114 = .ok (.lreturn, 1) := by decide +kernel
theorem dX9_count_0 : decode cX9_count 0 = .ok (.iload_n 1, 1) := by decide +kernel
theorem dX9_count_1 : decode cX9_count 1 = .ok (.tableswitch 166 0 13 #[71, 77, 83, 89, 95, 101, 107, 113, 123, 129, 144, 150, 155, 161], 71) := by decide +kernel
theorem dX9_count_72 : decode cX9_count 72 = .ok (.aload_n 0, 1) := by decide +kernel
theorem dX9_count_73 : decode cX9_count 73 = .ok (.getfield 36, 3) := by decide +kernel
theorem dX9_count_76 : decode cX9_count 76 = .ok (.i2l, 1) := by decide +kernel
theorem dX9_count_77 : decode cX9_count 77 = .ok (.lreturn, 1) := by decide +kernel
theorem dX9_count_78 : decode cX9_count 78 = .ok (.aload_n 0, 1) := by decide +kernel
theorem dX9_count_79 : decode cX9_count 79 = .ok (.getfield 125, 3) := by decide +kernel
theorem dX9_count_82 : decode cX9_count 82 = .ok (.i2l, 1) := by decide +kernel
theorem dX9_count_83 : decode cX9_count 83 = .ok (.lreturn, 1) := by decide +kernel
theorem dX9_count_84 : decode cX9_count 84 = .ok (.aload_n 0, 1) := by decide +kernel
theorem dX9_count_85 : decode cX9_count 85 = .ok (.getfield 30, 3) := by decide +kernel
theorem dX9_count_88 : decode cX9_count 88 = .ok (.i2l, 1) := by decide +kernel
theorem dX9_count_89 : decode cX9_count 89 = .ok (.lreturn, 1) := by decide +kernel
theorem dX9_count_90 : decode cX9_count 90 = .ok (.aload_n 0, 1) := by decide +kernel
theorem dX9_count_91 : decode cX9_count 91 = .ok (.getfield 33, 3) := by decide +kernel
theorem dX9_count_94 : decode cX9_count 94 = .ok (.i2l, 1) := by decide +kernel
theorem dX9_count_95 : decode cX9_count 95 = .ok (.lreturn, 1) := by decide +kernel
theorem dX9_count_96 : decode cX9_count 96 = .ok (.aload_n 0, 1) := by decide +kernel
theorem dX9_count_97 : decode cX9_count 97 = .ok (.getfield 136, 3) := by decide +kernel
theorem dX9_count_100 : decode cX9_count 100 = .ok (.i2l, 1) := by decide +kernel
theorem dX9_count_101 : decode cX9_count 101 = .ok (.lreturn, 1) := by decide +kernel
theorem dX9_count_102 : decode cX9_count 102 = .ok (.aload_n 0, 1) := by decide +kernel
theorem dX9_count_103 : decode cX9_count 103 = .ok (.getfield 149, 3) := by decide +kernel
theorem dX9_count_106 : decode cX9_count 106 = .ok (.i2l, 1) := by decide +kernel
theorem dX9_count_107 : decode cX9_count 107 = .ok (.lreturn, 1) := by decide +kernel
theorem dX9_count_108 : decode cX9_count 108 = .ok (.aload_n 0, 1) := by decide +kernel
theorem dX9_count_109 : decode cX9_count 109 = .ok (.getfield 171, 3) := by decide +kernel
theorem dX9_count_112 : decode cX9_count 112 = .ok (.i2l, 1) := by decide +kernel
theorem dX9_count_113 : decode cX9_count 113 = .ok (.lreturn, 1) := by decide +kernel
theorem dX9_count_114 : decode cX9_count 114 = .ok (.aload_n 0, 1) := by decide +kernel
theorem dX9_count_115 : decode cX9_count 115 = .ok (.aload_n 0, 1) := by decide +kernel
theorem dX9_count_116 : decode cX9_count 116 = .ok (.getfield 125, 3) := by decide +kernel
theorem dX9_count_119 : decode cX9_count 119 = .ok (.invokevirtual 142, 3) := by decide +kernel
theorem dX9_count_122 : decode cX9_count 122 = .ok (.i2l, 1) := by decide +kernel
theorem dX9_count_123 : decode cX9_count 123 = .ok (.lreturn, 1) := by decide +kernel
theorem dX9_count_124 : decode cX9_count 124 = .ok (.aload_n 0, 1) := by decide +kernel
theorem dX9_count_125 : decode cX9_count 125 = .ok (.getfield 128, 3) := by decide +kernel
theorem dX9_count_128 : decode cX9_count 128 = .ok (.i2l, 1) := by decide +kernel
theorem dX9_count_129 : decode cX9_count 129 = .ok (.lreturn, 1) := by decide +kernel
theorem dX9_count_130 : decode cX9_count 130 = .ok (.aload_n 0, 1) := by decide +kernel
theorem dX9_count_131 : decode cX9_count 131 = .ok (.getfield 136, 3) := by decide +kernel
theorem dX9_count_134 : decode cX9_count 134 = .ok (.bipush 20, 2) := by decide +kernel
theorem dX9_count_136 : decode cX9_count 136 = .ok (.if_icmp .gt 7, 3) := by decide +kernel
theorem dX9_count_139 : decode cX9_count 139 = .ok (.lconst 1, 1) := by decide +kernel
theorem dX9_count_140 : decode cX9_count 140 = .ok (.goto 4, 3) := by decide +kernel
theorem dX9_count_143 : decode cX9_count 143 = .ok (.lconst 0, 1) := by decide +kernel
theorem dX9_count_144 : decode cX9_count 144 = .ok (.lreturn, 1) := by decide +kernel
theorem dX9_count_145 : decode cX9_count 145 = .ok (.aload_n 0, 1) := by decide +kernel
theorem dX9_count_146 : decode cX9_count 146 = .ok (.getfield 57, 3) := by decide +kernel
theorem dX9_count_149 : decode cX9_count 149 = .ok (.i2l, 1) := by decide +kernel
theorem dX9_count_150 : decode cX9_count 150 = .ok (.lreturn, 1) := by decide +kernel
theorem dX9_count_151 : decode cX9_count 151 = .ok (.aload_n 0, 1) := by decide +kernel
theorem dX9_count_152 : decode cX9_count 152 = .ok (.getfield 231, 3) := by decide +kernel
theorem dX9_count_155 : decode cX9_count 155 = .ok (.lreturn, 1) := by decide +kernel
theorem dX9_count_156 : decode cX9_count 156 = .ok (.aload_n 0, 1) := by decide +kernel
theorem dX9_count_157 : decode cX9_count 157 = .ok (.getfield 104, 3) := by decide +kernel
theorem dX9_count_160 : decode cX9_count 160 = .ok (.i2l, 1) := by decide +kernel
theorem dX9_count_161 : decode cX9_count 161 = .ok (.lreturn, 1) := by decide +kernel
theorem dX9_count_162 : decode cX9_count 162 = .ok (.aload_n 0, 1) := by decide +kernel
theorem dX9_count_163 : decode cX9_count 163 = .ok (.getfield 152, 3) := by decide +kernel
theorem dX9_count_166 : decode cX9_count 166 = .ok (.lreturn, 1) := by decide +kernel
theorem dX9_count_167 : decode cX9_count 167 = .ok (.ldc2_w 234, 3) := by decide +kernel
theorem dX9_count_170 : decode cX9_count 170 = .ok (.lreturn, 1) := by decide +kernel
end
section
/-! My own layer over the kit: one list of words for all methods, a state as numbers and rows, contracts by functions that answer an Option. -/
def zw_all : List Cond := lw_tbl.filter goodWord
theorem zw_good : ∀ w ∈ zw_all, goodWord w = true := fun _ h => (List.mem_filter.mp h).2
theorem zw_tbl : ∀ w ∈ zw_all, w ∈ lw_tbl := fun _ h => (List.mem_filter.mp h).1
theorem zw_in {c0 : Cond} {w : Cond} (h : w ∈ zw_all) : w ∈ c0 :: zw_all := List.mem_cons_of_mem _ h
theorem zw_goodIn {big : List Cond} (hb : ∀ w ∈ zw_all, w ∈ big) {c1 : Cond} (h : c1 ∈ zw_all) : GoodIn big (c1 :: zw_all) := by
  intro w hw
  rcases List.mem_cons.mp hw with e | e
  · rw [e]; exact ⟨hb _ h, good_of_word (zw_good _ h)⟩
  · exact ⟨hb _ e, good_of_word (zw_good _ e)⟩
/-- the words of nest mates, which no list of good words holds -/
def zn_all : List (String × Nat × MethodName × String) := [("FlockPass", 9, ⟨"FlockPass$Tape", "<init>", "()V"⟩, "FlockPass"), ("FlockPass", 32, ⟨"FlockPass$Planner", "<init>", "()V"⟩, "FlockPass"), ("FlockPass", 39, ⟨"FlockPass$Register", "<init>", "()V"⟩, "FlockPass"), ("FlockPass", 46, ⟨"FlockPass$Trace", "<init>", "()V"⟩, "FlockPass"), ("FlockPass", 53, ⟨"FlockPass$Dairy", "<init>", "()V"⟩, "FlockPass"), ("FlockPass$RuleBook", 52, ⟨"FlockPass", "within", "(III)Z"⟩, "FlockPass"), ("FlockPass$Pasture", 48, ⟨"FlockPass", "within", "(III)Z"⟩, "FlockPass"), ("FlockPass$Register", 41, ⟨"FlockPass", "within", "(III)Z"⟩, "FlockPass")]
-- the state
abbrev zs_T : Type := (Nat → Int32) × (Nat → Int64) × (Nat → Nat → Int32) × (Nat → Nat → Int64)
def zs_i (u : zs_T) (k : Nat) : Int32 := u.1 k
def zs_l (u : zs_T) (k : Nat) : Int64 := u.2.1 k
def zs_a (u : zs_T) (k : Nat) : Nat → Int32 := u.2.2.1 k
def zs_b (u : zs_T) (k : Nat) : Nat → Int64 := u.2.2.2 k
def zs_si (u : zs_T) (k : Nat) (v : Int32) : zs_T := (upd u.1 k v, u.2)
def zs_sl (u : zs_T) (k : Nat) (v : Int64) : zs_T := (u.1, vp_updL u.2.1 k v, u.2.2)
def zs_sa (u : zs_T) (k : Nat) (f : Nat → Int32) : zs_T := (u.1, u.2.1, va_up u.2.2.1 k f, u.2.2.2)
def zs_sb (u : zs_T) (k : Nat) (f : Nat → Int64) : zs_T := (u.1, u.2.1, u.2.2.1, va_up u.2.2.2 k f)
def zs_0 : zs_T := (fun _ => 0, fun _ => 0, fun _ _ => 0, fun _ _ => 0)
-- functions that may fail
def zf_bi {ρ : Type} (x : Option (Int32 × zs_T)) (f : Int32 → zs_T → Option ρ) : Option ρ := match x with
  | none => none
  | some (r, u) => f r u
def zf_bl {ρ : Type} (x : Option (Int64 × zs_T)) (f : Int64 → zs_T → Option ρ) : Option ρ := match x with
  | none => none
  | some (r, u) => f r u
def zf_bv {ρ : Type} (x : Option zs_T) (f : zs_T → Option ρ) : Option ρ := match x with
  | none => none
  | some u => f u
theorem zf_bi_ex {ρ : Type} {x : Option (Int32 × zs_T)} {f : Int32 → zs_T → Option ρ} {z : ρ} (h : zf_bi x f = some z) : ∃ r u, x = some (r, u) ∧ f r u = some z := by
  match x, h with
  | some (r, u), h => exact ⟨r, u, rfl, h⟩
theorem zf_bl_ex {ρ : Type} {x : Option (Int64 × zs_T)} {f : Int64 → zs_T → Option ρ} {z : ρ} (h : zf_bl x f = some z) : ∃ r u, x = some (r, u) ∧ f r u = some z := by
  match x, h with
  | some (r, u), h => exact ⟨r, u, rfl, h⟩
theorem zf_bv_ex {ρ : Type} {x : Option zs_T} {f : zs_T → Option ρ} {z : ρ} (h : zf_bv x f = some z) : ∃ u, x = some u ∧ f u = some z := by
  match x, h with
  | some u, h => exact ⟨u, rfl, h⟩
theorem zf_gd {ρ : Type} {c : Prop} [Decidable c] {x : Option ρ} {z : ρ} (h : (if c then x else none) = some z) : c ∧ x = some z := by
  by_cases hc : c
  · rw [if_pos hc] at h; exact ⟨hc, h⟩
  · rw [if_neg hc] at h; cases h
theorem zf_t {ρ : Type} {c : Prop} [Decidable c] {x y z : ρ} (hc : c) (h : (if c then x else y) = z) : x = z := by rw [if_pos hc] at h; exact h
theorem zf_f {ρ : Type} {c : Prop} [Decidable c] {x y z : ρ} (hc : ¬ c) (h : (if c then x else y) = z) : y = z := by rw [if_neg hc] at h; exact h
def zf_bp {α ρ : Type} (x : Option α) (f : α → Option ρ) : Option ρ := match x with
  | none => none
  | some r => f r
theorem zf_bp_ex {α ρ : Type} {x : Option α} {f : α → Option ρ} {z : ρ} (h : zf_bp x f = some z) : ∃ r, x = some r ∧ f r = some z := by
  match x, h with
  | some r, h => exact ⟨r, rfl, h⟩
theorem zf_pr {α : Type} {a z : α} {u : zs_T} (h : some a = some z) : some (a, u) = some (z, u) := by cases h; rfl
/-- an index is in a row of n -/
def zf_in (i : Int32) (n : Nat) : Bool := decide (0 ≤ i.toInt ∧ i.toInt < n)
theorem zf_vin {i : Int32} {n : Nat} (h : zf_in i n = true) : vp_in i n := vp_in_iff.mpr (of_decide_eq_true h)
/-- a truth value -/
def zf_z (x : Int32) : Bool := x == 0 || x == 1
theorem zf_z_nar {x : Int32} (h : zf_z x = true) : narrow .boolean (.int x) = .int x := by
  simp only [zf_z, Bool.or_eq_true, beq_iff_eq] at h
  rcases h with rfl | rfl <;> rfl
theorem zf_z_fit {x : Int32} (h : zf_z x = true) : fits .boolean (.int x) = true := by
  simp only [zf_z, Bool.or_eq_true, beq_iff_eq] at h
  rcases h with rfl | rfl <;> rfl
theorem zf_z_vp {x : Int32} (h : zf_z x = true) : vp_nar .boolean x = x := by
  simp only [zf_z, Bool.or_eq_true, beq_iff_eq] at h
  rcases h with rfl | rfl <;> rfl
/-- a loop: its body is given what comes behind one turn -/
def zf_loop {σ ρ : Type} (body : (σ → Option ρ) → σ → Option ρ) : Nat → σ → Option ρ
  | 0, _ => none
  | n + 1, s => body (zf_loop body n) s
theorem zf_loop_W {σ ρ : Type} {body : (σ → Option ρ) → σ → Option ρ} {z : ρ} (Wp : σ → Prop) (hs : ∀ (again : σ → Option ρ) (s : σ), (∀ s', again s' = some z → Wp s') → body again s = some z → Wp s) : ∀ (n : Nat) (s : σ), zf_loop body n s = some z → Wp s
  | 0, _, h => by cases h
  | n + 1, s, h => hs (zf_loop body n) s (fun s' h' => zf_loop_W Wp hs n s' h') h
theorem zf_ne {x y : Int32} (h : ¬ x = y) : x.toInt ≠ y.toInt := fun e => h (Int32.toInt_inj.mp e)
-- worlds
def zg_ty (cs : Nat → ClassId) : List (ClassId × FieldType) := [(cs 0, .int), (cs 1, .long), (cs 2, .boolean), (cs 3, .byte)]
def zg_N (U : State) : Prop := ∀ q ∈ zn_all, va_Nw (.methodLinkNest q.1 q.2.1 q.2.2.1 q.2.2.2) U
def zg_W (D : va_G) (cs : Nat → ClassId) (A : Nat → Prop) (s : State) (ws : va_W) (H : Heap) (locs : List Loc) : Prop := va_P D vwCl ws H ∧ va_D A ws ∧ va_S A s.heap H locs ∧ va_K D vwCl (zg_ty cs) s ∧ zg_N s ∧ ∀ a, s.heap.size ≤ a → A a
def zg_A (Wf : zs_T → va_W) (sz : Nat) : Nat → Prop := va_A (Wf zs_0) sz
def zg_Pre (D : va_G) (cs : Nat → ClassId) (Wf : zs_T → va_W) (sz : Nat) (u : zs_T) (U : State) : Prop := U.heap.size = sz ∧ va_P D vwCl (Wf u) U.heap ∧ va_K D vwCl (zg_ty cs) U ∧ va_D (fun _ => True) (Wf u) ∧ zg_N U
def zg_Post (D : va_G) (Wf : zs_T → va_W) (A : Nat → Prop) (u : zs_T) (t : State) : Prop := va_P D vwCl (Wf u) t.heap ∧ va_D A (Wf u)
def zg_rm (n : Nat) : Room := { frames := n, cells := 0, slots := 0, locals := 40 * n }
def zg_Ad (Wf : zs_T → va_W) : Prop := ∀ u v, (Wf u).map Prod.fst = (Wf v).map Prod.fst
def zg_Ci (l : Launch) (y : MethodName) (b : ByteArray) (mL : Nat) (ret : Option FieldType) (n : Nat) (D : va_G) (cs : Nat → ClassId) (Wf : zs_T → va_W) (u : zs_T) (av : List Value) (r : Int32) (u' : zs_T) : Prop :=
  ∀ sz, Met l y (.code y b mL ret :: zw_all) (zg_rm n) (va_Pc av (zg_Pre D cs Wf sz u)) (va_Qi (fun r' v => r' = r ∧ v = u') (zg_Post D Wf (zg_A Wf sz)) (zg_A Wf sz)) 0 0 (zg_A Wf sz)
def zg_Cl (l : Launch) (y : MethodName) (b : ByteArray) (mL : Nat) (ret : Option FieldType) (n : Nat) (D : va_G) (cs : Nat → ClassId) (Wf : zs_T → va_W) (u : zs_T) (av : List Value) (r : Int64) (u' : zs_T) : Prop :=
  ∀ sz, Met l y (.code y b mL ret :: zw_all) (zg_rm n) (va_Pc av (zg_Pre D cs Wf sz u)) (va_Ql (fun r' v => r' = r ∧ v = u') (zg_Post D Wf (zg_A Wf sz)) (zg_A Wf sz)) 0 0 (zg_A Wf sz)
def zg_Cv (l : Launch) (y : MethodName) (b : ByteArray) (mL : Nat) (ret : Option FieldType) (n : Nat) (D : va_G) (cs : Nat → ClassId) (Wf : zs_T → va_W) (u : zs_T) (av : List Value) (u' : zs_T) : Prop :=
  ∀ sz, Met l y (.code y b mL ret :: zw_all) (zg_rm n) (va_Pc av (zg_Pre D cs Wf sz u)) (va_Qv (fun v => v = u') (zg_Post D Wf (zg_A Wf sz)) (zg_A Wf sz)) 0 0 (zg_A Wf sz)
theorem zg_AD {Wf : zs_T → va_W} (ha : zg_Ad Wf) {u : zs_T} {sz : Nat} {B : Nat → Prop} (h : va_D B (Wf u)) : va_D (zg_A Wf sz) (Wf u) := by
  refine ⟨h.1, fun k q hk => ?_⟩
  have h1 : ((Wf u).map Prod.fst)[k]? = some q.1 := by rw [List.getElem?_map, hk]; rfl
  rw [ha u zs_0, List.getElem?_map] at h1
  cases h2 : (Wf zs_0)[k]? with
  | none => rw [h2] at h1; cases h1
  | some p =>
    rw [h2] at h1
    have h3 : p.1 = q.1 := Option.some.inj h1
    exact Or.inl ⟨k, p.2, by rw [h2, ← h3]⟩
theorem zg_A_of {Wf : zs_T → va_W} (ha : zg_Ad Wf) {u : zs_T} {sz : Nat} {A : Nat → Prop} (h : va_D A (Wf u)) (hA : ∀ a, sz ≤ a → A a) {a : Nat} (hq : zg_A Wf sz a) : A a := by
  rcases hq with ⟨k, e, h1⟩ | h1
  · have h2 : ((Wf zs_0).map Prod.fst)[k]? = some a := by rw [List.getElem?_map, h1]; rfl
    rw [ha zs_0 u, List.getElem?_map] at h2
    cases h3 : (Wf u)[k]? with
    | none => rw [h3] at h2; cases h2
    | some p =>
      rw [h3] at h2
      have h4 : p.1 = a := Option.some.inj h2
      rw [← h4]; exact h.2 k p h3
  · exact hA a h1
end
section
section ZE
variable {l : Launch} {y : MethodName} {b : ByteArray} {mL n : Nat} {D : va_G} {cs : Nat → ClassId} {Wf : zs_T → va_W} {u u' : zs_T} {av : List Value} {own : String}
theorem zg_start {ret : Option FieldType} {Qc : Nat → Array Value → State → Outcome → State → Prop} {fr : Nat → Addr → Prop} (hy : plainName y.cls = true) (ho : y.cls = own) (ha : zg_Ad Wf)
    (body : ∀ (p : Program) (e : Env) (s : State) (m : MethodId) (below : List Frame) (meth : Method) (c : Code), CallFix p m c b mL s av.toArray (.code y b mL ret :: zw_all) own → meth.sig.returnType = ret → meth.locks = false → zg_W D cs (zg_A Wf s.heap.size) s (Wf u) s.heap [] → W p l e (zg_rm n) s m av.toArray below meth c s.heap [] 0 0 (MQ below (Qc s.heap.size) av.toArray s 0 0 (fr s.heap.size)) (entryFrame m av.toArray mL)) :
    ∀ sz, Met l y (.code y b mL ret :: zw_all) (zg_rm n) (va_Pc av (zg_Pre D cs Wf sz u)) (Qc sz) 0 0 (fr sz) := by
  intro sz
  refine Met.ofW (cc := b) (maxL := mL) (ret := ret) hy rfl ?_
  intro p e s m args below meth c s₁ B hml hv
  obtain ⟨rfl, hsz, hP, hK, hD, hN⟩ := hv
  subst hsz
  refine body p e s m below meth c ⟨B.exec, B.bytes, hml, ?_, atoms_spec (ws := .code y b mL ret :: zw_all) B.pre⟩ B.returns B.notSynchronized ⟨hP, zg_AD ha hD, va_S.rf, hK, hN, fun a h => Or.inr h⟩
  rw [← ho]
  exact findClass_of_methodNamed B.named
theorem zg_Ci_of {r : Int32} (hy : plainName y.cls = true) (ho : y.cls = own) (ha : zg_Ad Wf) (hlv : (lg_sl av).length ≤ mL)
    (body : ∀ (p : Program) (e : Env) (s : State) (m : MethodId) (args : Array Value) (below : List Frame) (meth : Method) (c : Code) (A : Nat → Prop) (Q : State → Prop), CallFix p m c b mL s args (.code y b mL (some .int) :: zw_all) own →
      (∀ (H : Heap) (locs : List Loc) (pc : Nat) (ls : Array Slot) (a : Int32) (v : zs_T), some (a, v) = some (r, u') → zg_W D cs A s (Wf v) H locs → decode b pc = .ok (.ireturn, 1) → W p l e (zg_rm n) s m args below meth c H locs 0 0 Q (F0 m pc ls [.int a])) →
      zg_W D cs A s (Wf u) s.heap [] → ∀ ls, lv_has ls mL (lv_args 0 av) → W p l e (zg_rm n) s m args below meth c s.heap [] 0 0 Q (F0 m 0 ls [])) : zg_Ci l y b mL (some .int) n D cs Wf u av r u' := by
  refine zg_start hy ho ha fun p e s m below meth c C hr hlocks w => ?_
  rw [lg_entry_eq]
  refine body p e s m _ below meth c _ _ C ?_ w _ (lv_entry av hlv)
  intro H locs pc ls a v hf w hd
  cases hf
  exact W.iret C.1 C.2.1 hr (fun t ht _ => ⟨⟨_, _, rfl, ⟨rfl, rfl⟩, by rw [ht]; exact w.1, w.2.1⟩, w.2.2.1.F ht⟩) w.2.2.1.2.2 hd hlocks
theorem zg_Cz_of {r : Int32} (hy : plainName y.cls = true) (ho : y.cls = own) (ha : zg_Ad Wf) (hlv : (lg_sl av).length ≤ mL)
    (body : ∀ (p : Program) (e : Env) (s : State) (m : MethodId) (args : Array Value) (below : List Frame) (meth : Method) (c : Code) (A : Nat → Prop) (Q : State → Prop), CallFix p m c b mL s args (.code y b mL (some .boolean) :: zw_all) own →
      (∀ (H : Heap) (locs : List Loc) (pc : Nat) (ls : Array Slot) (a : Int32) (v : zs_T), zf_z a = true → some (a, v) = some (r, u') → zg_W D cs A s (Wf v) H locs → decode b pc = .ok (.ireturn, 1) → W p l e (zg_rm n) s m args below meth c H locs 0 0 Q (F0 m pc ls [.int a])) →
      zg_W D cs A s (Wf u) s.heap [] → ∀ ls, lv_has ls mL (lv_args 0 av) → W p l e (zg_rm n) s m args below meth c s.heap [] 0 0 Q (F0 m 0 ls [])) : zg_Ci l y b mL (some .boolean) n D cs Wf u av r u' := by
  refine zg_start hy ho ha fun p e s m below meth c C hr hlocks w => ?_
  rw [lg_entry_eq]
  refine body p e s m _ below meth c _ _ C ?_ w _ (lv_entry av hlv)
  intro H locs pc ls a v hz hf w hd
  cases hf
  exact W.zret C.1 C.2.1 hr (zf_z_nar hz) (fun t ht _ => ⟨⟨_, _, rfl, ⟨rfl, rfl⟩, by rw [ht]; exact w.1, w.2.1⟩, w.2.2.1.F ht⟩) w.2.2.1.2.2 hd hlocks
theorem zg_Cl_of {r : Int64} (hy : plainName y.cls = true) (ho : y.cls = own) (ha : zg_Ad Wf) (hlv : (lg_sl av).length ≤ mL)
    (body : ∀ (p : Program) (e : Env) (s : State) (m : MethodId) (args : Array Value) (below : List Frame) (meth : Method) (c : Code) (A : Nat → Prop) (Q : State → Prop), CallFix p m c b mL s args (.code y b mL (some .long) :: zw_all) own →
      (∀ (H : Heap) (locs : List Loc) (pc : Nat) (ls : Array Slot) (a : Int64) (v : zs_T), some (a, v) = some (r, u') → zg_W D cs A s (Wf v) H locs → decode b pc = .ok (.lreturn, 1) → W p l e (zg_rm n) s m args below meth c H locs 0 0 Q (F0 m pc ls [.long a])) →
      zg_W D cs A s (Wf u) s.heap [] → ∀ ls, lv_has ls mL (lv_args 0 av) → W p l e (zg_rm n) s m args below meth c s.heap [] 0 0 Q (F0 m 0 ls [])) : zg_Cl l y b mL (some .long) n D cs Wf u av r u' := by
  refine zg_start hy ho ha fun p e s m below meth c C hr hlocks w => ?_
  rw [lg_entry_eq]
  refine body p e s m _ below meth c _ _ C ?_ w _ (lv_entry av hlv)
  intro H locs pc ls a v hf w hd
  cases hf
  exact W.lret C.1 C.2.1 hr (fun t ht _ => ⟨⟨_, _, rfl, ⟨rfl, rfl⟩, by rw [ht]; exact w.1, w.2.1⟩, w.2.2.1.F ht⟩) w.2.2.1.2.2 hd hlocks
theorem zg_Cv_of (hy : plainName y.cls = true) (ho : y.cls = own) (ha : zg_Ad Wf) (hlv : (lg_sl av).length ≤ mL)
    (body : ∀ (p : Program) (e : Env) (s : State) (m : MethodId) (args : Array Value) (below : List Frame) (meth : Method) (c : Code) (A : Nat → Prop) (Q : State → Prop), CallFix p m c b mL s args (.code y b mL none :: zw_all) own →
      (∀ (H : Heap) (locs : List Loc) (pc : Nat) (ls : Array Slot) (v : zs_T), some v = some u' → zg_W D cs A s (Wf v) H locs → decode b pc = .ok (.return_, 1) → W p l e (zg_rm n) s m args below meth c H locs 0 0 Q (F0 m pc ls [])) →
      zg_W D cs A s (Wf u) s.heap [] → ∀ ls, lv_has ls mL (lv_args 0 av) → W p l e (zg_rm n) s m args below meth c s.heap [] 0 0 Q (F0 m 0 ls [])) : zg_Cv l y b mL none n D cs Wf u av u' := by
  refine zg_start hy ho ha fun p e s m below meth c C hr hlocks w => ?_
  rw [lg_entry_eq]
  refine body p e s m _ below meth c _ _ C ?_ w _ (lv_entry av hlv)
  intro H locs pc ls v hf w hd
  cases hf
  exact W.vret C.1 C.2.1 hr (fun t ht _ => ⟨⟨_, rfl, rfl, by rw [ht]; exact w.1, w.2.1⟩, w.2.2.1.F ht⟩) w.2.2.1.2.2 hd hlocks
end ZE
/-- what a call asks of its callee's name -/
def zc_f (y : MethodName) (b : ByteArray) (mL : Nat) (ret : Option FieldType) (na : Nat) : Prop := Cond.code y b mL ret ∈ zw_all ∧ Cond.initialized y.cls ∈ zw_all ∧ y.cls ≠ "java/lang/invoke/MethodHandle" ∧ y.cls ≠ "java/lang/invoke/VarHandle" ∧ (parseMethodDescriptor y.desc).map (fun d => d.parameters.length) = some na
section ZC
variable {p : Program} {l : Launch} {e : Env} {R : Room} {s : State} {m : MethodId} {args : Array Value} {below : List Frame} {meth : Method} {c : Code} {H : Heap} {locs : List Loc} {cells slots : Nat} {Q : State → Prop}
variable {cc : ByteArray} {nL pc index : Nat} {ls : Array Slot} {rest stk : List Value} {c0 : Cond} {own : String}
variable {y : MethodName} {b : ByteArray} {mL k : Nat} {D : va_G} {cs : Nat → ClassId} {A : Nat → Prop} {Wf : zs_T → va_W} {u u' : zs_T} {As : List Value} {ret : Option FieldType}
theorem zc_B (C : CallFix p m c cc nL s args (c0 :: zw_all) own) {na : Nat} (hf : zc_f y b mL ret na) (hl : Cond.methodLink own index y ∈ zw_all) (hR : k + 1 ≤ R.frames ∧ 8 + (mL + 11) + 40 * k ≤ R.locals) : CallB R s args own index y b mL ret (.code y b mL ret :: zw_all) (zg_rm k) 0 0 na := by
  obtain ⟨h1, h2, h3, h4, h5⟩ := hf
  exact callB_of na C.2.2.2.2 (zw_goodIn (fun _ h => zw_in h) h1) rfl rfl rfl (C.2.2.2.2 _ (zw_in h2)) (C.2.2.2.2 _ (zw_in hl)) ⟨h3, h4, h5⟩ hR
theorem zc_pre (w : zg_W D cs A s (Wf u) H locs) (av : List Value) : FrameBlind (va_Pc av (zg_Pre D cs Wf H.size u)) ∧ ∀ U : State, U.heap = H → s.WarmedH U.vm → va_Pc av (zg_Pre D cs Wf H.size u) av.toArray U := by
  obtain ⟨hP, hD, hS, hK, hN, hA⟩ := w
  refine ⟨fun a U g mk q => ?_, fun U hU hW => ⟨rfl, by rw [hU], by rw [hU]; exact hP, va_K.moved hW.alike hK, hD.weaken (fun _ _ _ _ => trivial), fun q hq => va_Nw.warmM hW (hN q hq)⟩⟩
  obtain ⟨q0, q1, qP, qK, qD, qN⟩ := q
  exact ⟨q0, q1, qP, va_K.moved (u := U) (U := U.calling g mk a) (Vm.Alike.refl U.vm) qK, qD, fun x hx => va_Nw.same rfl rfl (qN x hx)⟩
theorem zc_back (ha : zg_Ad Wf) (w : zg_W D cs A s (Wf u) H locs) {t : State} {H1 : Heap} {locs1 : List Loc} (ht : t.heap = H1) (hB : zg_Post D Wf (zg_A Wf H.size) u' t) (hS : va_S A s.heap H1 locs1) : zg_W D cs A s (Wf u') H1 locs1 := by
  obtain ⟨hP, hD, hS0, hK, hN, hA⟩ := w
  obtain ⟨hP1, hD1⟩ := hB
  rw [ht] at hP1
  exact ⟨hP1, hD1.weaken (fun _ _ _ h => zg_A_of ha hD (fun a h1 => hA a (Nat.le_trans hS0.1 h1)) h), hS, hK, hN, hA⟩
theorem zc_fr (ha : zg_Ad Wf) (w : zg_W D cs A s (Wf u) H locs) : ∀ q, zg_A Wf H.size q → A q := fun _ h => zg_A_of ha w.2.1 (fun a h1 => w.2.2.2.2.2 a (Nat.le_trans w.2.2.1.1 h1)) h
/-- the receiver's cell -/
def zc_rc (Wf : zs_T → va_W) (u : zs_T) (a : Nat) (C : String) : Prop := ∃ (q0 ci : Nat) (fs : List Value) (q : vw_C), (Wf u)[q0]? = some (a, .inr (ci, fs)) ∧ vwCl[ci]? = some q ∧ q.1 = C
theorem zc_V (C : CallFix p m c cc nL s args (c0 :: zw_all) own) (w : zg_W D cs A s (Wf u) H locs) {a : Nat} {Qc : Array Value → State → Outcome → State → Prop} {fr : Addr → Prop} (hM : Met l y (.code y b mL ret :: zw_all) (zg_rm k) (va_Pc (.ref a :: As) (zg_Pre D cs Wf H.size u)) Qc 0 0 fr) (hf : zc_f y b mL ret As.length) (hi : Cond.instanceMethod y ∈ zw_all ∧ Cond.selects y.cls y y ∈ zw_all) (hl : Cond.methodLink own index y ∈ zw_all) (hrc : zc_rc Wf u a y.cls) (hR : k + 1 ≤ R.frames ∧ 8 + (mL + 11) + 40 * k ≤ R.locals) (hsz : ls.size = nL) (hst : stk = As.reverse ++ .ref a :: rest) (hro : (rest.map fun v => v.category).sum ≤ 8) (hdg : decode cc pc = .ok (.invokevirtual index, 3)) (hcs : cells ≤ R.cells ∧ slots ≤ R.slots) :
    va_Run p l e R s m args below meth c H locs cells slots 0 0 (F0 m pc ls stk) rest (Qc (Value.ref a :: As).toArray) fr := by
  obtain ⟨q0, ci, fs, q, h1, h2, h3⟩ := hrc
  have hp := zc_pre w (.ref a :: As)
  have hrec := va_recv w.2.2.2.1 w.1 h2 h1
  rw [h3] at hrec
  exact va_runV C hM ⟨zc_B C hf hl hR, C.2.2.2.2 _ (zw_in hi.1), C.2.2.2.2 _ (zw_in hi.2)⟩ ⟨hp.1, hrec, hp.2⟩ rfl rfl hsz hst (lv_room hro) hdg hcs
theorem zc_S (C : CallFix p m c cc nL s args (c0 :: zw_all) own) (w : zg_W D cs A s (Wf u) H locs) {Qc : Array Value → State → Outcome → State → Prop} {fr : Addr → Prop} (hM : Met l y (.code y b mL ret :: zw_all) (zg_rm k) (va_Pc As (zg_Pre D cs Wf H.size u)) Qc 0 0 fr) (hf : zc_f y b mL ret As.length) (hi : Cond.static y ∈ zw_all) (hl : Cond.methodLink own index y ∈ zw_all) (hR : k + 1 ≤ R.frames ∧ 8 + (mL + 11) + 40 * k ≤ R.locals) (hsz : ls.size = nL) (hst : stk = As.reverse ++ rest) (hro : (rest.map fun v => v.category).sum ≤ 8) (hdg : decode cc pc = .ok (.invokestatic index, 3)) (hcs : cells ≤ R.cells ∧ slots ≤ R.slots) :
    va_Run p l e R s m args below meth c H locs cells slots 0 0 (F0 m pc ls stk) rest (Qc As.toArray) fr :=
  va_runS C hM ⟨zc_B C hf hl hR, C.2.2.2.2 _ (zw_in hi)⟩ (zc_pre w As) rfl rfl hsz hst (lv_room hro) hdg hcs
theorem zc_SN (C : CallFix p m c cc nL s args (c0 :: zw_all) own) (w : zg_W D cs A s (Wf u) H locs) {Qc : Array Value → State → Outcome → State → Prop} {fr : Addr → Prop} {host : String} (hM : Met l y (.code y b mL ret :: zw_all) (zg_rm k) (va_Pc As (zg_Pre D cs Wf H.size u)) Qc 0 0 fr) (hf : zc_f y b mL ret As.length) (hi : Cond.static y ∈ zw_all) (hl : (own, index, y, host) ∈ zn_all) (hR : k + 1 ≤ R.frames ∧ 8 + (mL + 11) + 40 * k ≤ R.locals) (hsz : ls.size = nL) (hst : stk = As.reverse ++ rest) (hro : (rest.map fun v => v.category).sum ≤ 8) (hdg : decode cc pc = .ok (.invokestatic index, 3)) (hcs : cells ≤ R.cells ∧ slots ≤ R.slots) :
    va_Run p l e R s m args below meth c H locs cells slots 0 0 (F0 m pc ls stk) rest (Qc As.toArray) fr := by
  obtain ⟨h1, h2, h3, h4, h5⟩ := hf
  exact va_runSN C hM ⟨va_cnB As.length C.2.2.2.2 (zw_goodIn (fun _ h => zw_in h) h1) rfl rfl rfl (w.2.2.2.2.1 _ hl) (C.2.2.2.2 _ (zw_in h2)) ⟨h3, h4, h5⟩ hR, C.2.2.2.2 _ (zw_in hi), trivial⟩ (zc_pre w As) rfl rfl hsz hst (lv_room hro) hdg hcs
theorem zc_ri (ha : zg_Ad Wf) (w : zg_W D cs A s (Wf u) H locs) {r : Int32} {av : Array Value} (hr : va_Run p l e R s m args below meth c H locs cells slots 0 0 (F0 m pc ls stk) rest (va_Qi (fun r' v => r' = r ∧ v = u') (zg_Post D Wf (zg_A Wf H.size)) (zg_A Wf H.size) av) (zg_A Wf H.size))
    (kk : ∀ (H1 : Heap) (locs1 : List Loc), zg_W D cs A s (Wf u') H1 locs1 → W p l e R s m args below meth c H1 locs1 cells slots Q (F0 m (pc + 3) ls (.int r :: rest))) : W p l e R s m args below meth c H locs cells slots Q (F0 m pc ls stk) := by
  refine va_calli hr w.2.2.1 (fun q _ h => zc_fr ha w q h) (zc_fr ha w) fun r' v t H1 locs1 ht _ hw hB _ _ hS => ?_
  obtain ⟨rfl, rfl⟩ := hw
  exact kk H1 locs1 (zc_back ha w ht hB hS)
theorem zc_rl (ha : zg_Ad Wf) (w : zg_W D cs A s (Wf u) H locs) {r : Int64} {av : Array Value} (hr : va_Run p l e R s m args below meth c H locs cells slots 0 0 (F0 m pc ls stk) rest (va_Ql (fun r' v => r' = r ∧ v = u') (zg_Post D Wf (zg_A Wf H.size)) (zg_A Wf H.size) av) (zg_A Wf H.size))
    (kk : ∀ (H1 : Heap) (locs1 : List Loc), zg_W D cs A s (Wf u') H1 locs1 → W p l e R s m args below meth c H1 locs1 cells slots Q (F0 m (pc + 3) ls (.long r :: rest))) : W p l e R s m args below meth c H locs cells slots Q (F0 m pc ls stk) := by
  refine va_calll hr w.2.2.1 (fun q _ h => zc_fr ha w q h) (zc_fr ha w) fun r' v t H1 locs1 ht _ hw hB _ _ hS => ?_
  obtain ⟨rfl, rfl⟩ := hw
  exact kk H1 locs1 (zc_back ha w ht hB hS)
theorem zc_rv (ha : zg_Ad Wf) (w : zg_W D cs A s (Wf u) H locs) {av : Array Value} (hr : va_Run p l e R s m args below meth c H locs cells slots 0 0 (F0 m pc ls stk) rest (va_Qv (fun v => v = u') (zg_Post D Wf (zg_A Wf H.size)) (zg_A Wf H.size) av) (zg_A Wf H.size))
    (kk : ∀ (H1 : Heap) (locs1 : List Loc), zg_W D cs A s (Wf u') H1 locs1 → W p l e R s m args below meth c H1 locs1 cells slots Q (F0 m (pc + 3) ls rest)) : W p l e R s m args below meth c H locs cells slots Q (F0 m pc ls stk) := by
  refine va_callv hr w.2.2.1 (fun q _ h => zc_fr ha w q h) (zc_fr ha w) fun v t H1 locs1 ht _ hw hB _ _ hS => ?_
  subst hw
  exact kk H1 locs1 (zc_back ha w ht hB hS)
end ZC
end
section
section ZR
variable {p : Program} {l : Launch} {e : Env} {R : Room} {s : State} {m : MethodId} {args : Array Value} {below : List Frame} {meth : Method} {c : Code} {H : Heap} {locs : List Loc} {cells slots : Nat} {Q : State → Prop}
variable {cc : ByteArray} {nL pc index : Nat} {ls : Array Slot} {rest : List Value} {c0 : Cond} {own : String}
variable {D : va_G} {cs : Nat → ClassId} {A : Nat → Prop} {ws ws' : va_W} {a q0 ci N k : Nat} {fs : List Value} {Cn : String} {T : u_T}
theorem zr_get (C : CallFix p m c cc nL s args (c0 :: zw_all) own) (w : zg_W D cs A s ws H locs) (he : ws[q0]? = some (a, .inr (ci, fs))) (hc : vwCl[ci]? = some (Cn, T, N)) (hin : ∀ w ∈ u_ws Cn T N, w ∈ zw_all) (hk : k < N) (hl : Cond.fieldLink own index Cn (T k).2.1 (T k).2.2.1 ∈ zw_all) (hd : (T k).1 = Cn) {v : Value} (hv : fs[k]? = some v) (hdg : decode cc pc = .ok (.getfield index, 3))
    (kk : W p l e R s m args below meth c H locs cells slots Q (F0 m (pc + 3) ls (v :: rest))) : W p l e R s m args below meth c H locs cells slots Q (F0 m pc ls (.ref a :: rest)) :=
  va_get C.1 C.2.1 C.2.2.2.2 (fun w h => zw_in (hin w h)) C.2.2.2.1 w.2.2.2.1 w.1 q0 he hc k hk (C.2.2.2.2 _ (zw_in hl)) (fun x h => by rw [hd] at h; exact h) hv hdg kk
theorem zr_put (C : CallFix p m c cc nL s args (c0 :: zw_all) own) (w : zg_W D cs A s ws H locs) (he : ws[q0]? = some (a, .inr (ci, fs))) (hc : vwCl[ci]? = some (Cn, T, N)) (hin : ∀ w ∈ u_ws Cn T N, w ∈ zw_all) (ty0 : Nat → FieldType) (hty : ∀ k, k < N → parseFieldDescriptor (T k).2.2.1 = some (ty0 k)) (hnm : ∀ a, a < N → ∀ b, b < N → a ≠ b → (T a).2.1 ≠ (T b).2.1) (hk : k < N) (hl : Cond.fieldLink own index Cn (T k).2.1 (T k).2.2.1 ∈ zw_all) (hd : (T k).1 = Cn) (hfin : (T k).2.2.2 = false) {ty : FieldType} {v : Value} (hpd : parseFieldDescriptor (T k).2.2.1 = some ty) (hn : narrow ty v = v) (hfit : fits ty v = true) (hlen : k < fs.length) (hset : ws.set q0 (a, .inr (ci, fs.set k v)) = ws') (hdg : decode cc pc = .ok (.putfield index, 3))
    (kk : ∀ (H1 : Heap) (locs1 : List Loc), zg_W D cs A s ws' H1 locs1 → W p l e R s m args below meth c H1 locs1 cells slots Q (F0 m (pc + 3) ls rest)) : W p l e R s m args below meth c H locs cells slots Q (F0 m pc ls (v :: .ref a :: rest)) := by
  refine va_put C.1 C.2.1 C.2.2.2.2 (fun w h => zw_in (hin w h)) ty0 hty hnm C.2.2.2.1 w.2.2.2.1 w.1 w.2.1 w.2.2.1 q0 he hc k hk (C.2.2.2.2 _ (zw_in hl)) (fun x h => by rw [hd] at h; exact h) hfin hpd hn hfit hlen hdg fun H1 locs1 hP hD hS => ?_
  rw [hset] at hP hD
  exact kk H1 locs1 ⟨hP, hD, hS, w.2.2.2⟩
theorem zr_iald (C : CallFix p m c cc nL s args (c0 :: zw_all) own) (w : zg_W D cs A s ws H locs) {n : Nat} {f : Nat → Int32} (he : ws[q0]? = some (a, .inl (cs 0, n, .inl f))) {i : Int32} (hi : zf_in i n = true) (hdg : decode cc pc = .ok (.iaload, 1))
    (kk : W p l e R s m args below meth c H locs cells slots Q (F0 m (pc + 1) ls (.int (f i.toNatClampNeg) :: rest))) : W p l e R s m args below meth c H locs cells slots Q (F0 m pc ls (.int i :: .ref a :: rest)) := va_iald C.1 C.2.1 w.2.2.2.1 w.1 q0 0 he rfl (zf_vin hi) hdg kk
theorem zr_bald (C : CallFix p m c cc nL s args (c0 :: zw_all) own) (w : zg_W D cs A s ws H locs) {n : Nat} {f : Nat → Int32} (he : ws[q0]? = some (a, .inl (cs 3, n, .inl f))) {i : Int32} (hi : zf_in i n = true) (hdg : decode cc pc = .ok (.baload, 1))
    (kk : W p l e R s m args below meth c H locs cells slots Q (F0 m (pc + 1) ls (.int (f i.toNatClampNeg) :: rest))) : W p l e R s m args below meth c H locs cells slots Q (F0 m pc ls (.int i :: .ref a :: rest)) := va_bald C.1 C.2.1 w.2.2.2.1 w.1 q0 3 he rfl (zf_vin hi) hdg kk
theorem zr_zald (C : CallFix p m c cc nL s args (c0 :: zw_all) own) (w : zg_W D cs A s ws H locs) {n : Nat} {f : Nat → Int32} (he : ws[q0]? = some (a, .inl (cs 2, n, .inl f))) {i : Int32} (hi : zf_in i n = true) (hdg : decode cc pc = .ok (.baload, 1))
    (kk : W p l e R s m args below meth c H locs cells slots Q (F0 m (pc + 1) ls (.int (f i.toNatClampNeg) :: rest))) : W p l e R s m args below meth c H locs cells slots Q (F0 m pc ls (.int i :: .ref a :: rest)) := va_zald C.1 C.2.1 w.2.2.2.1 w.1 q0 2 he rfl (zf_vin hi) hdg kk
theorem zr_lald (C : CallFix p m c cc nL s args (c0 :: zw_all) own) (w : zg_W D cs A s ws H locs) {n : Nat} {f : Nat → Int64} (he : ws[q0]? = some (a, .inl (cs 1, n, .inr (.inl f)))) {i : Int32} (hi : zf_in i n = true) (hdg : decode cc pc = .ok (.laload, 1))
    (kk : W p l e R s m args below meth c H locs cells slots Q (F0 m (pc + 1) ls (.long (f i.toNatClampNeg) :: rest))) : W p l e R s m args below meth c H locs cells slots Q (F0 m pc ls (.int i :: .ref a :: rest)) := va_lald C.1 C.2.1 w.2.2.2.1 w.1 q0 1 he rfl (zf_vin hi) hdg kk
theorem zr_iast (C : CallFix p m c cc nL s args (c0 :: zw_all) own) (w : zg_W D cs A s ws H locs) {n : Nat} {f : Nat → Int32} (he : ws[q0]? = some (a, .inl (cs 0, n, .inl f))) {i x : Int32} (hi : zf_in i n = true) (hset : ws.set q0 (a, .inl (cs 0, n, .inl (upd f i.toNatClampNeg x))) = ws') (hdg : decode cc pc = .ok (.iastore, 1))
    (kk : ∀ (H1 : Heap) (locs1 : List Loc), zg_W D cs A s ws' H1 locs1 → W p l e R s m args below meth c H1 locs1 cells slots Q (F0 m (pc + 1) ls rest)) : W p l e R s m args below meth c H locs cells slots Q (F0 m pc ls (.int x :: .int i :: .ref a :: rest)) := by
  refine va_iast C.1 C.2.1 w.2.2.2.1 w.1 w.2.1 w.2.2.1 q0 0 he rfl (zf_vin hi) hdg fun H1 locs1 hP hD hS => ?_
  first | rw [hset] at hP hD | (simp only [vp_nar, vp_nar_int] at hP hD; rw [hset] at hP hD)
  exact kk H1 locs1 ⟨hP, hD, hS, w.2.2.2⟩
theorem zr_bast (C : CallFix p m c cc nL s args (c0 :: zw_all) own) (w : zg_W D cs A s ws H locs) {n : Nat} {f : Nat → Int32} (he : ws[q0]? = some (a, .inl (cs 3, n, .inl f))) {i x : Int32} (hi : zf_in i n = true) (hset : ws.set q0 (a, .inl (cs 3, n, .inl (upd f i.toNatClampNeg (vp_nar .byte x)))) = ws') (hdg : decode cc pc = .ok (.bastore, 1))
    (kk : ∀ (H1 : Heap) (locs1 : List Loc), zg_W D cs A s ws' H1 locs1 → W p l e R s m args below meth c H1 locs1 cells slots Q (F0 m (pc + 1) ls rest)) : W p l e R s m args below meth c H locs cells slots Q (F0 m pc ls (.int x :: .int i :: .ref a :: rest)) := by
  refine va_bast C.1 C.2.1 w.2.2.2.1 w.1 w.2.1 w.2.2.1 q0 3 he rfl (zf_vin hi) hdg fun H1 locs1 hP hD hS => ?_
  rw [hset] at hP hD
  exact kk H1 locs1 ⟨hP, hD, hS, w.2.2.2⟩
theorem zr_zast (C : CallFix p m c cc nL s args (c0 :: zw_all) own) (w : zg_W D cs A s ws H locs) {n : Nat} {f : Nat → Int32} (he : ws[q0]? = some (a, .inl (cs 2, n, .inl f))) {i x : Int32} (hi : zf_in i n = true) (hz : zf_z x = true) (hset : ws.set q0 (a, .inl (cs 2, n, .inl (upd f i.toNatClampNeg x))) = ws') (hdg : decode cc pc = .ok (.bastore, 1))
    (kk : ∀ (H1 : Heap) (locs1 : List Loc), zg_W D cs A s ws' H1 locs1 → W p l e R s m args below meth c H1 locs1 cells slots Q (F0 m (pc + 1) ls rest)) : W p l e R s m args below meth c H locs cells slots Q (F0 m pc ls (.int x :: .int i :: .ref a :: rest)) := by
  refine va_zast C.1 C.2.1 w.2.2.2.1 w.1 w.2.1 w.2.2.1 q0 2 he rfl (zf_vin hi) hdg fun H1 locs1 hP hD hS => ?_
  rw [zf_z_vp hz, hset] at hP hD
  exact kk H1 locs1 ⟨hP, hD, hS, w.2.2.2⟩
theorem zr_last (C : CallFix p m c cc nL s args (c0 :: zw_all) own) (w : zg_W D cs A s ws H locs) {n : Nat} {f : Nat → Int64} (he : ws[q0]? = some (a, .inl (cs 1, n, .inr (.inl f)))) {i : Int32} {x : Int64} (hi : zf_in i n = true) (hset : ws.set q0 (a, .inl (cs 1, n, .inr (.inl (vp_updL f i.toNatClampNeg x)))) = ws') (hdg : decode cc pc = .ok (.lastore, 1))
    (kk : ∀ (H1 : Heap) (locs1 : List Loc), zg_W D cs A s ws' H1 locs1 → W p l e R s m args below meth c H1 locs1 cells slots Q (F0 m (pc + 1) ls rest)) : W p l e R s m args below meth c H locs cells slots Q (F0 m pc ls (.long x :: .int i :: .ref a :: rest)) := by
  refine va_last C.1 C.2.1 w.2.2.2.1 w.1 w.2.1 w.2.2.1 q0 1 he rfl (zf_vin hi) hdg fun H1 locs1 hP hD hS => ?_
  rw [hset] at hP hD
  exact kk H1 locs1 ⟨hP, hD, hS, w.2.2.2⟩
theorem zr_alen (C : CallFix p m c cc nL s args (c0 :: zw_all) own) (w : zg_W D cs A s ws H locs) {n : Nat} {f : Nat → Int32} (he : ws[q0]? = some (a, .inl (cs 0, n, .inl f))) (hdg : decode cc pc = .ok (.arraylength, 1))
    (kk : W p l e R s m args below meth c H locs cells slots Q (F0 m (pc + 1) ls (.int (Int32.ofNat n) :: rest))) : W p l e R s m args below meth c H locs cells slots Q (F0 m pc ls (.ref a :: rest)) := va_alen C.1 C.2.1 w.2.2.2.1 w.1 q0 0 he (ty := .int) rfl rfl hdg kk
def zr_imax (x y : Int32) : Int32 := if x < y then y else x
def zr_imin (x y : Int32) : Int32 := if y < x then y else x
def zr_iabs (x : Int32) : Int32 := if 0 ≤ x then x else 0 - x
/-- Math's own methods are among the words -/
theorem zr_mw : (Cond.static Lib.Math.max.name ∈ zw_all ∧ Cond.static Lib.Math.min.name ∈ zw_all ∧ Cond.static Lib.Math.abs.name ∈ zw_all) ∧ Cond.initialized "java/lang/Math" ∈ zw_all ∧ Cond.code Lib.Math.max.name Lib.Math.max.code 2 (some .int) ∈ zw_all ∧ Cond.code Lib.Math.min.name Lib.Math.min.code 2 (some .int) ∈ zw_all ∧ Cond.code Lib.Math.abs.name Lib.Math.abs.code 1 (some .int) ∈ zw_all := by
  refine ⟨⟨?_, ?_, ?_⟩, ?_, ?_, ?_, ?_⟩ <;> decide +kernel
theorem zr_max (C : CallFix p m c cc nL s args (c0 :: zw_all) own) (hsz : ls.size = nL) (hl : Cond.methodLink own index Lib.Math.max.name ∈ zw_all) (hR : 1 ≤ R.frames ∧ (rest.map fun v => v.category).sum + 13 ≤ R.locals) (hcs : cells ≤ R.cells ∧ slots ≤ R.slots) {x y : Int32} (hdg : decode cc pc = .ok (.invokestatic index, 3))
    (kk : W p l e R s m args below meth c H locs cells slots Q (F0 m (pc + 3) ls (.int (zr_imax x y) :: rest))) : W p l e R s m args below meth c H locs cells slots Q (F0 m pc ls (.int y :: .int x :: rest)) :=
  va_mmax C.1 C.2.1 (C.2.2.1.trans hsz.symm) C.2.2.2.1 (C.2.2.2.2 _ (zw_in hl)) (C.2.2.2.2 _ (zw_in zr_mw.1.1)) (C.2.2.2.2 _ (zw_in zr_mw.2.1)) (C.2.2.2.2 _ (zw_in zr_mw.2.2.1)) hR.1 hR.2 hcs.1 hcs.2 hdg kk
theorem zr_min (C : CallFix p m c cc nL s args (c0 :: zw_all) own) (hsz : ls.size = nL) (hl : Cond.methodLink own index Lib.Math.min.name ∈ zw_all) (hR : 1 ≤ R.frames ∧ (rest.map fun v => v.category).sum + 13 ≤ R.locals) (hcs : cells ≤ R.cells ∧ slots ≤ R.slots) {x y : Int32} (hdg : decode cc pc = .ok (.invokestatic index, 3))
    (kk : W p l e R s m args below meth c H locs cells slots Q (F0 m (pc + 3) ls (.int (zr_imin x y) :: rest))) : W p l e R s m args below meth c H locs cells slots Q (F0 m pc ls (.int y :: .int x :: rest)) :=
  va_mmin C.1 C.2.1 (C.2.2.1.trans hsz.symm) C.2.2.2.1 (C.2.2.2.2 _ (zw_in hl)) (C.2.2.2.2 _ (zw_in zr_mw.1.2.1)) (C.2.2.2.2 _ (zw_in zr_mw.2.1)) (C.2.2.2.2 _ (zw_in zr_mw.2.2.2.1)) hR.1 hR.2 hcs.1 hcs.2 hdg kk
theorem zr_abs (C : CallFix p m c cc nL s args (c0 :: zw_all) own) (hsz : ls.size = nL) (hl : Cond.methodLink own index Lib.Math.abs.name ∈ zw_all) (hR : 1 ≤ R.frames ∧ (rest.map fun v => v.category).sum + 13 ≤ R.locals) (hcs : cells ≤ R.cells ∧ slots ≤ R.slots) {x : Int32} (hdg : decode cc pc = .ok (.invokestatic index, 3))
    (kk : W p l e R s m args below meth c H locs cells slots Q (F0 m (pc + 3) ls (.int (zr_iabs x) :: rest))) : W p l e R s m args below meth c H locs cells slots Q (F0 m pc ls (.int x :: rest)) :=
  va_mabs C.1 C.2.1 (C.2.2.1.trans hsz.symm) C.2.2.2.1 (C.2.2.2.2 _ (zw_in hl)) (C.2.2.2.2 _ (zw_in zr_mw.1.2.2)) (C.2.2.2.2 _ (zw_in zr_mw.2.1)) (C.2.2.2.2 _ (zw_in zr_mw.2.2.2.2)) hR.1 hR.2 hcs.1 hcs.2 hdg kk
/-- System.arraycopy of ints: a test of its three numbers -/
def zf_cp (sp dp n : Int32) (n0 n1 : Nat) : Bool := decide (0 ≤ sp.toInt ∧ 0 ≤ dp.toInt ∧ 0 ≤ n.toInt ∧ sp.toInt + n.toInt ≤ n0 ∧ dp.toInt + n.toInt ≤ n1)
theorem zr_cw : Cond.native arraycopyName ∈ zw_all ∧ Cond.static arraycopyName ∈ zw_all ∧ Cond.initialized "java/lang/System" ∈ zw_all := by
  refine ⟨?_, ?_, ?_⟩ <;> decide +kernel
theorem zf_nn {z : Int32} (h : 0 ≤ z.toInt) : ¬ z < 0 ∧ z.toInt = (z.toNatClampNeg : Int) := by
  refine ⟨fun q => ?_, ?_⟩
  · have := Int32.lt_iff_toInt_lt.mp q
    simp at this
    omega
  · simp only [Int32.toNatClampNeg]
    omega
theorem zr_copy (C : CallFix p m c cc nL s args (c0 :: zw_all) own) (w : zg_W D cs A s ws H locs) (hsz : ls.size = nL) {q1 a0 n0 n1 : Nat} {f g : Nat → Int32} (he0 : ws[q0]? = some (a0, .inl (cs 0, n0, .inl f))) (he1 : ws[q1]? = some (a, .inl (cs 0, n1, .inl g))) (hl : Cond.methodLink own index arraycopyName ∈ zw_all) {sp dp n : Int32} (hcp : zf_cp sp dp n n0 n1 = true) (hR : 1 ≤ R.frames ∧ (rest.map fun v => v.category).sum + (nativeFrameWords "java/lang/System" "arraycopy" 5 + 11) ≤ R.locals) (hset : ws.set q1 (a, .inl (cs 0, n1, .inl (va_cpy f g sp.toNatClampNeg dp.toNatClampNeg n.toNatClampNeg))) = ws') (hdg : decode cc pc = .ok (.invokestatic index, 3))
    (kk : ∀ (H1 : Heap) (locs1 : List Loc), zg_W D cs A s ws' H1 locs1 → W p l e R s m args below meth c H1 locs1 cells slots Q (F0 m (pc + 3) ls rest)) : W p l e R s m args below meth c H locs cells slots Q (F0 m pc ls (.int n :: .int dp :: .ref a :: .int sp :: .ref a0 :: rest)) := by
  obtain ⟨h1, h2, h3, h4, h5⟩ := of_decide_eq_true hcp
  have e1 := zf_nn h1
  have e2 := zf_nn h2
  have e3 := zf_nn h3
  refine va_copyi C.1 C.2.1 (C.2.2.1.trans hsz.symm) C.2.2.2.1 (C.2.2.2.2 _ (zw_in hl)) (C.2.2.2.2 _ (zw_in zr_cw.1)) (C.2.2.2.2 _ (zw_in zr_cw.2.1)) (C.2.2.2.2 _ (zw_in zr_cw.2.2)) w.2.2.2.1 w.1 w.2.1 w.2.2.1 q0 q1 0 0 he0 he1 rfl rfl rfl e1.1 e2.1 e3.1 (by omega) (by omega) (fun i hi => rfl) hR.1 hR.2 hdg fun H1 locs1 hP hD hS => ?_
  rw [hset] at hP hD
  exact kk H1 locs1 ⟨hP, hD, hS, w.2.2.2⟩
theorem zr_ldc (C : CallFix p m c cc nL s args (c0 :: zw_all) own) {v : Int32} (hl : Cond.constant own index v ∈ zw_all) (hdg : decode cc pc = .ok (.ldc index, 2)) (kk : W p l e R s m args below meth c H locs cells slots Q (F0 m (pc + 2) ls (.int v :: rest))) : W p l e R s m args below meth c H locs cells slots Q (F0 m pc ls rest) := lv_ldc C.1 C.2.1 C.2.2.2.1 (C.2.2.2.2 _ (zw_in hl)) hdg kk
theorem zr_ldcw (C : CallFix p m c cc nL s args (c0 :: zw_all) own) {v : Int32} (hl : Cond.constant own index v ∈ zw_all) (hdg : decode cc pc = .ok (.ldc_w index, 3)) (kk : W p l e R s m args below meth c H locs cells slots Q (F0 m (pc + 3) ls (.int v :: rest))) : W p l e R s m args below meth c H locs cells slots Q (F0 m pc ls rest) := lv_ldcw C.1 C.2.1 C.2.2.2.1 (C.2.2.2.2 _ (zw_in hl)) hdg kk
theorem zr_ldc2 (C : CallFix p m c cc nL s args (c0 :: zw_all) own) {v : Int64} (hl : Cond.constantLong own index v ∈ zw_all) (hdg : decode cc pc = .ok (.ldc2_w index, 3)) (kk : W p l e R s m args below meth c H locs cells slots Q (F0 m (pc + 3) ls (.long v :: rest))) : W p l e R s m args below meth c H locs cells slots Q (F0 m pc ls rest) := lv_ldc2 C.1 C.2.1 C.2.2.2.1 (C.2.2.2.2 _ (zw_in hl)) hdg kk
end ZR
end
section
theorem inz0 : ∀ w ∈ wsX00, w ∈ zw_all := by decide +kernel
theorem inz1 : ∀ w ∈ wsX10, w ∈ zw_all := by decide +kernel
theorem inz2 : ∀ w ∈ wsX20, w ∈ zw_all := by decide +kernel
theorem inz3 : ∀ w ∈ wsX30, w ∈ zw_all := by decide +kernel
theorem inz4 : ∀ w ∈ wsX40, w ∈ zw_all := by decide +kernel
theorem inz5 : ∀ w ∈ wsX50, w ∈ zw_all := by decide +kernel
theorem inz6 : ∀ w ∈ wsX60, w ∈ zw_all := by decide +kernel
theorem inz7 : ∀ w ∈ wsX70, w ∈ zw_all := by decide +kernel
theorem inz8 : ∀ w ∈ wsX80, w ∈ zw_all := by decide +kernel
theorem inz9 : ∀ w ∈ wsX90, w ∈ zw_all := by decide +kernel
end
section
/-! the world of FlockPass: cells and numbers
cell 0: object of FlockPass: tape=cell 1, book=cell 2, pasture=cell 3, planner=cell 4, register=cell 5, trace=cell 6, dairy=cell 7, ledger=cell 8, year=i0, today=i1
cell 1: object of FlockPass$Tape: bytes=cell 9, size=i2
cell 2: object of FlockPass$RuleBook: numbers=cell 10, draft=cell 11
cell 3: object of FlockPass$Pasture: grassOf=cell 12, mostOf=cell 13, growthOf=cell 14, heights=i3, snow=i4, flockAt=i5, hunger=i6, eaten=l0
cell 4: object of FlockPass$Planner: bestPath=cell 15, length=i7, path=cell 16, rows=cell 17, mostOf=cell 18, gainOf=cell 19, heights=i8, wanted=i9, bestHunger=i10, bestGrass=i11
cell 5: object of FlockPass$Register: firstOwnerOf=cell 20, gone=cell 21, size=i12, actOf=cell 22, sheepOf=cell 23, dayOf=cell 24, buyerOf=cell 25, order=cell 26, entries=i13
cell 6: object of FlockPass$Trace: owner=i14, up=i15, dead=i16, daysUp=i17, daysHad=cell 27, firstUntold=i18
cell 7: object of FlockPass$Dairy: milkOf=cell 28, partOf=cell 29, milkingDay=i19
cell 8: object of FlockPass$Ledger: cheesesOf=cell 30, latestOf=cell 31, balanceOf=cell 32, moneyOf=cell 33, ownPaid=l1, turn=cell 34, paidOut=l2
cell 9: row a0 of 40: FlockPass$Tape.bytes
cell 10: row a1 of 4: FlockPass$RuleBook.numbers
cell 11: row a2 of 4: FlockPass$RuleBook.draft
cell 12: row a3 of 6: FlockPass$Pasture.grassOf
cell 13: row a4 of 6: FlockPass$Pasture.mostOf
cell 14: row a5 of 6: FlockPass$Pasture.growthOf
cell 15: row a6 of 8: FlockPass$Planner.bestPath
cell 16: row a7 of 8: FlockPass$Planner.path
cell 17: row a8 of 54: FlockPass$Planner.rows
cell 18: row a9 of 6: FlockPass$Planner.mostOf
cell 19: row a10 of 6: FlockPass$Planner.gainOf
cell 20: row a11 of 80: FlockPass$Register.firstOwnerOf
cell 21: row a12 of 80: FlockPass$Register.gone
cell 22: row a13 of 100: FlockPass$Register.actOf
cell 23: row a14 of 100: FlockPass$Register.sheepOf
cell 24: row a15 of 100: FlockPass$Register.dayOf
cell 25: row a16 of 100: FlockPass$Register.buyerOf
cell 26: row a17 of 100: FlockPass$Register.order
cell 27: row a18 of 12: FlockPass$Trace.daysHad
cell 28: row a19 of 80: FlockPass$Dairy.milkOf
cell 29: row a20 of 12: FlockPass$Dairy.partOf
cell 30: row b0 of 12: FlockPass$Ledger.cheesesOf
cell 31: row a21 of 12: FlockPass$Ledger.latestOf
cell 32: row b1 of 12: FlockPass$Ledger.balanceOf
cell 33: row b2 of 12: FlockPass$Ledger.moneyOf
cell 34: row a22 of 12: FlockPass$Ledger.turn
-/
def oX0 (q : Nat → Nat) (u : zs_T) : List Value := [.ref (q 1), .ref (q 2), .ref (q 3), .ref (q 4), .ref (q 5), .ref (q 6), .ref (q 7), .ref (q 8), .int (zs_i u 0), .int (zs_i u 1)]
def oX1 (q : Nat → Nat) (u : zs_T) : List Value := [.ref (q 9), .int (zs_i u 2)]
def oX2 (q : Nat → Nat) (u : zs_T) : List Value := [.ref (q 10), .ref (q 11)]
def oX3 (q : Nat → Nat) (u : zs_T) : List Value := [.ref (q 12), .ref (q 13), .ref (q 14), .int (zs_i u 3), .int (zs_i u 4), .int (zs_i u 5), .int (zs_i u 6), .long (zs_l u 0)]
def oX4 (q : Nat → Nat) (u : zs_T) : List Value := [.ref (q 15), .int (zs_i u 7), .ref (q 16), .ref (q 17), .ref (q 18), .ref (q 19), .int (zs_i u 8), .int (zs_i u 9), .int (zs_i u 10), .int (zs_i u 11)]
def oX5 (q : Nat → Nat) (u : zs_T) : List Value := [.ref (q 20), .ref (q 21), .int (zs_i u 12), .ref (q 22), .ref (q 23), .ref (q 24), .ref (q 25), .ref (q 26), .int (zs_i u 13)]
def oX6 (q : Nat → Nat) (u : zs_T) : List Value := [.int (zs_i u 14), .int (zs_i u 15), .int (zs_i u 16), .int (zs_i u 17), .ref (q 27), .int (zs_i u 18)]
def oX7 (q : Nat → Nat) (u : zs_T) : List Value := [.ref (q 28), .ref (q 29), .int (zs_i u 19)]
def oX8 (q : Nat → Nat) (u : zs_T) : List Value := [.ref (q 30), .ref (q 31), .ref (q 32), .ref (q 33), .long (zs_l u 1), .ref (q 34), .long (zs_l u 2)]
def wX (q : Nat → Nat) (cs : Nat → ClassId) (u : zs_T) : va_W := [(q 0, .inr (8, oX0 q u)), (q 1, .inr (6, oX1 q u)), (q 2, .inr (5, oX2 q u)), (q 3, .inr (2, oX3 q u)), (q 4, .inr (3, oX4 q u)), (q 5, .inr (4, oX5 q u)), (q 6, .inr (7, oX6 q u)), (q 7, .inr (0, oX7 q u)), (q 8, .inr (1, oX8 q u)), (q 9, .inl (cs 0, 40, .inl (zs_a u 0))), (q 10, .inl (cs 0, 4, .inl (zs_a u 1))), (q 11, .inl (cs 0, 4, .inl (zs_a u 2))), (q 12, .inl (cs 0, 6, .inl (zs_a u 3))), (q 13, .inl (cs 0, 6, .inl (zs_a u 4))), (q 14, .inl (cs 0, 6, .inl (zs_a u 5))), (q 15, .inl (cs 0, 8, .inl (zs_a u 6))), (q 16, .inl (cs 0, 8, .inl (zs_a u 7))), (q 17, .inl (cs 0, 54, .inl (zs_a u 8))), (q 18, .inl (cs 0, 6, .inl (zs_a u 9))), (q 19, .inl (cs 0, 6, .inl (zs_a u 10))), (q 20, .inl (cs 0, 80, .inl (zs_a u 11))), (q 21, .inl (cs 2, 80, .inl (zs_a u 12))), (q 22, .inl (cs 0, 100, .inl (zs_a u 13))), (q 23, .inl (cs 0, 100, .inl (zs_a u 14))), (q 24, .inl (cs 0, 100, .inl (zs_a u 15))), (q 25, .inl (cs 0, 100, .inl (zs_a u 16))), (q 26, .inl (cs 0, 100, .inl (zs_a u 17))), (q 27, .inl (cs 0, 12, .inl (zs_a u 18))), (q 28, .inl (cs 0, 80, .inl (zs_a u 19))), (q 29, .inl (cs 0, 12, .inl (zs_a u 20))), (q 30, .inl (cs 1, 12, .inr (.inl (zs_b u 0)))), (q 31, .inl (cs 0, 12, .inl (zs_a u 21))), (q 32, .inl (cs 1, 12, .inr (.inl (zs_b u 1)))), (q 33, .inl (cs 1, 12, .inr (.inl (zs_b u 2)))), (q 34, .inl (cs 0, 12, .inl (zs_a u 22)))]
theorem wX_ad {q : Nat → Nat} {cs : Nat → ClassId} : zg_Ad (wX q cs) := fun _ _ => rfl
theorem wX_c0 {q : Nat → Nat} {cs : Nat → ClassId} {u : zs_T} : (wX q cs u)[0]? = some (q 0, .inr (8, oX0 q u)) := rfl
theorem wX_c1 {q : Nat → Nat} {cs : Nat → ClassId} {u : zs_T} : (wX q cs u)[1]? = some (q 1, .inr (6, oX1 q u)) := rfl
theorem wX_c2 {q : Nat → Nat} {cs : Nat → ClassId} {u : zs_T} : (wX q cs u)[2]? = some (q 2, .inr (5, oX2 q u)) := rfl
theorem wX_c3 {q : Nat → Nat} {cs : Nat → ClassId} {u : zs_T} : (wX q cs u)[3]? = some (q 3, .inr (2, oX3 q u)) := rfl
theorem wX_c4 {q : Nat → Nat} {cs : Nat → ClassId} {u : zs_T} : (wX q cs u)[4]? = some (q 4, .inr (3, oX4 q u)) := rfl
theorem wX_c5 {q : Nat → Nat} {cs : Nat → ClassId} {u : zs_T} : (wX q cs u)[5]? = some (q 5, .inr (4, oX5 q u)) := rfl
theorem wX_c6 {q : Nat → Nat} {cs : Nat → ClassId} {u : zs_T} : (wX q cs u)[6]? = some (q 6, .inr (7, oX6 q u)) := rfl
theorem wX_c7 {q : Nat → Nat} {cs : Nat → ClassId} {u : zs_T} : (wX q cs u)[7]? = some (q 7, .inr (0, oX7 q u)) := rfl
theorem wX_c8 {q : Nat → Nat} {cs : Nat → ClassId} {u : zs_T} : (wX q cs u)[8]? = some (q 8, .inr (1, oX8 q u)) := rfl
theorem wX_c9 {q : Nat → Nat} {cs : Nat → ClassId} {u : zs_T} : (wX q cs u)[9]? = some (q 9, .inl (cs 0, 40, .inl (zs_a u 0))) := rfl
theorem wX_c10 {q : Nat → Nat} {cs : Nat → ClassId} {u : zs_T} : (wX q cs u)[10]? = some (q 10, .inl (cs 0, 4, .inl (zs_a u 1))) := rfl
theorem wX_c11 {q : Nat → Nat} {cs : Nat → ClassId} {u : zs_T} : (wX q cs u)[11]? = some (q 11, .inl (cs 0, 4, .inl (zs_a u 2))) := rfl
theorem wX_c12 {q : Nat → Nat} {cs : Nat → ClassId} {u : zs_T} : (wX q cs u)[12]? = some (q 12, .inl (cs 0, 6, .inl (zs_a u 3))) := rfl
theorem wX_c13 {q : Nat → Nat} {cs : Nat → ClassId} {u : zs_T} : (wX q cs u)[13]? = some (q 13, .inl (cs 0, 6, .inl (zs_a u 4))) := rfl
theorem wX_c14 {q : Nat → Nat} {cs : Nat → ClassId} {u : zs_T} : (wX q cs u)[14]? = some (q 14, .inl (cs 0, 6, .inl (zs_a u 5))) := rfl
theorem wX_c15 {q : Nat → Nat} {cs : Nat → ClassId} {u : zs_T} : (wX q cs u)[15]? = some (q 15, .inl (cs 0, 8, .inl (zs_a u 6))) := rfl
theorem wX_c16 {q : Nat → Nat} {cs : Nat → ClassId} {u : zs_T} : (wX q cs u)[16]? = some (q 16, .inl (cs 0, 8, .inl (zs_a u 7))) := rfl
theorem wX_c17 {q : Nat → Nat} {cs : Nat → ClassId} {u : zs_T} : (wX q cs u)[17]? = some (q 17, .inl (cs 0, 54, .inl (zs_a u 8))) := rfl
theorem wX_c18 {q : Nat → Nat} {cs : Nat → ClassId} {u : zs_T} : (wX q cs u)[18]? = some (q 18, .inl (cs 0, 6, .inl (zs_a u 9))) := rfl
theorem wX_c19 {q : Nat → Nat} {cs : Nat → ClassId} {u : zs_T} : (wX q cs u)[19]? = some (q 19, .inl (cs 0, 6, .inl (zs_a u 10))) := rfl
theorem wX_c20 {q : Nat → Nat} {cs : Nat → ClassId} {u : zs_T} : (wX q cs u)[20]? = some (q 20, .inl (cs 0, 80, .inl (zs_a u 11))) := rfl
theorem wX_c21 {q : Nat → Nat} {cs : Nat → ClassId} {u : zs_T} : (wX q cs u)[21]? = some (q 21, .inl (cs 2, 80, .inl (zs_a u 12))) := rfl
theorem wX_c22 {q : Nat → Nat} {cs : Nat → ClassId} {u : zs_T} : (wX q cs u)[22]? = some (q 22, .inl (cs 0, 100, .inl (zs_a u 13))) := rfl
theorem wX_c23 {q : Nat → Nat} {cs : Nat → ClassId} {u : zs_T} : (wX q cs u)[23]? = some (q 23, .inl (cs 0, 100, .inl (zs_a u 14))) := rfl
theorem wX_c24 {q : Nat → Nat} {cs : Nat → ClassId} {u : zs_T} : (wX q cs u)[24]? = some (q 24, .inl (cs 0, 100, .inl (zs_a u 15))) := rfl
theorem wX_c25 {q : Nat → Nat} {cs : Nat → ClassId} {u : zs_T} : (wX q cs u)[25]? = some (q 25, .inl (cs 0, 100, .inl (zs_a u 16))) := rfl
theorem wX_c26 {q : Nat → Nat} {cs : Nat → ClassId} {u : zs_T} : (wX q cs u)[26]? = some (q 26, .inl (cs 0, 100, .inl (zs_a u 17))) := rfl
theorem wX_c27 {q : Nat → Nat} {cs : Nat → ClassId} {u : zs_T} : (wX q cs u)[27]? = some (q 27, .inl (cs 0, 12, .inl (zs_a u 18))) := rfl
theorem wX_c28 {q : Nat → Nat} {cs : Nat → ClassId} {u : zs_T} : (wX q cs u)[28]? = some (q 28, .inl (cs 0, 80, .inl (zs_a u 19))) := rfl
theorem wX_c29 {q : Nat → Nat} {cs : Nat → ClassId} {u : zs_T} : (wX q cs u)[29]? = some (q 29, .inl (cs 0, 12, .inl (zs_a u 20))) := rfl
theorem wX_c30 {q : Nat → Nat} {cs : Nat → ClassId} {u : zs_T} : (wX q cs u)[30]? = some (q 30, .inl (cs 1, 12, .inr (.inl (zs_b u 0)))) := rfl
theorem wX_c31 {q : Nat → Nat} {cs : Nat → ClassId} {u : zs_T} : (wX q cs u)[31]? = some (q 31, .inl (cs 0, 12, .inl (zs_a u 21))) := rfl
theorem wX_c32 {q : Nat → Nat} {cs : Nat → ClassId} {u : zs_T} : (wX q cs u)[32]? = some (q 32, .inl (cs 1, 12, .inr (.inl (zs_b u 1)))) := rfl
theorem wX_c33 {q : Nat → Nat} {cs : Nat → ClassId} {u : zs_T} : (wX q cs u)[33]? = some (q 33, .inl (cs 1, 12, .inr (.inl (zs_b u 2)))) := rfl
theorem wX_c34 {q : Nat → Nat} {cs : Nat → ClassId} {u : zs_T} : (wX q cs u)[34]? = some (q 34, .inl (cs 0, 12, .inl (zs_a u 22))) := rfl
section ZWX
variable {p : Program} {l : Launch} {e : Env} {R : Room} {s : State} {m : MethodId} {args : Array Value} {below : List Frame} {meth : Method} {c : Code} {H : Heap} {locs : List Loc} {cells slots : Nat} {Q : State → Prop}
variable {cc : ByteArray} {nL pc index : Nat} {ls : Array Slot} {rest : List Value} {c0 : Cond} {own : String}
variable {D : va_G} {cs : Nat → ClassId} {A : Nat → Prop} {q : Nat → Nat} {u : zs_T}
theorem rcX_0 : zc_rc (wX q cs) u (q 0) RX8 := ⟨0, 8, _, _, wX_c0, rfl, rfl⟩
theorem xg_0_0 (C : CallFix p m c cc nL s args (c0 :: zw_all) own) (w : zg_W D cs A s (wX q cs u) H locs) (hl : Cond.fieldLink own index RX8 "tape" "LFlockPass$Tape;" ∈ zw_all) (hdg : decode cc pc = .ok (.getfield index, 3)) (kk : W p l e R s m args below meth c H locs cells slots Q (F0 m (pc + 3) ls (.ref (q 1) :: rest))) : W p l e R s m args below meth c H locs cells slots Q (F0 m pc ls (.ref (q 0) :: rest)) := zr_get (k := 0) C w wX_c0 rfl inz8 (by decide) hl rfl rfl hdg kk
theorem xg_0_1 (C : CallFix p m c cc nL s args (c0 :: zw_all) own) (w : zg_W D cs A s (wX q cs u) H locs) (hl : Cond.fieldLink own index RX8 "book" "LFlockPass$RuleBook;" ∈ zw_all) (hdg : decode cc pc = .ok (.getfield index, 3)) (kk : W p l e R s m args below meth c H locs cells slots Q (F0 m (pc + 3) ls (.ref (q 2) :: rest))) : W p l e R s m args below meth c H locs cells slots Q (F0 m pc ls (.ref (q 0) :: rest)) := zr_get (k := 1) C w wX_c0 rfl inz8 (by decide) hl rfl rfl hdg kk
theorem xg_0_2 (C : CallFix p m c cc nL s args (c0 :: zw_all) own) (w : zg_W D cs A s (wX q cs u) H locs) (hl : Cond.fieldLink own index RX8 "pasture" "LFlockPass$Pasture;" ∈ zw_all) (hdg : decode cc pc = .ok (.getfield index, 3)) (kk : W p l e R s m args below meth c H locs cells slots Q (F0 m (pc + 3) ls (.ref (q 3) :: rest))) : W p l e R s m args below meth c H locs cells slots Q (F0 m pc ls (.ref (q 0) :: rest)) := zr_get (k := 2) C w wX_c0 rfl inz8 (by decide) hl rfl rfl hdg kk
theorem xg_0_3 (C : CallFix p m c cc nL s args (c0 :: zw_all) own) (w : zg_W D cs A s (wX q cs u) H locs) (hl : Cond.fieldLink own index RX8 "planner" "LFlockPass$Planner;" ∈ zw_all) (hdg : decode cc pc = .ok (.getfield index, 3)) (kk : W p l e R s m args below meth c H locs cells slots Q (F0 m (pc + 3) ls (.ref (q 4) :: rest))) : W p l e R s m args below meth c H locs cells slots Q (F0 m pc ls (.ref (q 0) :: rest)) := zr_get (k := 3) C w wX_c0 rfl inz8 (by decide) hl rfl rfl hdg kk
theorem xg_0_4 (C : CallFix p m c cc nL s args (c0 :: zw_all) own) (w : zg_W D cs A s (wX q cs u) H locs) (hl : Cond.fieldLink own index RX8 "register" "LFlockPass$Register;" ∈ zw_all) (hdg : decode cc pc = .ok (.getfield index, 3)) (kk : W p l e R s m args below meth c H locs cells slots Q (F0 m (pc + 3) ls (.ref (q 5) :: rest))) : W p l e R s m args below meth c H locs cells slots Q (F0 m pc ls (.ref (q 0) :: rest)) := zr_get (k := 4) C w wX_c0 rfl inz8 (by decide) hl rfl rfl hdg kk
theorem xg_0_5 (C : CallFix p m c cc nL s args (c0 :: zw_all) own) (w : zg_W D cs A s (wX q cs u) H locs) (hl : Cond.fieldLink own index RX8 "trace" "LFlockPass$Trace;" ∈ zw_all) (hdg : decode cc pc = .ok (.getfield index, 3)) (kk : W p l e R s m args below meth c H locs cells slots Q (F0 m (pc + 3) ls (.ref (q 6) :: rest))) : W p l e R s m args below meth c H locs cells slots Q (F0 m pc ls (.ref (q 0) :: rest)) := zr_get (k := 5) C w wX_c0 rfl inz8 (by decide) hl rfl rfl hdg kk
theorem xg_0_6 (C : CallFix p m c cc nL s args (c0 :: zw_all) own) (w : zg_W D cs A s (wX q cs u) H locs) (hl : Cond.fieldLink own index RX8 "dairy" "LFlockPass$Dairy;" ∈ zw_all) (hdg : decode cc pc = .ok (.getfield index, 3)) (kk : W p l e R s m args below meth c H locs cells slots Q (F0 m (pc + 3) ls (.ref (q 7) :: rest))) : W p l e R s m args below meth c H locs cells slots Q (F0 m pc ls (.ref (q 0) :: rest)) := zr_get (k := 6) C w wX_c0 rfl inz8 (by decide) hl rfl rfl hdg kk
theorem xg_0_7 (C : CallFix p m c cc nL s args (c0 :: zw_all) own) (w : zg_W D cs A s (wX q cs u) H locs) (hl : Cond.fieldLink own index RX8 "ledger" "LFlockPass$Ledger;" ∈ zw_all) (hdg : decode cc pc = .ok (.getfield index, 3)) (kk : W p l e R s m args below meth c H locs cells slots Q (F0 m (pc + 3) ls (.ref (q 8) :: rest))) : W p l e R s m args below meth c H locs cells slots Q (F0 m pc ls (.ref (q 0) :: rest)) := zr_get (k := 7) C w wX_c0 rfl inz8 (by decide) hl rfl rfl hdg kk
theorem xg_0_8 (C : CallFix p m c cc nL s args (c0 :: zw_all) own) (w : zg_W D cs A s (wX q cs u) H locs) (hl : Cond.fieldLink own index RX8 "year" "I" ∈ zw_all) (hdg : decode cc pc = .ok (.getfield index, 3)) (kk : W p l e R s m args below meth c H locs cells slots Q (F0 m (pc + 3) ls (.int (zs_i u 0) :: rest))) : W p l e R s m args below meth c H locs cells slots Q (F0 m pc ls (.ref (q 0) :: rest)) := zr_get (k := 8) C w wX_c0 rfl inz8 (by decide) hl rfl rfl hdg kk
theorem xp_0_8 (C : CallFix p m c cc nL s args (c0 :: zw_all) own) (w : zg_W D cs A s (wX q cs u) H locs) {v : Int32} (hl : Cond.fieldLink own index RX8 "year" "I" ∈ zw_all) (hdg : decode cc pc = .ok (.putfield index, 3)) (kk : ∀ (H1 : Heap) (locs1 : List Loc), zg_W D cs A s (wX q cs (zs_si u 0 v)) H1 locs1 → W p l e R s m args below meth c H1 locs1 cells slots Q (F0 m (pc + 3) ls rest)) : W p l e R s m args below meth c H locs cells slots Q (F0 m pc ls (.int v :: .ref (q 0) :: rest)) := zr_put (k := 8) (ty := .int) C w wX_c0 rfl inz8 tyX8 tyX8_ok nmX8 (by decide) hl rfl rfl (by decide +kernel) rfl rfl (Nat.le_of_ble_eq_true rfl) rfl hdg kk
theorem xg_0_9 (C : CallFix p m c cc nL s args (c0 :: zw_all) own) (w : zg_W D cs A s (wX q cs u) H locs) (hl : Cond.fieldLink own index RX8 "today" "I" ∈ zw_all) (hdg : decode cc pc = .ok (.getfield index, 3)) (kk : W p l e R s m args below meth c H locs cells slots Q (F0 m (pc + 3) ls (.int (zs_i u 1) :: rest))) : W p l e R s m args below meth c H locs cells slots Q (F0 m pc ls (.ref (q 0) :: rest)) := zr_get (k := 9) C w wX_c0 rfl inz8 (by decide) hl rfl rfl hdg kk
theorem xp_0_9 (C : CallFix p m c cc nL s args (c0 :: zw_all) own) (w : zg_W D cs A s (wX q cs u) H locs) {v : Int32} (hl : Cond.fieldLink own index RX8 "today" "I" ∈ zw_all) (hdg : decode cc pc = .ok (.putfield index, 3)) (kk : ∀ (H1 : Heap) (locs1 : List Loc), zg_W D cs A s (wX q cs (zs_si u 1 v)) H1 locs1 → W p l e R s m args below meth c H1 locs1 cells slots Q (F0 m (pc + 3) ls rest)) : W p l e R s m args below meth c H locs cells slots Q (F0 m pc ls (.int v :: .ref (q 0) :: rest)) := zr_put (k := 9) (ty := .int) C w wX_c0 rfl inz8 tyX8 tyX8_ok nmX8 (by decide) hl rfl rfl (by decide +kernel) rfl rfl (Nat.le_of_ble_eq_true rfl) rfl hdg kk
theorem rcX_1 : zc_rc (wX q cs) u (q 1) RX6 := ⟨1, 6, _, _, wX_c1, rfl, rfl⟩
theorem xg_1_0 (C : CallFix p m c cc nL s args (c0 :: zw_all) own) (w : zg_W D cs A s (wX q cs u) H locs) (hl : Cond.fieldLink own index RX6 "bytes" "[I" ∈ zw_all) (hdg : decode cc pc = .ok (.getfield index, 3)) (kk : W p l e R s m args below meth c H locs cells slots Q (F0 m (pc + 3) ls (.ref (q 9) :: rest))) : W p l e R s m args below meth c H locs cells slots Q (F0 m pc ls (.ref (q 1) :: rest)) := zr_get (k := 0) C w wX_c1 rfl inz6 (by decide) hl rfl rfl hdg kk
theorem xg_1_1 (C : CallFix p m c cc nL s args (c0 :: zw_all) own) (w : zg_W D cs A s (wX q cs u) H locs) (hl : Cond.fieldLink own index RX6 "size" "I" ∈ zw_all) (hdg : decode cc pc = .ok (.getfield index, 3)) (kk : W p l e R s m args below meth c H locs cells slots Q (F0 m (pc + 3) ls (.int (zs_i u 2) :: rest))) : W p l e R s m args below meth c H locs cells slots Q (F0 m pc ls (.ref (q 1) :: rest)) := zr_get (k := 1) C w wX_c1 rfl inz6 (by decide) hl rfl rfl hdg kk
theorem xp_1_1 (C : CallFix p m c cc nL s args (c0 :: zw_all) own) (w : zg_W D cs A s (wX q cs u) H locs) {v : Int32} (hl : Cond.fieldLink own index RX6 "size" "I" ∈ zw_all) (hdg : decode cc pc = .ok (.putfield index, 3)) (kk : ∀ (H1 : Heap) (locs1 : List Loc), zg_W D cs A s (wX q cs (zs_si u 2 v)) H1 locs1 → W p l e R s m args below meth c H1 locs1 cells slots Q (F0 m (pc + 3) ls rest)) : W p l e R s m args below meth c H locs cells slots Q (F0 m pc ls (.int v :: .ref (q 1) :: rest)) := zr_put (k := 1) (ty := .int) C w wX_c1 rfl inz6 tyX6 tyX6_ok nmX6 (by decide) hl rfl rfl (by decide +kernel) rfl rfl (Nat.le_of_ble_eq_true rfl) rfl hdg kk
theorem rcX_2 : zc_rc (wX q cs) u (q 2) RX5 := ⟨2, 5, _, _, wX_c2, rfl, rfl⟩
theorem xg_2_0 (C : CallFix p m c cc nL s args (c0 :: zw_all) own) (w : zg_W D cs A s (wX q cs u) H locs) (hl : Cond.fieldLink own index RX5 "numbers" "[I" ∈ zw_all) (hdg : decode cc pc = .ok (.getfield index, 3)) (kk : W p l e R s m args below meth c H locs cells slots Q (F0 m (pc + 3) ls (.ref (q 10) :: rest))) : W p l e R s m args below meth c H locs cells slots Q (F0 m pc ls (.ref (q 2) :: rest)) := zr_get (k := 0) C w wX_c2 rfl inz5 (by decide) hl rfl rfl hdg kk
theorem xg_2_1 (C : CallFix p m c cc nL s args (c0 :: zw_all) own) (w : zg_W D cs A s (wX q cs u) H locs) (hl : Cond.fieldLink own index RX5 "draft" "[I" ∈ zw_all) (hdg : decode cc pc = .ok (.getfield index, 3)) (kk : W p l e R s m args below meth c H locs cells slots Q (F0 m (pc + 3) ls (.ref (q 11) :: rest))) : W p l e R s m args below meth c H locs cells slots Q (F0 m pc ls (.ref (q 2) :: rest)) := zr_get (k := 1) C w wX_c2 rfl inz5 (by decide) hl rfl rfl hdg kk
theorem rcX_3 : zc_rc (wX q cs) u (q 3) RX2 := ⟨3, 2, _, _, wX_c3, rfl, rfl⟩
theorem xg_3_0 (C : CallFix p m c cc nL s args (c0 :: zw_all) own) (w : zg_W D cs A s (wX q cs u) H locs) (hl : Cond.fieldLink own index RX2 "grassOf" "[I" ∈ zw_all) (hdg : decode cc pc = .ok (.getfield index, 3)) (kk : W p l e R s m args below meth c H locs cells slots Q (F0 m (pc + 3) ls (.ref (q 12) :: rest))) : W p l e R s m args below meth c H locs cells slots Q (F0 m pc ls (.ref (q 3) :: rest)) := zr_get (k := 0) C w wX_c3 rfl inz2 (by decide) hl rfl rfl hdg kk
theorem xg_3_1 (C : CallFix p m c cc nL s args (c0 :: zw_all) own) (w : zg_W D cs A s (wX q cs u) H locs) (hl : Cond.fieldLink own index RX2 "mostOf" "[I" ∈ zw_all) (hdg : decode cc pc = .ok (.getfield index, 3)) (kk : W p l e R s m args below meth c H locs cells slots Q (F0 m (pc + 3) ls (.ref (q 13) :: rest))) : W p l e R s m args below meth c H locs cells slots Q (F0 m pc ls (.ref (q 3) :: rest)) := zr_get (k := 1) C w wX_c3 rfl inz2 (by decide) hl rfl rfl hdg kk
theorem xg_3_2 (C : CallFix p m c cc nL s args (c0 :: zw_all) own) (w : zg_W D cs A s (wX q cs u) H locs) (hl : Cond.fieldLink own index RX2 "growthOf" "[I" ∈ zw_all) (hdg : decode cc pc = .ok (.getfield index, 3)) (kk : W p l e R s m args below meth c H locs cells slots Q (F0 m (pc + 3) ls (.ref (q 14) :: rest))) : W p l e R s m args below meth c H locs cells slots Q (F0 m pc ls (.ref (q 3) :: rest)) := zr_get (k := 2) C w wX_c3 rfl inz2 (by decide) hl rfl rfl hdg kk
theorem xg_3_3 (C : CallFix p m c cc nL s args (c0 :: zw_all) own) (w : zg_W D cs A s (wX q cs u) H locs) (hl : Cond.fieldLink own index RX2 "heights" "I" ∈ zw_all) (hdg : decode cc pc = .ok (.getfield index, 3)) (kk : W p l e R s m args below meth c H locs cells slots Q (F0 m (pc + 3) ls (.int (zs_i u 3) :: rest))) : W p l e R s m args below meth c H locs cells slots Q (F0 m pc ls (.ref (q 3) :: rest)) := zr_get (k := 3) C w wX_c3 rfl inz2 (by decide) hl rfl rfl hdg kk
theorem xp_3_3 (C : CallFix p m c cc nL s args (c0 :: zw_all) own) (w : zg_W D cs A s (wX q cs u) H locs) {v : Int32} (hl : Cond.fieldLink own index RX2 "heights" "I" ∈ zw_all) (hdg : decode cc pc = .ok (.putfield index, 3)) (kk : ∀ (H1 : Heap) (locs1 : List Loc), zg_W D cs A s (wX q cs (zs_si u 3 v)) H1 locs1 → W p l e R s m args below meth c H1 locs1 cells slots Q (F0 m (pc + 3) ls rest)) : W p l e R s m args below meth c H locs cells slots Q (F0 m pc ls (.int v :: .ref (q 3) :: rest)) := zr_put (k := 3) (ty := .int) C w wX_c3 rfl inz2 tyX2 tyX2_ok nmX2 (by decide) hl rfl rfl (by decide +kernel) rfl rfl (Nat.le_of_ble_eq_true rfl) rfl hdg kk
theorem xg_3_4 (C : CallFix p m c cc nL s args (c0 :: zw_all) own) (w : zg_W D cs A s (wX q cs u) H locs) (hl : Cond.fieldLink own index RX2 "snow" "I" ∈ zw_all) (hdg : decode cc pc = .ok (.getfield index, 3)) (kk : W p l e R s m args below meth c H locs cells slots Q (F0 m (pc + 3) ls (.int (zs_i u 4) :: rest))) : W p l e R s m args below meth c H locs cells slots Q (F0 m pc ls (.ref (q 3) :: rest)) := zr_get (k := 4) C w wX_c3 rfl inz2 (by decide) hl rfl rfl hdg kk
theorem xp_3_4 (C : CallFix p m c cc nL s args (c0 :: zw_all) own) (w : zg_W D cs A s (wX q cs u) H locs) {v : Int32} (hl : Cond.fieldLink own index RX2 "snow" "I" ∈ zw_all) (hdg : decode cc pc = .ok (.putfield index, 3)) (kk : ∀ (H1 : Heap) (locs1 : List Loc), zg_W D cs A s (wX q cs (zs_si u 4 v)) H1 locs1 → W p l e R s m args below meth c H1 locs1 cells slots Q (F0 m (pc + 3) ls rest)) : W p l e R s m args below meth c H locs cells slots Q (F0 m pc ls (.int v :: .ref (q 3) :: rest)) := zr_put (k := 4) (ty := .int) C w wX_c3 rfl inz2 tyX2 tyX2_ok nmX2 (by decide) hl rfl rfl (by decide +kernel) rfl rfl (Nat.le_of_ble_eq_true rfl) rfl hdg kk
theorem xg_3_5 (C : CallFix p m c cc nL s args (c0 :: zw_all) own) (w : zg_W D cs A s (wX q cs u) H locs) (hl : Cond.fieldLink own index RX2 "flockAt" "I" ∈ zw_all) (hdg : decode cc pc = .ok (.getfield index, 3)) (kk : W p l e R s m args below meth c H locs cells slots Q (F0 m (pc + 3) ls (.int (zs_i u 5) :: rest))) : W p l e R s m args below meth c H locs cells slots Q (F0 m pc ls (.ref (q 3) :: rest)) := zr_get (k := 5) C w wX_c3 rfl inz2 (by decide) hl rfl rfl hdg kk
theorem xp_3_5 (C : CallFix p m c cc nL s args (c0 :: zw_all) own) (w : zg_W D cs A s (wX q cs u) H locs) {v : Int32} (hl : Cond.fieldLink own index RX2 "flockAt" "I" ∈ zw_all) (hdg : decode cc pc = .ok (.putfield index, 3)) (kk : ∀ (H1 : Heap) (locs1 : List Loc), zg_W D cs A s (wX q cs (zs_si u 5 v)) H1 locs1 → W p l e R s m args below meth c H1 locs1 cells slots Q (F0 m (pc + 3) ls rest)) : W p l e R s m args below meth c H locs cells slots Q (F0 m pc ls (.int v :: .ref (q 3) :: rest)) := zr_put (k := 5) (ty := .int) C w wX_c3 rfl inz2 tyX2 tyX2_ok nmX2 (by decide) hl rfl rfl (by decide +kernel) rfl rfl (Nat.le_of_ble_eq_true rfl) rfl hdg kk
theorem xg_3_6 (C : CallFix p m c cc nL s args (c0 :: zw_all) own) (w : zg_W D cs A s (wX q cs u) H locs) (hl : Cond.fieldLink own index RX2 "hunger" "I" ∈ zw_all) (hdg : decode cc pc = .ok (.getfield index, 3)) (kk : W p l e R s m args below meth c H locs cells slots Q (F0 m (pc + 3) ls (.int (zs_i u 6) :: rest))) : W p l e R s m args below meth c H locs cells slots Q (F0 m pc ls (.ref (q 3) :: rest)) := zr_get (k := 6) C w wX_c3 rfl inz2 (by decide) hl rfl rfl hdg kk
theorem xp_3_6 (C : CallFix p m c cc nL s args (c0 :: zw_all) own) (w : zg_W D cs A s (wX q cs u) H locs) {v : Int32} (hl : Cond.fieldLink own index RX2 "hunger" "I" ∈ zw_all) (hdg : decode cc pc = .ok (.putfield index, 3)) (kk : ∀ (H1 : Heap) (locs1 : List Loc), zg_W D cs A s (wX q cs (zs_si u 6 v)) H1 locs1 → W p l e R s m args below meth c H1 locs1 cells slots Q (F0 m (pc + 3) ls rest)) : W p l e R s m args below meth c H locs cells slots Q (F0 m pc ls (.int v :: .ref (q 3) :: rest)) := zr_put (k := 6) (ty := .int) C w wX_c3 rfl inz2 tyX2 tyX2_ok nmX2 (by decide) hl rfl rfl (by decide +kernel) rfl rfl (Nat.le_of_ble_eq_true rfl) rfl hdg kk
theorem xg_3_7 (C : CallFix p m c cc nL s args (c0 :: zw_all) own) (w : zg_W D cs A s (wX q cs u) H locs) (hl : Cond.fieldLink own index RX2 "eaten" "J" ∈ zw_all) (hdg : decode cc pc = .ok (.getfield index, 3)) (kk : W p l e R s m args below meth c H locs cells slots Q (F0 m (pc + 3) ls (.long (zs_l u 0) :: rest))) : W p l e R s m args below meth c H locs cells slots Q (F0 m pc ls (.ref (q 3) :: rest)) := zr_get (k := 7) C w wX_c3 rfl inz2 (by decide) hl rfl rfl hdg kk
theorem xp_3_7 (C : CallFix p m c cc nL s args (c0 :: zw_all) own) (w : zg_W D cs A s (wX q cs u) H locs) {v : Int64} (hl : Cond.fieldLink own index RX2 "eaten" "J" ∈ zw_all) (hdg : decode cc pc = .ok (.putfield index, 3)) (kk : ∀ (H1 : Heap) (locs1 : List Loc), zg_W D cs A s (wX q cs (zs_sl u 0 v)) H1 locs1 → W p l e R s m args below meth c H1 locs1 cells slots Q (F0 m (pc + 3) ls rest)) : W p l e R s m args below meth c H locs cells slots Q (F0 m pc ls (.long v :: .ref (q 3) :: rest)) := zr_put (k := 7) (ty := .long) C w wX_c3 rfl inz2 tyX2 tyX2_ok nmX2 (by decide) hl rfl rfl (by decide +kernel) rfl rfl (Nat.le_of_ble_eq_true rfl) rfl hdg kk
theorem rcX_4 : zc_rc (wX q cs) u (q 4) RX3 := ⟨4, 3, _, _, wX_c4, rfl, rfl⟩
theorem xg_4_0 (C : CallFix p m c cc nL s args (c0 :: zw_all) own) (w : zg_W D cs A s (wX q cs u) H locs) (hl : Cond.fieldLink own index RX3 "bestPath" "[I" ∈ zw_all) (hdg : decode cc pc = .ok (.getfield index, 3)) (kk : W p l e R s m args below meth c H locs cells slots Q (F0 m (pc + 3) ls (.ref (q 15) :: rest))) : W p l e R s m args below meth c H locs cells slots Q (F0 m pc ls (.ref (q 4) :: rest)) := zr_get (k := 0) C w wX_c4 rfl inz3 (by decide) hl rfl rfl hdg kk
theorem xg_4_1 (C : CallFix p m c cc nL s args (c0 :: zw_all) own) (w : zg_W D cs A s (wX q cs u) H locs) (hl : Cond.fieldLink own index RX3 "length" "I" ∈ zw_all) (hdg : decode cc pc = .ok (.getfield index, 3)) (kk : W p l e R s m args below meth c H locs cells slots Q (F0 m (pc + 3) ls (.int (zs_i u 7) :: rest))) : W p l e R s m args below meth c H locs cells slots Q (F0 m pc ls (.ref (q 4) :: rest)) := zr_get (k := 1) C w wX_c4 rfl inz3 (by decide) hl rfl rfl hdg kk
theorem xp_4_1 (C : CallFix p m c cc nL s args (c0 :: zw_all) own) (w : zg_W D cs A s (wX q cs u) H locs) {v : Int32} (hl : Cond.fieldLink own index RX3 "length" "I" ∈ zw_all) (hdg : decode cc pc = .ok (.putfield index, 3)) (kk : ∀ (H1 : Heap) (locs1 : List Loc), zg_W D cs A s (wX q cs (zs_si u 7 v)) H1 locs1 → W p l e R s m args below meth c H1 locs1 cells slots Q (F0 m (pc + 3) ls rest)) : W p l e R s m args below meth c H locs cells slots Q (F0 m pc ls (.int v :: .ref (q 4) :: rest)) := zr_put (k := 1) (ty := .int) C w wX_c4 rfl inz3 tyX3 tyX3_ok nmX3 (by decide) hl rfl rfl (by decide +kernel) rfl rfl (Nat.le_of_ble_eq_true rfl) rfl hdg kk
theorem xg_4_2 (C : CallFix p m c cc nL s args (c0 :: zw_all) own) (w : zg_W D cs A s (wX q cs u) H locs) (hl : Cond.fieldLink own index RX3 "path" "[I" ∈ zw_all) (hdg : decode cc pc = .ok (.getfield index, 3)) (kk : W p l e R s m args below meth c H locs cells slots Q (F0 m (pc + 3) ls (.ref (q 16) :: rest))) : W p l e R s m args below meth c H locs cells slots Q (F0 m pc ls (.ref (q 4) :: rest)) := zr_get (k := 2) C w wX_c4 rfl inz3 (by decide) hl rfl rfl hdg kk
theorem xg_4_3 (C : CallFix p m c cc nL s args (c0 :: zw_all) own) (w : zg_W D cs A s (wX q cs u) H locs) (hl : Cond.fieldLink own index RX3 "rows" "[I" ∈ zw_all) (hdg : decode cc pc = .ok (.getfield index, 3)) (kk : W p l e R s m args below meth c H locs cells slots Q (F0 m (pc + 3) ls (.ref (q 17) :: rest))) : W p l e R s m args below meth c H locs cells slots Q (F0 m pc ls (.ref (q 4) :: rest)) := zr_get (k := 3) C w wX_c4 rfl inz3 (by decide) hl rfl rfl hdg kk
theorem xg_4_4 (C : CallFix p m c cc nL s args (c0 :: zw_all) own) (w : zg_W D cs A s (wX q cs u) H locs) (hl : Cond.fieldLink own index RX3 "mostOf" "[I" ∈ zw_all) (hdg : decode cc pc = .ok (.getfield index, 3)) (kk : W p l e R s m args below meth c H locs cells slots Q (F0 m (pc + 3) ls (.ref (q 18) :: rest))) : W p l e R s m args below meth c H locs cells slots Q (F0 m pc ls (.ref (q 4) :: rest)) := zr_get (k := 4) C w wX_c4 rfl inz3 (by decide) hl rfl rfl hdg kk
theorem xg_4_5 (C : CallFix p m c cc nL s args (c0 :: zw_all) own) (w : zg_W D cs A s (wX q cs u) H locs) (hl : Cond.fieldLink own index RX3 "gainOf" "[I" ∈ zw_all) (hdg : decode cc pc = .ok (.getfield index, 3)) (kk : W p l e R s m args below meth c H locs cells slots Q (F0 m (pc + 3) ls (.ref (q 19) :: rest))) : W p l e R s m args below meth c H locs cells slots Q (F0 m pc ls (.ref (q 4) :: rest)) := zr_get (k := 5) C w wX_c4 rfl inz3 (by decide) hl rfl rfl hdg kk
theorem xg_4_6 (C : CallFix p m c cc nL s args (c0 :: zw_all) own) (w : zg_W D cs A s (wX q cs u) H locs) (hl : Cond.fieldLink own index RX3 "heights" "I" ∈ zw_all) (hdg : decode cc pc = .ok (.getfield index, 3)) (kk : W p l e R s m args below meth c H locs cells slots Q (F0 m (pc + 3) ls (.int (zs_i u 8) :: rest))) : W p l e R s m args below meth c H locs cells slots Q (F0 m pc ls (.ref (q 4) :: rest)) := zr_get (k := 6) C w wX_c4 rfl inz3 (by decide) hl rfl rfl hdg kk
theorem xp_4_6 (C : CallFix p m c cc nL s args (c0 :: zw_all) own) (w : zg_W D cs A s (wX q cs u) H locs) {v : Int32} (hl : Cond.fieldLink own index RX3 "heights" "I" ∈ zw_all) (hdg : decode cc pc = .ok (.putfield index, 3)) (kk : ∀ (H1 : Heap) (locs1 : List Loc), zg_W D cs A s (wX q cs (zs_si u 8 v)) H1 locs1 → W p l e R s m args below meth c H1 locs1 cells slots Q (F0 m (pc + 3) ls rest)) : W p l e R s m args below meth c H locs cells slots Q (F0 m pc ls (.int v :: .ref (q 4) :: rest)) := zr_put (k := 6) (ty := .int) C w wX_c4 rfl inz3 tyX3 tyX3_ok nmX3 (by decide) hl rfl rfl (by decide +kernel) rfl rfl (Nat.le_of_ble_eq_true rfl) rfl hdg kk
theorem xg_4_7 (C : CallFix p m c cc nL s args (c0 :: zw_all) own) (w : zg_W D cs A s (wX q cs u) H locs) (hl : Cond.fieldLink own index RX3 "wanted" "I" ∈ zw_all) (hdg : decode cc pc = .ok (.getfield index, 3)) (kk : W p l e R s m args below meth c H locs cells slots Q (F0 m (pc + 3) ls (.int (zs_i u 9) :: rest))) : W p l e R s m args below meth c H locs cells slots Q (F0 m pc ls (.ref (q 4) :: rest)) := zr_get (k := 7) C w wX_c4 rfl inz3 (by decide) hl rfl rfl hdg kk
theorem xp_4_7 (C : CallFix p m c cc nL s args (c0 :: zw_all) own) (w : zg_W D cs A s (wX q cs u) H locs) {v : Int32} (hl : Cond.fieldLink own index RX3 "wanted" "I" ∈ zw_all) (hdg : decode cc pc = .ok (.putfield index, 3)) (kk : ∀ (H1 : Heap) (locs1 : List Loc), zg_W D cs A s (wX q cs (zs_si u 9 v)) H1 locs1 → W p l e R s m args below meth c H1 locs1 cells slots Q (F0 m (pc + 3) ls rest)) : W p l e R s m args below meth c H locs cells slots Q (F0 m pc ls (.int v :: .ref (q 4) :: rest)) := zr_put (k := 7) (ty := .int) C w wX_c4 rfl inz3 tyX3 tyX3_ok nmX3 (by decide) hl rfl rfl (by decide +kernel) rfl rfl (Nat.le_of_ble_eq_true rfl) rfl hdg kk
theorem xg_4_8 (C : CallFix p m c cc nL s args (c0 :: zw_all) own) (w : zg_W D cs A s (wX q cs u) H locs) (hl : Cond.fieldLink own index RX3 "bestHunger" "I" ∈ zw_all) (hdg : decode cc pc = .ok (.getfield index, 3)) (kk : W p l e R s m args below meth c H locs cells slots Q (F0 m (pc + 3) ls (.int (zs_i u 10) :: rest))) : W p l e R s m args below meth c H locs cells slots Q (F0 m pc ls (.ref (q 4) :: rest)) := zr_get (k := 8) C w wX_c4 rfl inz3 (by decide) hl rfl rfl hdg kk
theorem xp_4_8 (C : CallFix p m c cc nL s args (c0 :: zw_all) own) (w : zg_W D cs A s (wX q cs u) H locs) {v : Int32} (hl : Cond.fieldLink own index RX3 "bestHunger" "I" ∈ zw_all) (hdg : decode cc pc = .ok (.putfield index, 3)) (kk : ∀ (H1 : Heap) (locs1 : List Loc), zg_W D cs A s (wX q cs (zs_si u 10 v)) H1 locs1 → W p l e R s m args below meth c H1 locs1 cells slots Q (F0 m (pc + 3) ls rest)) : W p l e R s m args below meth c H locs cells slots Q (F0 m pc ls (.int v :: .ref (q 4) :: rest)) := zr_put (k := 8) (ty := .int) C w wX_c4 rfl inz3 tyX3 tyX3_ok nmX3 (by decide) hl rfl rfl (by decide +kernel) rfl rfl (Nat.le_of_ble_eq_true rfl) rfl hdg kk
theorem xg_4_9 (C : CallFix p m c cc nL s args (c0 :: zw_all) own) (w : zg_W D cs A s (wX q cs u) H locs) (hl : Cond.fieldLink own index RX3 "bestGrass" "I" ∈ zw_all) (hdg : decode cc pc = .ok (.getfield index, 3)) (kk : W p l e R s m args below meth c H locs cells slots Q (F0 m (pc + 3) ls (.int (zs_i u 11) :: rest))) : W p l e R s m args below meth c H locs cells slots Q (F0 m pc ls (.ref (q 4) :: rest)) := zr_get (k := 9) C w wX_c4 rfl inz3 (by decide) hl rfl rfl hdg kk
theorem xp_4_9 (C : CallFix p m c cc nL s args (c0 :: zw_all) own) (w : zg_W D cs A s (wX q cs u) H locs) {v : Int32} (hl : Cond.fieldLink own index RX3 "bestGrass" "I" ∈ zw_all) (hdg : decode cc pc = .ok (.putfield index, 3)) (kk : ∀ (H1 : Heap) (locs1 : List Loc), zg_W D cs A s (wX q cs (zs_si u 11 v)) H1 locs1 → W p l e R s m args below meth c H1 locs1 cells slots Q (F0 m (pc + 3) ls rest)) : W p l e R s m args below meth c H locs cells slots Q (F0 m pc ls (.int v :: .ref (q 4) :: rest)) := zr_put (k := 9) (ty := .int) C w wX_c4 rfl inz3 tyX3 tyX3_ok nmX3 (by decide) hl rfl rfl (by decide +kernel) rfl rfl (Nat.le_of_ble_eq_true rfl) rfl hdg kk
theorem rcX_5 : zc_rc (wX q cs) u (q 5) RX4 := ⟨5, 4, _, _, wX_c5, rfl, rfl⟩
theorem xg_5_0 (C : CallFix p m c cc nL s args (c0 :: zw_all) own) (w : zg_W D cs A s (wX q cs u) H locs) (hl : Cond.fieldLink own index RX4 "firstOwnerOf" "[I" ∈ zw_all) (hdg : decode cc pc = .ok (.getfield index, 3)) (kk : W p l e R s m args below meth c H locs cells slots Q (F0 m (pc + 3) ls (.ref (q 20) :: rest))) : W p l e R s m args below meth c H locs cells slots Q (F0 m pc ls (.ref (q 5) :: rest)) := zr_get (k := 0) C w wX_c5 rfl inz4 (by decide) hl rfl rfl hdg kk
theorem xg_5_1 (C : CallFix p m c cc nL s args (c0 :: zw_all) own) (w : zg_W D cs A s (wX q cs u) H locs) (hl : Cond.fieldLink own index RX4 "gone" "[Z" ∈ zw_all) (hdg : decode cc pc = .ok (.getfield index, 3)) (kk : W p l e R s m args below meth c H locs cells slots Q (F0 m (pc + 3) ls (.ref (q 21) :: rest))) : W p l e R s m args below meth c H locs cells slots Q (F0 m pc ls (.ref (q 5) :: rest)) := zr_get (k := 1) C w wX_c5 rfl inz4 (by decide) hl rfl rfl hdg kk
theorem xg_5_2 (C : CallFix p m c cc nL s args (c0 :: zw_all) own) (w : zg_W D cs A s (wX q cs u) H locs) (hl : Cond.fieldLink own index RX4 "size" "I" ∈ zw_all) (hdg : decode cc pc = .ok (.getfield index, 3)) (kk : W p l e R s m args below meth c H locs cells slots Q (F0 m (pc + 3) ls (.int (zs_i u 12) :: rest))) : W p l e R s m args below meth c H locs cells slots Q (F0 m pc ls (.ref (q 5) :: rest)) := zr_get (k := 2) C w wX_c5 rfl inz4 (by decide) hl rfl rfl hdg kk
theorem xp_5_2 (C : CallFix p m c cc nL s args (c0 :: zw_all) own) (w : zg_W D cs A s (wX q cs u) H locs) {v : Int32} (hl : Cond.fieldLink own index RX4 "size" "I" ∈ zw_all) (hdg : decode cc pc = .ok (.putfield index, 3)) (kk : ∀ (H1 : Heap) (locs1 : List Loc), zg_W D cs A s (wX q cs (zs_si u 12 v)) H1 locs1 → W p l e R s m args below meth c H1 locs1 cells slots Q (F0 m (pc + 3) ls rest)) : W p l e R s m args below meth c H locs cells slots Q (F0 m pc ls (.int v :: .ref (q 5) :: rest)) := zr_put (k := 2) (ty := .int) C w wX_c5 rfl inz4 tyX4 tyX4_ok nmX4 (by decide) hl rfl rfl (by decide +kernel) rfl rfl (Nat.le_of_ble_eq_true rfl) rfl hdg kk
theorem xg_5_3 (C : CallFix p m c cc nL s args (c0 :: zw_all) own) (w : zg_W D cs A s (wX q cs u) H locs) (hl : Cond.fieldLink own index RX4 "actOf" "[I" ∈ zw_all) (hdg : decode cc pc = .ok (.getfield index, 3)) (kk : W p l e R s m args below meth c H locs cells slots Q (F0 m (pc + 3) ls (.ref (q 22) :: rest))) : W p l e R s m args below meth c H locs cells slots Q (F0 m pc ls (.ref (q 5) :: rest)) := zr_get (k := 3) C w wX_c5 rfl inz4 (by decide) hl rfl rfl hdg kk
theorem xg_5_4 (C : CallFix p m c cc nL s args (c0 :: zw_all) own) (w : zg_W D cs A s (wX q cs u) H locs) (hl : Cond.fieldLink own index RX4 "sheepOf" "[I" ∈ zw_all) (hdg : decode cc pc = .ok (.getfield index, 3)) (kk : W p l e R s m args below meth c H locs cells slots Q (F0 m (pc + 3) ls (.ref (q 23) :: rest))) : W p l e R s m args below meth c H locs cells slots Q (F0 m pc ls (.ref (q 5) :: rest)) := zr_get (k := 4) C w wX_c5 rfl inz4 (by decide) hl rfl rfl hdg kk
theorem xg_5_5 (C : CallFix p m c cc nL s args (c0 :: zw_all) own) (w : zg_W D cs A s (wX q cs u) H locs) (hl : Cond.fieldLink own index RX4 "dayOf" "[I" ∈ zw_all) (hdg : decode cc pc = .ok (.getfield index, 3)) (kk : W p l e R s m args below meth c H locs cells slots Q (F0 m (pc + 3) ls (.ref (q 24) :: rest))) : W p l e R s m args below meth c H locs cells slots Q (F0 m pc ls (.ref (q 5) :: rest)) := zr_get (k := 5) C w wX_c5 rfl inz4 (by decide) hl rfl rfl hdg kk
theorem xg_5_6 (C : CallFix p m c cc nL s args (c0 :: zw_all) own) (w : zg_W D cs A s (wX q cs u) H locs) (hl : Cond.fieldLink own index RX4 "buyerOf" "[I" ∈ zw_all) (hdg : decode cc pc = .ok (.getfield index, 3)) (kk : W p l e R s m args below meth c H locs cells slots Q (F0 m (pc + 3) ls (.ref (q 25) :: rest))) : W p l e R s m args below meth c H locs cells slots Q (F0 m pc ls (.ref (q 5) :: rest)) := zr_get (k := 6) C w wX_c5 rfl inz4 (by decide) hl rfl rfl hdg kk
theorem xg_5_7 (C : CallFix p m c cc nL s args (c0 :: zw_all) own) (w : zg_W D cs A s (wX q cs u) H locs) (hl : Cond.fieldLink own index RX4 "order" "[I" ∈ zw_all) (hdg : decode cc pc = .ok (.getfield index, 3)) (kk : W p l e R s m args below meth c H locs cells slots Q (F0 m (pc + 3) ls (.ref (q 26) :: rest))) : W p l e R s m args below meth c H locs cells slots Q (F0 m pc ls (.ref (q 5) :: rest)) := zr_get (k := 7) C w wX_c5 rfl inz4 (by decide) hl rfl rfl hdg kk
theorem xg_5_8 (C : CallFix p m c cc nL s args (c0 :: zw_all) own) (w : zg_W D cs A s (wX q cs u) H locs) (hl : Cond.fieldLink own index RX4 "entries" "I" ∈ zw_all) (hdg : decode cc pc = .ok (.getfield index, 3)) (kk : W p l e R s m args below meth c H locs cells slots Q (F0 m (pc + 3) ls (.int (zs_i u 13) :: rest))) : W p l e R s m args below meth c H locs cells slots Q (F0 m pc ls (.ref (q 5) :: rest)) := zr_get (k := 8) C w wX_c5 rfl inz4 (by decide) hl rfl rfl hdg kk
theorem xp_5_8 (C : CallFix p m c cc nL s args (c0 :: zw_all) own) (w : zg_W D cs A s (wX q cs u) H locs) {v : Int32} (hl : Cond.fieldLink own index RX4 "entries" "I" ∈ zw_all) (hdg : decode cc pc = .ok (.putfield index, 3)) (kk : ∀ (H1 : Heap) (locs1 : List Loc), zg_W D cs A s (wX q cs (zs_si u 13 v)) H1 locs1 → W p l e R s m args below meth c H1 locs1 cells slots Q (F0 m (pc + 3) ls rest)) : W p l e R s m args below meth c H locs cells slots Q (F0 m pc ls (.int v :: .ref (q 5) :: rest)) := zr_put (k := 8) (ty := .int) C w wX_c5 rfl inz4 tyX4 tyX4_ok nmX4 (by decide) hl rfl rfl (by decide +kernel) rfl rfl (Nat.le_of_ble_eq_true rfl) rfl hdg kk
theorem rcX_6 : zc_rc (wX q cs) u (q 6) RX7 := ⟨6, 7, _, _, wX_c6, rfl, rfl⟩
theorem xg_6_0 (C : CallFix p m c cc nL s args (c0 :: zw_all) own) (w : zg_W D cs A s (wX q cs u) H locs) (hl : Cond.fieldLink own index RX7 "owner" "I" ∈ zw_all) (hdg : decode cc pc = .ok (.getfield index, 3)) (kk : W p l e R s m args below meth c H locs cells slots Q (F0 m (pc + 3) ls (.int (zs_i u 14) :: rest))) : W p l e R s m args below meth c H locs cells slots Q (F0 m pc ls (.ref (q 6) :: rest)) := zr_get (k := 0) C w wX_c6 rfl inz7 (by decide) hl rfl rfl hdg kk
theorem xp_6_0 (C : CallFix p m c cc nL s args (c0 :: zw_all) own) (w : zg_W D cs A s (wX q cs u) H locs) {v : Int32} (hl : Cond.fieldLink own index RX7 "owner" "I" ∈ zw_all) (hdg : decode cc pc = .ok (.putfield index, 3)) (kk : ∀ (H1 : Heap) (locs1 : List Loc), zg_W D cs A s (wX q cs (zs_si u 14 v)) H1 locs1 → W p l e R s m args below meth c H1 locs1 cells slots Q (F0 m (pc + 3) ls rest)) : W p l e R s m args below meth c H locs cells slots Q (F0 m pc ls (.int v :: .ref (q 6) :: rest)) := zr_put (k := 0) (ty := .int) C w wX_c6 rfl inz7 tyX7 tyX7_ok nmX7 (by decide) hl rfl rfl (by decide +kernel) rfl rfl (Nat.le_of_ble_eq_true rfl) rfl hdg kk
theorem xg_6_1 (C : CallFix p m c cc nL s args (c0 :: zw_all) own) (w : zg_W D cs A s (wX q cs u) H locs) (hl : Cond.fieldLink own index RX7 "up" "Z" ∈ zw_all) (hdg : decode cc pc = .ok (.getfield index, 3)) (kk : W p l e R s m args below meth c H locs cells slots Q (F0 m (pc + 3) ls (.int (zs_i u 15) :: rest))) : W p l e R s m args below meth c H locs cells slots Q (F0 m pc ls (.ref (q 6) :: rest)) := zr_get (k := 1) C w wX_c6 rfl inz7 (by decide) hl rfl rfl hdg kk
theorem xp_6_1 (C : CallFix p m c cc nL s args (c0 :: zw_all) own) (w : zg_W D cs A s (wX q cs u) H locs) {v : Int32} (hz : zf_z v = true) (hl : Cond.fieldLink own index RX7 "up" "Z" ∈ zw_all) (hdg : decode cc pc = .ok (.putfield index, 3)) (kk : ∀ (H1 : Heap) (locs1 : List Loc), zg_W D cs A s (wX q cs (zs_si u 15 v)) H1 locs1 → W p l e R s m args below meth c H1 locs1 cells slots Q (F0 m (pc + 3) ls rest)) : W p l e R s m args below meth c H locs cells slots Q (F0 m pc ls (.int v :: .ref (q 6) :: rest)) := zr_put (k := 1) (ty := .boolean) C w wX_c6 rfl inz7 tyX7 tyX7_ok nmX7 (by decide) hl rfl rfl (by decide +kernel) (zf_z_nar hz) (zf_z_fit hz) (Nat.le_of_ble_eq_true rfl) rfl hdg kk
theorem xg_6_2 (C : CallFix p m c cc nL s args (c0 :: zw_all) own) (w : zg_W D cs A s (wX q cs u) H locs) (hl : Cond.fieldLink own index RX7 "dead" "Z" ∈ zw_all) (hdg : decode cc pc = .ok (.getfield index, 3)) (kk : W p l e R s m args below meth c H locs cells slots Q (F0 m (pc + 3) ls (.int (zs_i u 16) :: rest))) : W p l e R s m args below meth c H locs cells slots Q (F0 m pc ls (.ref (q 6) :: rest)) := zr_get (k := 2) C w wX_c6 rfl inz7 (by decide) hl rfl rfl hdg kk
theorem xp_6_2 (C : CallFix p m c cc nL s args (c0 :: zw_all) own) (w : zg_W D cs A s (wX q cs u) H locs) {v : Int32} (hz : zf_z v = true) (hl : Cond.fieldLink own index RX7 "dead" "Z" ∈ zw_all) (hdg : decode cc pc = .ok (.putfield index, 3)) (kk : ∀ (H1 : Heap) (locs1 : List Loc), zg_W D cs A s (wX q cs (zs_si u 16 v)) H1 locs1 → W p l e R s m args below meth c H1 locs1 cells slots Q (F0 m (pc + 3) ls rest)) : W p l e R s m args below meth c H locs cells slots Q (F0 m pc ls (.int v :: .ref (q 6) :: rest)) := zr_put (k := 2) (ty := .boolean) C w wX_c6 rfl inz7 tyX7 tyX7_ok nmX7 (by decide) hl rfl rfl (by decide +kernel) (zf_z_nar hz) (zf_z_fit hz) (Nat.le_of_ble_eq_true rfl) rfl hdg kk
theorem xg_6_3 (C : CallFix p m c cc nL s args (c0 :: zw_all) own) (w : zg_W D cs A s (wX q cs u) H locs) (hl : Cond.fieldLink own index RX7 "daysUp" "I" ∈ zw_all) (hdg : decode cc pc = .ok (.getfield index, 3)) (kk : W p l e R s m args below meth c H locs cells slots Q (F0 m (pc + 3) ls (.int (zs_i u 17) :: rest))) : W p l e R s m args below meth c H locs cells slots Q (F0 m pc ls (.ref (q 6) :: rest)) := zr_get (k := 3) C w wX_c6 rfl inz7 (by decide) hl rfl rfl hdg kk
theorem xp_6_3 (C : CallFix p m c cc nL s args (c0 :: zw_all) own) (w : zg_W D cs A s (wX q cs u) H locs) {v : Int32} (hl : Cond.fieldLink own index RX7 "daysUp" "I" ∈ zw_all) (hdg : decode cc pc = .ok (.putfield index, 3)) (kk : ∀ (H1 : Heap) (locs1 : List Loc), zg_W D cs A s (wX q cs (zs_si u 17 v)) H1 locs1 → W p l e R s m args below meth c H1 locs1 cells slots Q (F0 m (pc + 3) ls rest)) : W p l e R s m args below meth c H locs cells slots Q (F0 m pc ls (.int v :: .ref (q 6) :: rest)) := zr_put (k := 3) (ty := .int) C w wX_c6 rfl inz7 tyX7 tyX7_ok nmX7 (by decide) hl rfl rfl (by decide +kernel) rfl rfl (Nat.le_of_ble_eq_true rfl) rfl hdg kk
theorem xg_6_4 (C : CallFix p m c cc nL s args (c0 :: zw_all) own) (w : zg_W D cs A s (wX q cs u) H locs) (hl : Cond.fieldLink own index RX7 "daysHad" "[I" ∈ zw_all) (hdg : decode cc pc = .ok (.getfield index, 3)) (kk : W p l e R s m args below meth c H locs cells slots Q (F0 m (pc + 3) ls (.ref (q 27) :: rest))) : W p l e R s m args below meth c H locs cells slots Q (F0 m pc ls (.ref (q 6) :: rest)) := zr_get (k := 4) C w wX_c6 rfl inz7 (by decide) hl rfl rfl hdg kk
theorem xg_6_5 (C : CallFix p m c cc nL s args (c0 :: zw_all) own) (w : zg_W D cs A s (wX q cs u) H locs) (hl : Cond.fieldLink own index RX7 "firstUntold" "I" ∈ zw_all) (hdg : decode cc pc = .ok (.getfield index, 3)) (kk : W p l e R s m args below meth c H locs cells slots Q (F0 m (pc + 3) ls (.int (zs_i u 18) :: rest))) : W p l e R s m args below meth c H locs cells slots Q (F0 m pc ls (.ref (q 6) :: rest)) := zr_get (k := 5) C w wX_c6 rfl inz7 (by decide) hl rfl rfl hdg kk
theorem xp_6_5 (C : CallFix p m c cc nL s args (c0 :: zw_all) own) (w : zg_W D cs A s (wX q cs u) H locs) {v : Int32} (hl : Cond.fieldLink own index RX7 "firstUntold" "I" ∈ zw_all) (hdg : decode cc pc = .ok (.putfield index, 3)) (kk : ∀ (H1 : Heap) (locs1 : List Loc), zg_W D cs A s (wX q cs (zs_si u 18 v)) H1 locs1 → W p l e R s m args below meth c H1 locs1 cells slots Q (F0 m (pc + 3) ls rest)) : W p l e R s m args below meth c H locs cells slots Q (F0 m pc ls (.int v :: .ref (q 6) :: rest)) := zr_put (k := 5) (ty := .int) C w wX_c6 rfl inz7 tyX7 tyX7_ok nmX7 (by decide) hl rfl rfl (by decide +kernel) rfl rfl (Nat.le_of_ble_eq_true rfl) rfl hdg kk
theorem rcX_7 : zc_rc (wX q cs) u (q 7) RX0 := ⟨7, 0, _, _, wX_c7, rfl, rfl⟩
theorem xg_7_0 (C : CallFix p m c cc nL s args (c0 :: zw_all) own) (w : zg_W D cs A s (wX q cs u) H locs) (hl : Cond.fieldLink own index RX0 "milkOf" "[I" ∈ zw_all) (hdg : decode cc pc = .ok (.getfield index, 3)) (kk : W p l e R s m args below meth c H locs cells slots Q (F0 m (pc + 3) ls (.ref (q 28) :: rest))) : W p l e R s m args below meth c H locs cells slots Q (F0 m pc ls (.ref (q 7) :: rest)) := zr_get (k := 0) C w wX_c7 rfl inz0 (by decide) hl rfl rfl hdg kk
theorem xg_7_1 (C : CallFix p m c cc nL s args (c0 :: zw_all) own) (w : zg_W D cs A s (wX q cs u) H locs) (hl : Cond.fieldLink own index RX0 "partOf" "[I" ∈ zw_all) (hdg : decode cc pc = .ok (.getfield index, 3)) (kk : W p l e R s m args below meth c H locs cells slots Q (F0 m (pc + 3) ls (.ref (q 29) :: rest))) : W p l e R s m args below meth c H locs cells slots Q (F0 m pc ls (.ref (q 7) :: rest)) := zr_get (k := 1) C w wX_c7 rfl inz0 (by decide) hl rfl rfl hdg kk
theorem xg_7_2 (C : CallFix p m c cc nL s args (c0 :: zw_all) own) (w : zg_W D cs A s (wX q cs u) H locs) (hl : Cond.fieldLink own index RX0 "milkingDay" "I" ∈ zw_all) (hdg : decode cc pc = .ok (.getfield index, 3)) (kk : W p l e R s m args below meth c H locs cells slots Q (F0 m (pc + 3) ls (.int (zs_i u 19) :: rest))) : W p l e R s m args below meth c H locs cells slots Q (F0 m pc ls (.ref (q 7) :: rest)) := zr_get (k := 2) C w wX_c7 rfl inz0 (by decide) hl rfl rfl hdg kk
theorem xp_7_2 (C : CallFix p m c cc nL s args (c0 :: zw_all) own) (w : zg_W D cs A s (wX q cs u) H locs) {v : Int32} (hl : Cond.fieldLink own index RX0 "milkingDay" "I" ∈ zw_all) (hdg : decode cc pc = .ok (.putfield index, 3)) (kk : ∀ (H1 : Heap) (locs1 : List Loc), zg_W D cs A s (wX q cs (zs_si u 19 v)) H1 locs1 → W p l e R s m args below meth c H1 locs1 cells slots Q (F0 m (pc + 3) ls rest)) : W p l e R s m args below meth c H locs cells slots Q (F0 m pc ls (.int v :: .ref (q 7) :: rest)) := zr_put (k := 2) (ty := .int) C w wX_c7 rfl inz0 tyX0 tyX0_ok nmX0 (by decide) hl rfl rfl (by decide +kernel) rfl rfl (Nat.le_of_ble_eq_true rfl) rfl hdg kk
theorem rcX_8 : zc_rc (wX q cs) u (q 8) RX1 := ⟨8, 1, _, _, wX_c8, rfl, rfl⟩
theorem xg_8_0 (C : CallFix p m c cc nL s args (c0 :: zw_all) own) (w : zg_W D cs A s (wX q cs u) H locs) (hl : Cond.fieldLink own index RX1 "cheesesOf" "[J" ∈ zw_all) (hdg : decode cc pc = .ok (.getfield index, 3)) (kk : W p l e R s m args below meth c H locs cells slots Q (F0 m (pc + 3) ls (.ref (q 30) :: rest))) : W p l e R s m args below meth c H locs cells slots Q (F0 m pc ls (.ref (q 8) :: rest)) := zr_get (k := 0) C w wX_c8 rfl inz1 (by decide) hl rfl rfl hdg kk
theorem xg_8_1 (C : CallFix p m c cc nL s args (c0 :: zw_all) own) (w : zg_W D cs A s (wX q cs u) H locs) (hl : Cond.fieldLink own index RX1 "latestOf" "[I" ∈ zw_all) (hdg : decode cc pc = .ok (.getfield index, 3)) (kk : W p l e R s m args below meth c H locs cells slots Q (F0 m (pc + 3) ls (.ref (q 31) :: rest))) : W p l e R s m args below meth c H locs cells slots Q (F0 m pc ls (.ref (q 8) :: rest)) := zr_get (k := 1) C w wX_c8 rfl inz1 (by decide) hl rfl rfl hdg kk
theorem xg_8_2 (C : CallFix p m c cc nL s args (c0 :: zw_all) own) (w : zg_W D cs A s (wX q cs u) H locs) (hl : Cond.fieldLink own index RX1 "balanceOf" "[J" ∈ zw_all) (hdg : decode cc pc = .ok (.getfield index, 3)) (kk : W p l e R s m args below meth c H locs cells slots Q (F0 m (pc + 3) ls (.ref (q 32) :: rest))) : W p l e R s m args below meth c H locs cells slots Q (F0 m pc ls (.ref (q 8) :: rest)) := zr_get (k := 2) C w wX_c8 rfl inz1 (by decide) hl rfl rfl hdg kk
theorem xg_8_3 (C : CallFix p m c cc nL s args (c0 :: zw_all) own) (w : zg_W D cs A s (wX q cs u) H locs) (hl : Cond.fieldLink own index RX1 "moneyOf" "[J" ∈ zw_all) (hdg : decode cc pc = .ok (.getfield index, 3)) (kk : W p l e R s m args below meth c H locs cells slots Q (F0 m (pc + 3) ls (.ref (q 33) :: rest))) : W p l e R s m args below meth c H locs cells slots Q (F0 m pc ls (.ref (q 8) :: rest)) := zr_get (k := 3) C w wX_c8 rfl inz1 (by decide) hl rfl rfl hdg kk
theorem xg_8_4 (C : CallFix p m c cc nL s args (c0 :: zw_all) own) (w : zg_W D cs A s (wX q cs u) H locs) (hl : Cond.fieldLink own index RX1 "ownPaid" "J" ∈ zw_all) (hdg : decode cc pc = .ok (.getfield index, 3)) (kk : W p l e R s m args below meth c H locs cells slots Q (F0 m (pc + 3) ls (.long (zs_l u 1) :: rest))) : W p l e R s m args below meth c H locs cells slots Q (F0 m pc ls (.ref (q 8) :: rest)) := zr_get (k := 4) C w wX_c8 rfl inz1 (by decide) hl rfl rfl hdg kk
theorem xp_8_4 (C : CallFix p m c cc nL s args (c0 :: zw_all) own) (w : zg_W D cs A s (wX q cs u) H locs) {v : Int64} (hl : Cond.fieldLink own index RX1 "ownPaid" "J" ∈ zw_all) (hdg : decode cc pc = .ok (.putfield index, 3)) (kk : ∀ (H1 : Heap) (locs1 : List Loc), zg_W D cs A s (wX q cs (zs_sl u 1 v)) H1 locs1 → W p l e R s m args below meth c H1 locs1 cells slots Q (F0 m (pc + 3) ls rest)) : W p l e R s m args below meth c H locs cells slots Q (F0 m pc ls (.long v :: .ref (q 8) :: rest)) := zr_put (k := 4) (ty := .long) C w wX_c8 rfl inz1 tyX1 tyX1_ok nmX1 (by decide) hl rfl rfl (by decide +kernel) rfl rfl (Nat.le_of_ble_eq_true rfl) rfl hdg kk
theorem xg_8_5 (C : CallFix p m c cc nL s args (c0 :: zw_all) own) (w : zg_W D cs A s (wX q cs u) H locs) (hl : Cond.fieldLink own index RX1 "turn" "[I" ∈ zw_all) (hdg : decode cc pc = .ok (.getfield index, 3)) (kk : W p l e R s m args below meth c H locs cells slots Q (F0 m (pc + 3) ls (.ref (q 34) :: rest))) : W p l e R s m args below meth c H locs cells slots Q (F0 m pc ls (.ref (q 8) :: rest)) := zr_get (k := 5) C w wX_c8 rfl inz1 (by decide) hl rfl rfl hdg kk
theorem xg_8_6 (C : CallFix p m c cc nL s args (c0 :: zw_all) own) (w : zg_W D cs A s (wX q cs u) H locs) (hl : Cond.fieldLink own index RX1 "paidOut" "J" ∈ zw_all) (hdg : decode cc pc = .ok (.getfield index, 3)) (kk : W p l e R s m args below meth c H locs cells slots Q (F0 m (pc + 3) ls (.long (zs_l u 2) :: rest))) : W p l e R s m args below meth c H locs cells slots Q (F0 m pc ls (.ref (q 8) :: rest)) := zr_get (k := 6) C w wX_c8 rfl inz1 (by decide) hl rfl rfl hdg kk
theorem xp_8_6 (C : CallFix p m c cc nL s args (c0 :: zw_all) own) (w : zg_W D cs A s (wX q cs u) H locs) {v : Int64} (hl : Cond.fieldLink own index RX1 "paidOut" "J" ∈ zw_all) (hdg : decode cc pc = .ok (.putfield index, 3)) (kk : ∀ (H1 : Heap) (locs1 : List Loc), zg_W D cs A s (wX q cs (zs_sl u 2 v)) H1 locs1 → W p l e R s m args below meth c H1 locs1 cells slots Q (F0 m (pc + 3) ls rest)) : W p l e R s m args below meth c H locs cells slots Q (F0 m pc ls (.long v :: .ref (q 8) :: rest)) := zr_put (k := 6) (ty := .long) C w wX_c8 rfl inz1 tyX1 tyX1_ok nmX1 (by decide) hl rfl rfl (by decide +kernel) rfl rfl (Nat.le_of_ble_eq_true rfl) rfl hdg kk
theorem xa_9 (C : CallFix p m c cc nL s args (c0 :: zw_all) own) (w : zg_W D cs A s (wX q cs u) H locs) {i : Int32} (hi : zf_in i 40 = true) (hdg : decode cc pc = .ok (.iaload, 1)) (kk : W p l e R s m args below meth c H locs cells slots Q (F0 m (pc + 1) ls (.int (zs_a u 0 i.toNatClampNeg) :: rest))) : W p l e R s m args below meth c H locs cells slots Q (F0 m pc ls (.int i :: .ref (q 9) :: rest)) := zr_iald C w wX_c9 hi hdg kk
theorem wX_s9 {q : Nat → Nat} {cs : Nat → ClassId} {u : zs_T} {f : Nat → Int32} : (wX q cs u).set 9 (q 9, .inl (cs 0, 40, .inl f)) = wX q cs (zs_sa u 0 f) := rfl
theorem xs_9 (C : CallFix p m c cc nL s args (c0 :: zw_all) own) (w : zg_W D cs A s (wX q cs u) H locs) {i : Int32} {x : Int32} (hi : zf_in i 40 = true) (hdg : decode cc pc = .ok (.iastore, 1)) (kk : ∀ (H1 : Heap) (locs1 : List Loc), zg_W D cs A s (wX q cs (zs_sa u 0 (upd (zs_a u 0) i.toNatClampNeg x))) H1 locs1 → W p l e R s m args below meth c H1 locs1 cells slots Q (F0 m (pc + 1) ls rest)) : W p l e R s m args below meth c H locs cells slots Q (F0 m pc ls (.int x :: .int i :: .ref (q 9) :: rest)) := zr_iast C w wX_c9 hi wX_s9 hdg kk
theorem xa_10 (C : CallFix p m c cc nL s args (c0 :: zw_all) own) (w : zg_W D cs A s (wX q cs u) H locs) {i : Int32} (hi : zf_in i 4 = true) (hdg : decode cc pc = .ok (.iaload, 1)) (kk : W p l e R s m args below meth c H locs cells slots Q (F0 m (pc + 1) ls (.int (zs_a u 1 i.toNatClampNeg) :: rest))) : W p l e R s m args below meth c H locs cells slots Q (F0 m pc ls (.int i :: .ref (q 10) :: rest)) := zr_iald C w wX_c10 hi hdg kk
theorem wX_s10 {q : Nat → Nat} {cs : Nat → ClassId} {u : zs_T} {f : Nat → Int32} : (wX q cs u).set 10 (q 10, .inl (cs 0, 4, .inl f)) = wX q cs (zs_sa u 1 f) := rfl
theorem xs_10 (C : CallFix p m c cc nL s args (c0 :: zw_all) own) (w : zg_W D cs A s (wX q cs u) H locs) {i : Int32} {x : Int32} (hi : zf_in i 4 = true) (hdg : decode cc pc = .ok (.iastore, 1)) (kk : ∀ (H1 : Heap) (locs1 : List Loc), zg_W D cs A s (wX q cs (zs_sa u 1 (upd (zs_a u 1) i.toNatClampNeg x))) H1 locs1 → W p l e R s m args below meth c H1 locs1 cells slots Q (F0 m (pc + 1) ls rest)) : W p l e R s m args below meth c H locs cells slots Q (F0 m pc ls (.int x :: .int i :: .ref (q 10) :: rest)) := zr_iast C w wX_c10 hi wX_s10 hdg kk
theorem xa_11 (C : CallFix p m c cc nL s args (c0 :: zw_all) own) (w : zg_W D cs A s (wX q cs u) H locs) {i : Int32} (hi : zf_in i 4 = true) (hdg : decode cc pc = .ok (.iaload, 1)) (kk : W p l e R s m args below meth c H locs cells slots Q (F0 m (pc + 1) ls (.int (zs_a u 2 i.toNatClampNeg) :: rest))) : W p l e R s m args below meth c H locs cells slots Q (F0 m pc ls (.int i :: .ref (q 11) :: rest)) := zr_iald C w wX_c11 hi hdg kk
theorem wX_s11 {q : Nat → Nat} {cs : Nat → ClassId} {u : zs_T} {f : Nat → Int32} : (wX q cs u).set 11 (q 11, .inl (cs 0, 4, .inl f)) = wX q cs (zs_sa u 2 f) := rfl
theorem xs_11 (C : CallFix p m c cc nL s args (c0 :: zw_all) own) (w : zg_W D cs A s (wX q cs u) H locs) {i : Int32} {x : Int32} (hi : zf_in i 4 = true) (hdg : decode cc pc = .ok (.iastore, 1)) (kk : ∀ (H1 : Heap) (locs1 : List Loc), zg_W D cs A s (wX q cs (zs_sa u 2 (upd (zs_a u 2) i.toNatClampNeg x))) H1 locs1 → W p l e R s m args below meth c H1 locs1 cells slots Q (F0 m (pc + 1) ls rest)) : W p l e R s m args below meth c H locs cells slots Q (F0 m pc ls (.int x :: .int i :: .ref (q 11) :: rest)) := zr_iast C w wX_c11 hi wX_s11 hdg kk
theorem xa_12 (C : CallFix p m c cc nL s args (c0 :: zw_all) own) (w : zg_W D cs A s (wX q cs u) H locs) {i : Int32} (hi : zf_in i 6 = true) (hdg : decode cc pc = .ok (.iaload, 1)) (kk : W p l e R s m args below meth c H locs cells slots Q (F0 m (pc + 1) ls (.int (zs_a u 3 i.toNatClampNeg) :: rest))) : W p l e R s m args below meth c H locs cells slots Q (F0 m pc ls (.int i :: .ref (q 12) :: rest)) := zr_iald C w wX_c12 hi hdg kk
theorem wX_s12 {q : Nat → Nat} {cs : Nat → ClassId} {u : zs_T} {f : Nat → Int32} : (wX q cs u).set 12 (q 12, .inl (cs 0, 6, .inl f)) = wX q cs (zs_sa u 3 f) := rfl
theorem xs_12 (C : CallFix p m c cc nL s args (c0 :: zw_all) own) (w : zg_W D cs A s (wX q cs u) H locs) {i : Int32} {x : Int32} (hi : zf_in i 6 = true) (hdg : decode cc pc = .ok (.iastore, 1)) (kk : ∀ (H1 : Heap) (locs1 : List Loc), zg_W D cs A s (wX q cs (zs_sa u 3 (upd (zs_a u 3) i.toNatClampNeg x))) H1 locs1 → W p l e R s m args below meth c H1 locs1 cells slots Q (F0 m (pc + 1) ls rest)) : W p l e R s m args below meth c H locs cells slots Q (F0 m pc ls (.int x :: .int i :: .ref (q 12) :: rest)) := zr_iast C w wX_c12 hi wX_s12 hdg kk
theorem xa_13 (C : CallFix p m c cc nL s args (c0 :: zw_all) own) (w : zg_W D cs A s (wX q cs u) H locs) {i : Int32} (hi : zf_in i 6 = true) (hdg : decode cc pc = .ok (.iaload, 1)) (kk : W p l e R s m args below meth c H locs cells slots Q (F0 m (pc + 1) ls (.int (zs_a u 4 i.toNatClampNeg) :: rest))) : W p l e R s m args below meth c H locs cells slots Q (F0 m pc ls (.int i :: .ref (q 13) :: rest)) := zr_iald C w wX_c13 hi hdg kk
theorem wX_s13 {q : Nat → Nat} {cs : Nat → ClassId} {u : zs_T} {f : Nat → Int32} : (wX q cs u).set 13 (q 13, .inl (cs 0, 6, .inl f)) = wX q cs (zs_sa u 4 f) := rfl
theorem xs_13 (C : CallFix p m c cc nL s args (c0 :: zw_all) own) (w : zg_W D cs A s (wX q cs u) H locs) {i : Int32} {x : Int32} (hi : zf_in i 6 = true) (hdg : decode cc pc = .ok (.iastore, 1)) (kk : ∀ (H1 : Heap) (locs1 : List Loc), zg_W D cs A s (wX q cs (zs_sa u 4 (upd (zs_a u 4) i.toNatClampNeg x))) H1 locs1 → W p l e R s m args below meth c H1 locs1 cells slots Q (F0 m (pc + 1) ls rest)) : W p l e R s m args below meth c H locs cells slots Q (F0 m pc ls (.int x :: .int i :: .ref (q 13) :: rest)) := zr_iast C w wX_c13 hi wX_s13 hdg kk
theorem xa_14 (C : CallFix p m c cc nL s args (c0 :: zw_all) own) (w : zg_W D cs A s (wX q cs u) H locs) {i : Int32} (hi : zf_in i 6 = true) (hdg : decode cc pc = .ok (.iaload, 1)) (kk : W p l e R s m args below meth c H locs cells slots Q (F0 m (pc + 1) ls (.int (zs_a u 5 i.toNatClampNeg) :: rest))) : W p l e R s m args below meth c H locs cells slots Q (F0 m pc ls (.int i :: .ref (q 14) :: rest)) := zr_iald C w wX_c14 hi hdg kk
theorem wX_s14 {q : Nat → Nat} {cs : Nat → ClassId} {u : zs_T} {f : Nat → Int32} : (wX q cs u).set 14 (q 14, .inl (cs 0, 6, .inl f)) = wX q cs (zs_sa u 5 f) := rfl
theorem xs_14 (C : CallFix p m c cc nL s args (c0 :: zw_all) own) (w : zg_W D cs A s (wX q cs u) H locs) {i : Int32} {x : Int32} (hi : zf_in i 6 = true) (hdg : decode cc pc = .ok (.iastore, 1)) (kk : ∀ (H1 : Heap) (locs1 : List Loc), zg_W D cs A s (wX q cs (zs_sa u 5 (upd (zs_a u 5) i.toNatClampNeg x))) H1 locs1 → W p l e R s m args below meth c H1 locs1 cells slots Q (F0 m (pc + 1) ls rest)) : W p l e R s m args below meth c H locs cells slots Q (F0 m pc ls (.int x :: .int i :: .ref (q 14) :: rest)) := zr_iast C w wX_c14 hi wX_s14 hdg kk
theorem xa_15 (C : CallFix p m c cc nL s args (c0 :: zw_all) own) (w : zg_W D cs A s (wX q cs u) H locs) {i : Int32} (hi : zf_in i 8 = true) (hdg : decode cc pc = .ok (.iaload, 1)) (kk : W p l e R s m args below meth c H locs cells slots Q (F0 m (pc + 1) ls (.int (zs_a u 6 i.toNatClampNeg) :: rest))) : W p l e R s m args below meth c H locs cells slots Q (F0 m pc ls (.int i :: .ref (q 15) :: rest)) := zr_iald C w wX_c15 hi hdg kk
theorem wX_s15 {q : Nat → Nat} {cs : Nat → ClassId} {u : zs_T} {f : Nat → Int32} : (wX q cs u).set 15 (q 15, .inl (cs 0, 8, .inl f)) = wX q cs (zs_sa u 6 f) := rfl
theorem xs_15 (C : CallFix p m c cc nL s args (c0 :: zw_all) own) (w : zg_W D cs A s (wX q cs u) H locs) {i : Int32} {x : Int32} (hi : zf_in i 8 = true) (hdg : decode cc pc = .ok (.iastore, 1)) (kk : ∀ (H1 : Heap) (locs1 : List Loc), zg_W D cs A s (wX q cs (zs_sa u 6 (upd (zs_a u 6) i.toNatClampNeg x))) H1 locs1 → W p l e R s m args below meth c H1 locs1 cells slots Q (F0 m (pc + 1) ls rest)) : W p l e R s m args below meth c H locs cells slots Q (F0 m pc ls (.int x :: .int i :: .ref (q 15) :: rest)) := zr_iast C w wX_c15 hi wX_s15 hdg kk
theorem xa_16 (C : CallFix p m c cc nL s args (c0 :: zw_all) own) (w : zg_W D cs A s (wX q cs u) H locs) {i : Int32} (hi : zf_in i 8 = true) (hdg : decode cc pc = .ok (.iaload, 1)) (kk : W p l e R s m args below meth c H locs cells slots Q (F0 m (pc + 1) ls (.int (zs_a u 7 i.toNatClampNeg) :: rest))) : W p l e R s m args below meth c H locs cells slots Q (F0 m pc ls (.int i :: .ref (q 16) :: rest)) := zr_iald C w wX_c16 hi hdg kk
theorem wX_s16 {q : Nat → Nat} {cs : Nat → ClassId} {u : zs_T} {f : Nat → Int32} : (wX q cs u).set 16 (q 16, .inl (cs 0, 8, .inl f)) = wX q cs (zs_sa u 7 f) := rfl
theorem xs_16 (C : CallFix p m c cc nL s args (c0 :: zw_all) own) (w : zg_W D cs A s (wX q cs u) H locs) {i : Int32} {x : Int32} (hi : zf_in i 8 = true) (hdg : decode cc pc = .ok (.iastore, 1)) (kk : ∀ (H1 : Heap) (locs1 : List Loc), zg_W D cs A s (wX q cs (zs_sa u 7 (upd (zs_a u 7) i.toNatClampNeg x))) H1 locs1 → W p l e R s m args below meth c H1 locs1 cells slots Q (F0 m (pc + 1) ls rest)) : W p l e R s m args below meth c H locs cells slots Q (F0 m pc ls (.int x :: .int i :: .ref (q 16) :: rest)) := zr_iast C w wX_c16 hi wX_s16 hdg kk
theorem xa_17 (C : CallFix p m c cc nL s args (c0 :: zw_all) own) (w : zg_W D cs A s (wX q cs u) H locs) {i : Int32} (hi : zf_in i 54 = true) (hdg : decode cc pc = .ok (.iaload, 1)) (kk : W p l e R s m args below meth c H locs cells slots Q (F0 m (pc + 1) ls (.int (zs_a u 8 i.toNatClampNeg) :: rest))) : W p l e R s m args below meth c H locs cells slots Q (F0 m pc ls (.int i :: .ref (q 17) :: rest)) := zr_iald C w wX_c17 hi hdg kk
theorem wX_s17 {q : Nat → Nat} {cs : Nat → ClassId} {u : zs_T} {f : Nat → Int32} : (wX q cs u).set 17 (q 17, .inl (cs 0, 54, .inl f)) = wX q cs (zs_sa u 8 f) := rfl
theorem xs_17 (C : CallFix p m c cc nL s args (c0 :: zw_all) own) (w : zg_W D cs A s (wX q cs u) H locs) {i : Int32} {x : Int32} (hi : zf_in i 54 = true) (hdg : decode cc pc = .ok (.iastore, 1)) (kk : ∀ (H1 : Heap) (locs1 : List Loc), zg_W D cs A s (wX q cs (zs_sa u 8 (upd (zs_a u 8) i.toNatClampNeg x))) H1 locs1 → W p l e R s m args below meth c H1 locs1 cells slots Q (F0 m (pc + 1) ls rest)) : W p l e R s m args below meth c H locs cells slots Q (F0 m pc ls (.int x :: .int i :: .ref (q 17) :: rest)) := zr_iast C w wX_c17 hi wX_s17 hdg kk
theorem xa_18 (C : CallFix p m c cc nL s args (c0 :: zw_all) own) (w : zg_W D cs A s (wX q cs u) H locs) {i : Int32} (hi : zf_in i 6 = true) (hdg : decode cc pc = .ok (.iaload, 1)) (kk : W p l e R s m args below meth c H locs cells slots Q (F0 m (pc + 1) ls (.int (zs_a u 9 i.toNatClampNeg) :: rest))) : W p l e R s m args below meth c H locs cells slots Q (F0 m pc ls (.int i :: .ref (q 18) :: rest)) := zr_iald C w wX_c18 hi hdg kk
theorem wX_s18 {q : Nat → Nat} {cs : Nat → ClassId} {u : zs_T} {f : Nat → Int32} : (wX q cs u).set 18 (q 18, .inl (cs 0, 6, .inl f)) = wX q cs (zs_sa u 9 f) := rfl
theorem xs_18 (C : CallFix p m c cc nL s args (c0 :: zw_all) own) (w : zg_W D cs A s (wX q cs u) H locs) {i : Int32} {x : Int32} (hi : zf_in i 6 = true) (hdg : decode cc pc = .ok (.iastore, 1)) (kk : ∀ (H1 : Heap) (locs1 : List Loc), zg_W D cs A s (wX q cs (zs_sa u 9 (upd (zs_a u 9) i.toNatClampNeg x))) H1 locs1 → W p l e R s m args below meth c H1 locs1 cells slots Q (F0 m (pc + 1) ls rest)) : W p l e R s m args below meth c H locs cells slots Q (F0 m pc ls (.int x :: .int i :: .ref (q 18) :: rest)) := zr_iast C w wX_c18 hi wX_s18 hdg kk
theorem xa_19 (C : CallFix p m c cc nL s args (c0 :: zw_all) own) (w : zg_W D cs A s (wX q cs u) H locs) {i : Int32} (hi : zf_in i 6 = true) (hdg : decode cc pc = .ok (.iaload, 1)) (kk : W p l e R s m args below meth c H locs cells slots Q (F0 m (pc + 1) ls (.int (zs_a u 10 i.toNatClampNeg) :: rest))) : W p l e R s m args below meth c H locs cells slots Q (F0 m pc ls (.int i :: .ref (q 19) :: rest)) := zr_iald C w wX_c19 hi hdg kk
theorem wX_s19 {q : Nat → Nat} {cs : Nat → ClassId} {u : zs_T} {f : Nat → Int32} : (wX q cs u).set 19 (q 19, .inl (cs 0, 6, .inl f)) = wX q cs (zs_sa u 10 f) := rfl
theorem xs_19 (C : CallFix p m c cc nL s args (c0 :: zw_all) own) (w : zg_W D cs A s (wX q cs u) H locs) {i : Int32} {x : Int32} (hi : zf_in i 6 = true) (hdg : decode cc pc = .ok (.iastore, 1)) (kk : ∀ (H1 : Heap) (locs1 : List Loc), zg_W D cs A s (wX q cs (zs_sa u 10 (upd (zs_a u 10) i.toNatClampNeg x))) H1 locs1 → W p l e R s m args below meth c H1 locs1 cells slots Q (F0 m (pc + 1) ls rest)) : W p l e R s m args below meth c H locs cells slots Q (F0 m pc ls (.int x :: .int i :: .ref (q 19) :: rest)) := zr_iast C w wX_c19 hi wX_s19 hdg kk
theorem xa_20 (C : CallFix p m c cc nL s args (c0 :: zw_all) own) (w : zg_W D cs A s (wX q cs u) H locs) {i : Int32} (hi : zf_in i 80 = true) (hdg : decode cc pc = .ok (.iaload, 1)) (kk : W p l e R s m args below meth c H locs cells slots Q (F0 m (pc + 1) ls (.int (zs_a u 11 i.toNatClampNeg) :: rest))) : W p l e R s m args below meth c H locs cells slots Q (F0 m pc ls (.int i :: .ref (q 20) :: rest)) := zr_iald C w wX_c20 hi hdg kk
theorem wX_s20 {q : Nat → Nat} {cs : Nat → ClassId} {u : zs_T} {f : Nat → Int32} : (wX q cs u).set 20 (q 20, .inl (cs 0, 80, .inl f)) = wX q cs (zs_sa u 11 f) := rfl
theorem xs_20 (C : CallFix p m c cc nL s args (c0 :: zw_all) own) (w : zg_W D cs A s (wX q cs u) H locs) {i : Int32} {x : Int32} (hi : zf_in i 80 = true) (hdg : decode cc pc = .ok (.iastore, 1)) (kk : ∀ (H1 : Heap) (locs1 : List Loc), zg_W D cs A s (wX q cs (zs_sa u 11 (upd (zs_a u 11) i.toNatClampNeg x))) H1 locs1 → W p l e R s m args below meth c H1 locs1 cells slots Q (F0 m (pc + 1) ls rest)) : W p l e R s m args below meth c H locs cells slots Q (F0 m pc ls (.int x :: .int i :: .ref (q 20) :: rest)) := zr_iast C w wX_c20 hi wX_s20 hdg kk
theorem xa_21 (C : CallFix p m c cc nL s args (c0 :: zw_all) own) (w : zg_W D cs A s (wX q cs u) H locs) {i : Int32} (hi : zf_in i 80 = true) (hdg : decode cc pc = .ok (.baload, 1)) (kk : W p l e R s m args below meth c H locs cells slots Q (F0 m (pc + 1) ls (.int (zs_a u 12 i.toNatClampNeg) :: rest))) : W p l e R s m args below meth c H locs cells slots Q (F0 m pc ls (.int i :: .ref (q 21) :: rest)) := zr_zald C w wX_c21 hi hdg kk
theorem wX_s21 {q : Nat → Nat} {cs : Nat → ClassId} {u : zs_T} {f : Nat → Int32} : (wX q cs u).set 21 (q 21, .inl (cs 2, 80, .inl f)) = wX q cs (zs_sa u 12 f) := rfl
theorem xs_21 (C : CallFix p m c cc nL s args (c0 :: zw_all) own) (w : zg_W D cs A s (wX q cs u) H locs) {i : Int32} {x : Int32} (hi : zf_in i 80 = true) (hz : zf_z x = true) (hdg : decode cc pc = .ok (.bastore, 1)) (kk : ∀ (H1 : Heap) (locs1 : List Loc), zg_W D cs A s (wX q cs (zs_sa u 12 (upd (zs_a u 12) i.toNatClampNeg x))) H1 locs1 → W p l e R s m args below meth c H1 locs1 cells slots Q (F0 m (pc + 1) ls rest)) : W p l e R s m args below meth c H locs cells slots Q (F0 m pc ls (.int x :: .int i :: .ref (q 21) :: rest)) := zr_zast C w wX_c21 hi hz wX_s21 hdg kk
theorem xa_22 (C : CallFix p m c cc nL s args (c0 :: zw_all) own) (w : zg_W D cs A s (wX q cs u) H locs) {i : Int32} (hi : zf_in i 100 = true) (hdg : decode cc pc = .ok (.iaload, 1)) (kk : W p l e R s m args below meth c H locs cells slots Q (F0 m (pc + 1) ls (.int (zs_a u 13 i.toNatClampNeg) :: rest))) : W p l e R s m args below meth c H locs cells slots Q (F0 m pc ls (.int i :: .ref (q 22) :: rest)) := zr_iald C w wX_c22 hi hdg kk
theorem wX_s22 {q : Nat → Nat} {cs : Nat → ClassId} {u : zs_T} {f : Nat → Int32} : (wX q cs u).set 22 (q 22, .inl (cs 0, 100, .inl f)) = wX q cs (zs_sa u 13 f) := rfl
theorem xs_22 (C : CallFix p m c cc nL s args (c0 :: zw_all) own) (w : zg_W D cs A s (wX q cs u) H locs) {i : Int32} {x : Int32} (hi : zf_in i 100 = true) (hdg : decode cc pc = .ok (.iastore, 1)) (kk : ∀ (H1 : Heap) (locs1 : List Loc), zg_W D cs A s (wX q cs (zs_sa u 13 (upd (zs_a u 13) i.toNatClampNeg x))) H1 locs1 → W p l e R s m args below meth c H1 locs1 cells slots Q (F0 m (pc + 1) ls rest)) : W p l e R s m args below meth c H locs cells slots Q (F0 m pc ls (.int x :: .int i :: .ref (q 22) :: rest)) := zr_iast C w wX_c22 hi wX_s22 hdg kk
theorem xa_23 (C : CallFix p m c cc nL s args (c0 :: zw_all) own) (w : zg_W D cs A s (wX q cs u) H locs) {i : Int32} (hi : zf_in i 100 = true) (hdg : decode cc pc = .ok (.iaload, 1)) (kk : W p l e R s m args below meth c H locs cells slots Q (F0 m (pc + 1) ls (.int (zs_a u 14 i.toNatClampNeg) :: rest))) : W p l e R s m args below meth c H locs cells slots Q (F0 m pc ls (.int i :: .ref (q 23) :: rest)) := zr_iald C w wX_c23 hi hdg kk
theorem wX_s23 {q : Nat → Nat} {cs : Nat → ClassId} {u : zs_T} {f : Nat → Int32} : (wX q cs u).set 23 (q 23, .inl (cs 0, 100, .inl f)) = wX q cs (zs_sa u 14 f) := rfl
theorem xs_23 (C : CallFix p m c cc nL s args (c0 :: zw_all) own) (w : zg_W D cs A s (wX q cs u) H locs) {i : Int32} {x : Int32} (hi : zf_in i 100 = true) (hdg : decode cc pc = .ok (.iastore, 1)) (kk : ∀ (H1 : Heap) (locs1 : List Loc), zg_W D cs A s (wX q cs (zs_sa u 14 (upd (zs_a u 14) i.toNatClampNeg x))) H1 locs1 → W p l e R s m args below meth c H1 locs1 cells slots Q (F0 m (pc + 1) ls rest)) : W p l e R s m args below meth c H locs cells slots Q (F0 m pc ls (.int x :: .int i :: .ref (q 23) :: rest)) := zr_iast C w wX_c23 hi wX_s23 hdg kk
theorem xa_24 (C : CallFix p m c cc nL s args (c0 :: zw_all) own) (w : zg_W D cs A s (wX q cs u) H locs) {i : Int32} (hi : zf_in i 100 = true) (hdg : decode cc pc = .ok (.iaload, 1)) (kk : W p l e R s m args below meth c H locs cells slots Q (F0 m (pc + 1) ls (.int (zs_a u 15 i.toNatClampNeg) :: rest))) : W p l e R s m args below meth c H locs cells slots Q (F0 m pc ls (.int i :: .ref (q 24) :: rest)) := zr_iald C w wX_c24 hi hdg kk
theorem wX_s24 {q : Nat → Nat} {cs : Nat → ClassId} {u : zs_T} {f : Nat → Int32} : (wX q cs u).set 24 (q 24, .inl (cs 0, 100, .inl f)) = wX q cs (zs_sa u 15 f) := rfl
theorem xs_24 (C : CallFix p m c cc nL s args (c0 :: zw_all) own) (w : zg_W D cs A s (wX q cs u) H locs) {i : Int32} {x : Int32} (hi : zf_in i 100 = true) (hdg : decode cc pc = .ok (.iastore, 1)) (kk : ∀ (H1 : Heap) (locs1 : List Loc), zg_W D cs A s (wX q cs (zs_sa u 15 (upd (zs_a u 15) i.toNatClampNeg x))) H1 locs1 → W p l e R s m args below meth c H1 locs1 cells slots Q (F0 m (pc + 1) ls rest)) : W p l e R s m args below meth c H locs cells slots Q (F0 m pc ls (.int x :: .int i :: .ref (q 24) :: rest)) := zr_iast C w wX_c24 hi wX_s24 hdg kk
theorem xa_25 (C : CallFix p m c cc nL s args (c0 :: zw_all) own) (w : zg_W D cs A s (wX q cs u) H locs) {i : Int32} (hi : zf_in i 100 = true) (hdg : decode cc pc = .ok (.iaload, 1)) (kk : W p l e R s m args below meth c H locs cells slots Q (F0 m (pc + 1) ls (.int (zs_a u 16 i.toNatClampNeg) :: rest))) : W p l e R s m args below meth c H locs cells slots Q (F0 m pc ls (.int i :: .ref (q 25) :: rest)) := zr_iald C w wX_c25 hi hdg kk
theorem wX_s25 {q : Nat → Nat} {cs : Nat → ClassId} {u : zs_T} {f : Nat → Int32} : (wX q cs u).set 25 (q 25, .inl (cs 0, 100, .inl f)) = wX q cs (zs_sa u 16 f) := rfl
theorem xs_25 (C : CallFix p m c cc nL s args (c0 :: zw_all) own) (w : zg_W D cs A s (wX q cs u) H locs) {i : Int32} {x : Int32} (hi : zf_in i 100 = true) (hdg : decode cc pc = .ok (.iastore, 1)) (kk : ∀ (H1 : Heap) (locs1 : List Loc), zg_W D cs A s (wX q cs (zs_sa u 16 (upd (zs_a u 16) i.toNatClampNeg x))) H1 locs1 → W p l e R s m args below meth c H1 locs1 cells slots Q (F0 m (pc + 1) ls rest)) : W p l e R s m args below meth c H locs cells slots Q (F0 m pc ls (.int x :: .int i :: .ref (q 25) :: rest)) := zr_iast C w wX_c25 hi wX_s25 hdg kk
theorem xa_26 (C : CallFix p m c cc nL s args (c0 :: zw_all) own) (w : zg_W D cs A s (wX q cs u) H locs) {i : Int32} (hi : zf_in i 100 = true) (hdg : decode cc pc = .ok (.iaload, 1)) (kk : W p l e R s m args below meth c H locs cells slots Q (F0 m (pc + 1) ls (.int (zs_a u 17 i.toNatClampNeg) :: rest))) : W p l e R s m args below meth c H locs cells slots Q (F0 m pc ls (.int i :: .ref (q 26) :: rest)) := zr_iald C w wX_c26 hi hdg kk
theorem wX_s26 {q : Nat → Nat} {cs : Nat → ClassId} {u : zs_T} {f : Nat → Int32} : (wX q cs u).set 26 (q 26, .inl (cs 0, 100, .inl f)) = wX q cs (zs_sa u 17 f) := rfl
theorem xs_26 (C : CallFix p m c cc nL s args (c0 :: zw_all) own) (w : zg_W D cs A s (wX q cs u) H locs) {i : Int32} {x : Int32} (hi : zf_in i 100 = true) (hdg : decode cc pc = .ok (.iastore, 1)) (kk : ∀ (H1 : Heap) (locs1 : List Loc), zg_W D cs A s (wX q cs (zs_sa u 17 (upd (zs_a u 17) i.toNatClampNeg x))) H1 locs1 → W p l e R s m args below meth c H1 locs1 cells slots Q (F0 m (pc + 1) ls rest)) : W p l e R s m args below meth c H locs cells slots Q (F0 m pc ls (.int x :: .int i :: .ref (q 26) :: rest)) := zr_iast C w wX_c26 hi wX_s26 hdg kk
theorem xa_27 (C : CallFix p m c cc nL s args (c0 :: zw_all) own) (w : zg_W D cs A s (wX q cs u) H locs) {i : Int32} (hi : zf_in i 12 = true) (hdg : decode cc pc = .ok (.iaload, 1)) (kk : W p l e R s m args below meth c H locs cells slots Q (F0 m (pc + 1) ls (.int (zs_a u 18 i.toNatClampNeg) :: rest))) : W p l e R s m args below meth c H locs cells slots Q (F0 m pc ls (.int i :: .ref (q 27) :: rest)) := zr_iald C w wX_c27 hi hdg kk
theorem wX_s27 {q : Nat → Nat} {cs : Nat → ClassId} {u : zs_T} {f : Nat → Int32} : (wX q cs u).set 27 (q 27, .inl (cs 0, 12, .inl f)) = wX q cs (zs_sa u 18 f) := rfl
theorem xs_27 (C : CallFix p m c cc nL s args (c0 :: zw_all) own) (w : zg_W D cs A s (wX q cs u) H locs) {i : Int32} {x : Int32} (hi : zf_in i 12 = true) (hdg : decode cc pc = .ok (.iastore, 1)) (kk : ∀ (H1 : Heap) (locs1 : List Loc), zg_W D cs A s (wX q cs (zs_sa u 18 (upd (zs_a u 18) i.toNatClampNeg x))) H1 locs1 → W p l e R s m args below meth c H1 locs1 cells slots Q (F0 m (pc + 1) ls rest)) : W p l e R s m args below meth c H locs cells slots Q (F0 m pc ls (.int x :: .int i :: .ref (q 27) :: rest)) := zr_iast C w wX_c27 hi wX_s27 hdg kk
theorem xa_28 (C : CallFix p m c cc nL s args (c0 :: zw_all) own) (w : zg_W D cs A s (wX q cs u) H locs) {i : Int32} (hi : zf_in i 80 = true) (hdg : decode cc pc = .ok (.iaload, 1)) (kk : W p l e R s m args below meth c H locs cells slots Q (F0 m (pc + 1) ls (.int (zs_a u 19 i.toNatClampNeg) :: rest))) : W p l e R s m args below meth c H locs cells slots Q (F0 m pc ls (.int i :: .ref (q 28) :: rest)) := zr_iald C w wX_c28 hi hdg kk
theorem wX_s28 {q : Nat → Nat} {cs : Nat → ClassId} {u : zs_T} {f : Nat → Int32} : (wX q cs u).set 28 (q 28, .inl (cs 0, 80, .inl f)) = wX q cs (zs_sa u 19 f) := rfl
theorem xs_28 (C : CallFix p m c cc nL s args (c0 :: zw_all) own) (w : zg_W D cs A s (wX q cs u) H locs) {i : Int32} {x : Int32} (hi : zf_in i 80 = true) (hdg : decode cc pc = .ok (.iastore, 1)) (kk : ∀ (H1 : Heap) (locs1 : List Loc), zg_W D cs A s (wX q cs (zs_sa u 19 (upd (zs_a u 19) i.toNatClampNeg x))) H1 locs1 → W p l e R s m args below meth c H1 locs1 cells slots Q (F0 m (pc + 1) ls rest)) : W p l e R s m args below meth c H locs cells slots Q (F0 m pc ls (.int x :: .int i :: .ref (q 28) :: rest)) := zr_iast C w wX_c28 hi wX_s28 hdg kk
theorem xa_29 (C : CallFix p m c cc nL s args (c0 :: zw_all) own) (w : zg_W D cs A s (wX q cs u) H locs) {i : Int32} (hi : zf_in i 12 = true) (hdg : decode cc pc = .ok (.iaload, 1)) (kk : W p l e R s m args below meth c H locs cells slots Q (F0 m (pc + 1) ls (.int (zs_a u 20 i.toNatClampNeg) :: rest))) : W p l e R s m args below meth c H locs cells slots Q (F0 m pc ls (.int i :: .ref (q 29) :: rest)) := zr_iald C w wX_c29 hi hdg kk
theorem wX_s29 {q : Nat → Nat} {cs : Nat → ClassId} {u : zs_T} {f : Nat → Int32} : (wX q cs u).set 29 (q 29, .inl (cs 0, 12, .inl f)) = wX q cs (zs_sa u 20 f) := rfl
theorem xs_29 (C : CallFix p m c cc nL s args (c0 :: zw_all) own) (w : zg_W D cs A s (wX q cs u) H locs) {i : Int32} {x : Int32} (hi : zf_in i 12 = true) (hdg : decode cc pc = .ok (.iastore, 1)) (kk : ∀ (H1 : Heap) (locs1 : List Loc), zg_W D cs A s (wX q cs (zs_sa u 20 (upd (zs_a u 20) i.toNatClampNeg x))) H1 locs1 → W p l e R s m args below meth c H1 locs1 cells slots Q (F0 m (pc + 1) ls rest)) : W p l e R s m args below meth c H locs cells slots Q (F0 m pc ls (.int x :: .int i :: .ref (q 29) :: rest)) := zr_iast C w wX_c29 hi wX_s29 hdg kk
theorem xa_30 (C : CallFix p m c cc nL s args (c0 :: zw_all) own) (w : zg_W D cs A s (wX q cs u) H locs) {i : Int32} (hi : zf_in i 12 = true) (hdg : decode cc pc = .ok (.laload, 1)) (kk : W p l e R s m args below meth c H locs cells slots Q (F0 m (pc + 1) ls (.long (zs_b u 0 i.toNatClampNeg) :: rest))) : W p l e R s m args below meth c H locs cells slots Q (F0 m pc ls (.int i :: .ref (q 30) :: rest)) := zr_lald C w wX_c30 hi hdg kk
theorem wX_s30 {q : Nat → Nat} {cs : Nat → ClassId} {u : zs_T} {f : Nat → Int64} : (wX q cs u).set 30 (q 30, .inl (cs 1, 12, .inr (.inl f))) = wX q cs (zs_sb u 0 f) := rfl
theorem xs_30 (C : CallFix p m c cc nL s args (c0 :: zw_all) own) (w : zg_W D cs A s (wX q cs u) H locs) {i : Int32} {x : Int64} (hi : zf_in i 12 = true) (hdg : decode cc pc = .ok (.lastore, 1)) (kk : ∀ (H1 : Heap) (locs1 : List Loc), zg_W D cs A s (wX q cs (zs_sb u 0 (vp_updL (zs_b u 0) i.toNatClampNeg x))) H1 locs1 → W p l e R s m args below meth c H1 locs1 cells slots Q (F0 m (pc + 1) ls rest)) : W p l e R s m args below meth c H locs cells slots Q (F0 m pc ls (.long x :: .int i :: .ref (q 30) :: rest)) := zr_last C w wX_c30 hi wX_s30 hdg kk
theorem xa_31 (C : CallFix p m c cc nL s args (c0 :: zw_all) own) (w : zg_W D cs A s (wX q cs u) H locs) {i : Int32} (hi : zf_in i 12 = true) (hdg : decode cc pc = .ok (.iaload, 1)) (kk : W p l e R s m args below meth c H locs cells slots Q (F0 m (pc + 1) ls (.int (zs_a u 21 i.toNatClampNeg) :: rest))) : W p l e R s m args below meth c H locs cells slots Q (F0 m pc ls (.int i :: .ref (q 31) :: rest)) := zr_iald C w wX_c31 hi hdg kk
theorem wX_s31 {q : Nat → Nat} {cs : Nat → ClassId} {u : zs_T} {f : Nat → Int32} : (wX q cs u).set 31 (q 31, .inl (cs 0, 12, .inl f)) = wX q cs (zs_sa u 21 f) := rfl
theorem xs_31 (C : CallFix p m c cc nL s args (c0 :: zw_all) own) (w : zg_W D cs A s (wX q cs u) H locs) {i : Int32} {x : Int32} (hi : zf_in i 12 = true) (hdg : decode cc pc = .ok (.iastore, 1)) (kk : ∀ (H1 : Heap) (locs1 : List Loc), zg_W D cs A s (wX q cs (zs_sa u 21 (upd (zs_a u 21) i.toNatClampNeg x))) H1 locs1 → W p l e R s m args below meth c H1 locs1 cells slots Q (F0 m (pc + 1) ls rest)) : W p l e R s m args below meth c H locs cells slots Q (F0 m pc ls (.int x :: .int i :: .ref (q 31) :: rest)) := zr_iast C w wX_c31 hi wX_s31 hdg kk
theorem xa_32 (C : CallFix p m c cc nL s args (c0 :: zw_all) own) (w : zg_W D cs A s (wX q cs u) H locs) {i : Int32} (hi : zf_in i 12 = true) (hdg : decode cc pc = .ok (.laload, 1)) (kk : W p l e R s m args below meth c H locs cells slots Q (F0 m (pc + 1) ls (.long (zs_b u 1 i.toNatClampNeg) :: rest))) : W p l e R s m args below meth c H locs cells slots Q (F0 m pc ls (.int i :: .ref (q 32) :: rest)) := zr_lald C w wX_c32 hi hdg kk
theorem wX_s32 {q : Nat → Nat} {cs : Nat → ClassId} {u : zs_T} {f : Nat → Int64} : (wX q cs u).set 32 (q 32, .inl (cs 1, 12, .inr (.inl f))) = wX q cs (zs_sb u 1 f) := rfl
theorem xs_32 (C : CallFix p m c cc nL s args (c0 :: zw_all) own) (w : zg_W D cs A s (wX q cs u) H locs) {i : Int32} {x : Int64} (hi : zf_in i 12 = true) (hdg : decode cc pc = .ok (.lastore, 1)) (kk : ∀ (H1 : Heap) (locs1 : List Loc), zg_W D cs A s (wX q cs (zs_sb u 1 (vp_updL (zs_b u 1) i.toNatClampNeg x))) H1 locs1 → W p l e R s m args below meth c H1 locs1 cells slots Q (F0 m (pc + 1) ls rest)) : W p l e R s m args below meth c H locs cells slots Q (F0 m pc ls (.long x :: .int i :: .ref (q 32) :: rest)) := zr_last C w wX_c32 hi wX_s32 hdg kk
theorem xa_33 (C : CallFix p m c cc nL s args (c0 :: zw_all) own) (w : zg_W D cs A s (wX q cs u) H locs) {i : Int32} (hi : zf_in i 12 = true) (hdg : decode cc pc = .ok (.laload, 1)) (kk : W p l e R s m args below meth c H locs cells slots Q (F0 m (pc + 1) ls (.long (zs_b u 2 i.toNatClampNeg) :: rest))) : W p l e R s m args below meth c H locs cells slots Q (F0 m pc ls (.int i :: .ref (q 33) :: rest)) := zr_lald C w wX_c33 hi hdg kk
theorem wX_s33 {q : Nat → Nat} {cs : Nat → ClassId} {u : zs_T} {f : Nat → Int64} : (wX q cs u).set 33 (q 33, .inl (cs 1, 12, .inr (.inl f))) = wX q cs (zs_sb u 2 f) := rfl
theorem xs_33 (C : CallFix p m c cc nL s args (c0 :: zw_all) own) (w : zg_W D cs A s (wX q cs u) H locs) {i : Int32} {x : Int64} (hi : zf_in i 12 = true) (hdg : decode cc pc = .ok (.lastore, 1)) (kk : ∀ (H1 : Heap) (locs1 : List Loc), zg_W D cs A s (wX q cs (zs_sb u 2 (vp_updL (zs_b u 2) i.toNatClampNeg x))) H1 locs1 → W p l e R s m args below meth c H1 locs1 cells slots Q (F0 m (pc + 1) ls rest)) : W p l e R s m args below meth c H locs cells slots Q (F0 m pc ls (.long x :: .int i :: .ref (q 33) :: rest)) := zr_last C w wX_c33 hi wX_s33 hdg kk
theorem xa_34 (C : CallFix p m c cc nL s args (c0 :: zw_all) own) (w : zg_W D cs A s (wX q cs u) H locs) {i : Int32} (hi : zf_in i 12 = true) (hdg : decode cc pc = .ok (.iaload, 1)) (kk : W p l e R s m args below meth c H locs cells slots Q (F0 m (pc + 1) ls (.int (zs_a u 22 i.toNatClampNeg) :: rest))) : W p l e R s m args below meth c H locs cells slots Q (F0 m pc ls (.int i :: .ref (q 34) :: rest)) := zr_iald C w wX_c34 hi hdg kk
theorem wX_s34 {q : Nat → Nat} {cs : Nat → ClassId} {u : zs_T} {f : Nat → Int32} : (wX q cs u).set 34 (q 34, .inl (cs 0, 12, .inl f)) = wX q cs (zs_sa u 22 f) := rfl
theorem xs_34 (C : CallFix p m c cc nL s args (c0 :: zw_all) own) (w : zg_W D cs A s (wX q cs u) H locs) {i : Int32} {x : Int32} (hi : zf_in i 12 = true) (hdg : decode cc pc = .ok (.iastore, 1)) (kk : ∀ (H1 : Heap) (locs1 : List Loc), zg_W D cs A s (wX q cs (zs_sa u 22 (upd (zs_a u 22) i.toNatClampNeg x))) H1 locs1 → W p l e R s m args below meth c H1 locs1 cells slots Q (F0 m (pc + 1) ls rest)) : W p l e R s m args below meth c H locs cells slots Q (F0 m pc ls (.int x :: .int i :: .ref (q 34) :: rest)) := zr_iast C w wX_c34 hi wX_s34 hdg kk
end ZWX
end
section
/-! the world of FlockPassModel: cells and numbers
cell 0: object of FlockPassModel: tape=cell 1, taped=i0, fault=i1, ruleL=i2, ruleM=i3, ruleW=i4, ruleV=i5, said=cell 2, heights=i6, flock=i7, snow=i8, year=i9, days=i10, hunger=i11, grass=cell 3, most=cell 4, growth=cell 5, eaten=l0, was=cell 6, way=cell 7, bestWay=cell 8, ways=i12, bestHunger=i13, bestGrass=i14, sheep=i15, entries=i16, milkingDay=i17, owner=cell 9, milk=cell 10, wasDead=cell 11, what=cell 12, of=cell 13, on=cell 14, to=cell 15, isUp=i18, isDead=i19, has=i20, daysOf=cell 16, parts=cell 17, turn=cell 18, cheeses=cell 19, latest=cell 20, balance=cell 21, money=cell 22, own=l1
cell 1: row a0 of 40: FlockPassModel.tape
cell 2: row a1 of 4: FlockPassModel.said
cell 3: row a2 of 6: FlockPassModel.grass
cell 4: row a3 of 6: FlockPassModel.most
cell 5: row a4 of 6: FlockPassModel.growth
cell 6: row a5 of 6: FlockPassModel.was
cell 7: row a6 of 8: FlockPassModel.way
cell 8: row a7 of 8: FlockPassModel.bestWay
cell 9: row a8 of 80: FlockPassModel.owner
cell 10: row a9 of 80: FlockPassModel.milk
cell 11: row a10 of 80: FlockPassModel.wasDead
cell 12: row a11 of 100: FlockPassModel.what
cell 13: row a12 of 100: FlockPassModel.of
cell 14: row a13 of 100: FlockPassModel.on
cell 15: row a14 of 100: FlockPassModel.to
cell 16: row a15 of 12: FlockPassModel.daysOf
cell 17: row a16 of 12: FlockPassModel.parts
cell 18: row a17 of 12: FlockPassModel.turn
cell 19: row a18 of 12: FlockPassModel.cheeses
cell 20: row a19 of 12: FlockPassModel.latest
cell 21: row b0 of 12: FlockPassModel.balance
cell 22: row b1 of 12: FlockPassModel.money
-/
def oM0 (q : Nat → Nat) (u : zs_T) : List Value := [.ref (q 1), .int (zs_i u 0), .int (zs_i u 1), .int (zs_i u 2), .int (zs_i u 3), .int (zs_i u 4), .int (zs_i u 5), .ref (q 2), .int (zs_i u 6), .int (zs_i u 7), .int (zs_i u 8), .int (zs_i u 9), .int (zs_i u 10), .int (zs_i u 11), .ref (q 3), .ref (q 4), .ref (q 5), .long (zs_l u 0), .ref (q 6), .ref (q 7), .ref (q 8), .int (zs_i u 12), .int (zs_i u 13), .int (zs_i u 14), .int (zs_i u 15), .int (zs_i u 16), .int (zs_i u 17), .ref (q 9), .ref (q 10), .ref (q 11), .ref (q 12), .ref (q 13), .ref (q 14), .ref (q 15), .int (zs_i u 18), .int (zs_i u 19), .int (zs_i u 20), .ref (q 16), .ref (q 17), .ref (q 18), .ref (q 19), .ref (q 20), .ref (q 21), .ref (q 22), .long (zs_l u 1)]
def wM (q : Nat → Nat) (cs : Nat → ClassId) (u : zs_T) : va_W := [(q 0, .inr (9, oM0 q u)), (q 1, .inl (cs 3, 40, .inl (zs_a u 0))), (q 2, .inl (cs 0, 4, .inl (zs_a u 1))), (q 3, .inl (cs 0, 6, .inl (zs_a u 2))), (q 4, .inl (cs 0, 6, .inl (zs_a u 3))), (q 5, .inl (cs 0, 6, .inl (zs_a u 4))), (q 6, .inl (cs 0, 6, .inl (zs_a u 5))), (q 7, .inl (cs 0, 8, .inl (zs_a u 6))), (q 8, .inl (cs 0, 8, .inl (zs_a u 7))), (q 9, .inl (cs 0, 80, .inl (zs_a u 8))), (q 10, .inl (cs 0, 80, .inl (zs_a u 9))), (q 11, .inl (cs 2, 80, .inl (zs_a u 10))), (q 12, .inl (cs 0, 100, .inl (zs_a u 11))), (q 13, .inl (cs 0, 100, .inl (zs_a u 12))), (q 14, .inl (cs 0, 100, .inl (zs_a u 13))), (q 15, .inl (cs 0, 100, .inl (zs_a u 14))), (q 16, .inl (cs 0, 12, .inl (zs_a u 15))), (q 17, .inl (cs 0, 12, .inl (zs_a u 16))), (q 18, .inl (cs 0, 12, .inl (zs_a u 17))), (q 19, .inl (cs 0, 12, .inl (zs_a u 18))), (q 20, .inl (cs 0, 12, .inl (zs_a u 19))), (q 21, .inl (cs 1, 12, .inr (.inl (zs_b u 0)))), (q 22, .inl (cs 1, 12, .inr (.inl (zs_b u 1))))]
theorem wM_ad {q : Nat → Nat} {cs : Nat → ClassId} : zg_Ad (wM q cs) := fun _ _ => rfl
theorem wM_c0 {q : Nat → Nat} {cs : Nat → ClassId} {u : zs_T} : (wM q cs u)[0]? = some (q 0, .inr (9, oM0 q u)) := rfl
theorem wM_c1 {q : Nat → Nat} {cs : Nat → ClassId} {u : zs_T} : (wM q cs u)[1]? = some (q 1, .inl (cs 3, 40, .inl (zs_a u 0))) := rfl
theorem wM_c2 {q : Nat → Nat} {cs : Nat → ClassId} {u : zs_T} : (wM q cs u)[2]? = some (q 2, .inl (cs 0, 4, .inl (zs_a u 1))) := rfl
theorem wM_c3 {q : Nat → Nat} {cs : Nat → ClassId} {u : zs_T} : (wM q cs u)[3]? = some (q 3, .inl (cs 0, 6, .inl (zs_a u 2))) := rfl
theorem wM_c4 {q : Nat → Nat} {cs : Nat → ClassId} {u : zs_T} : (wM q cs u)[4]? = some (q 4, .inl (cs 0, 6, .inl (zs_a u 3))) := rfl
theorem wM_c5 {q : Nat → Nat} {cs : Nat → ClassId} {u : zs_T} : (wM q cs u)[5]? = some (q 5, .inl (cs 0, 6, .inl (zs_a u 4))) := rfl
theorem wM_c6 {q : Nat → Nat} {cs : Nat → ClassId} {u : zs_T} : (wM q cs u)[6]? = some (q 6, .inl (cs 0, 6, .inl (zs_a u 5))) := rfl
theorem wM_c7 {q : Nat → Nat} {cs : Nat → ClassId} {u : zs_T} : (wM q cs u)[7]? = some (q 7, .inl (cs 0, 8, .inl (zs_a u 6))) := rfl
theorem wM_c8 {q : Nat → Nat} {cs : Nat → ClassId} {u : zs_T} : (wM q cs u)[8]? = some (q 8, .inl (cs 0, 8, .inl (zs_a u 7))) := rfl
theorem wM_c9 {q : Nat → Nat} {cs : Nat → ClassId} {u : zs_T} : (wM q cs u)[9]? = some (q 9, .inl (cs 0, 80, .inl (zs_a u 8))) := rfl
theorem wM_c10 {q : Nat → Nat} {cs : Nat → ClassId} {u : zs_T} : (wM q cs u)[10]? = some (q 10, .inl (cs 0, 80, .inl (zs_a u 9))) := rfl
theorem wM_c11 {q : Nat → Nat} {cs : Nat → ClassId} {u : zs_T} : (wM q cs u)[11]? = some (q 11, .inl (cs 2, 80, .inl (zs_a u 10))) := rfl
theorem wM_c12 {q : Nat → Nat} {cs : Nat → ClassId} {u : zs_T} : (wM q cs u)[12]? = some (q 12, .inl (cs 0, 100, .inl (zs_a u 11))) := rfl
theorem wM_c13 {q : Nat → Nat} {cs : Nat → ClassId} {u : zs_T} : (wM q cs u)[13]? = some (q 13, .inl (cs 0, 100, .inl (zs_a u 12))) := rfl
theorem wM_c14 {q : Nat → Nat} {cs : Nat → ClassId} {u : zs_T} : (wM q cs u)[14]? = some (q 14, .inl (cs 0, 100, .inl (zs_a u 13))) := rfl
theorem wM_c15 {q : Nat → Nat} {cs : Nat → ClassId} {u : zs_T} : (wM q cs u)[15]? = some (q 15, .inl (cs 0, 100, .inl (zs_a u 14))) := rfl
theorem wM_c16 {q : Nat → Nat} {cs : Nat → ClassId} {u : zs_T} : (wM q cs u)[16]? = some (q 16, .inl (cs 0, 12, .inl (zs_a u 15))) := rfl
theorem wM_c17 {q : Nat → Nat} {cs : Nat → ClassId} {u : zs_T} : (wM q cs u)[17]? = some (q 17, .inl (cs 0, 12, .inl (zs_a u 16))) := rfl
theorem wM_c18 {q : Nat → Nat} {cs : Nat → ClassId} {u : zs_T} : (wM q cs u)[18]? = some (q 18, .inl (cs 0, 12, .inl (zs_a u 17))) := rfl
theorem wM_c19 {q : Nat → Nat} {cs : Nat → ClassId} {u : zs_T} : (wM q cs u)[19]? = some (q 19, .inl (cs 0, 12, .inl (zs_a u 18))) := rfl
theorem wM_c20 {q : Nat → Nat} {cs : Nat → ClassId} {u : zs_T} : (wM q cs u)[20]? = some (q 20, .inl (cs 0, 12, .inl (zs_a u 19))) := rfl
theorem wM_c21 {q : Nat → Nat} {cs : Nat → ClassId} {u : zs_T} : (wM q cs u)[21]? = some (q 21, .inl (cs 1, 12, .inr (.inl (zs_b u 0)))) := rfl
theorem wM_c22 {q : Nat → Nat} {cs : Nat → ClassId} {u : zs_T} : (wM q cs u)[22]? = some (q 22, .inl (cs 1, 12, .inr (.inl (zs_b u 1)))) := rfl
section ZWM
variable {p : Program} {l : Launch} {e : Env} {R : Room} {s : State} {m : MethodId} {args : Array Value} {below : List Frame} {meth : Method} {c : Code} {H : Heap} {locs : List Loc} {cells slots : Nat} {Q : State → Prop}
variable {cc : ByteArray} {nL pc index : Nat} {ls : Array Slot} {rest : List Value} {c0 : Cond} {own : String}
variable {D : va_G} {cs : Nat → ClassId} {A : Nat → Prop} {q : Nat → Nat} {u : zs_T}
theorem rcM_0 : zc_rc (wM q cs) u (q 0) RX9 := ⟨0, 9, _, _, wM_c0, rfl, rfl⟩
theorem mg_0_0 (C : CallFix p m c cc nL s args (c0 :: zw_all) own) (w : zg_W D cs A s (wM q cs u) H locs) (hl : Cond.fieldLink own index RX9 "tape" "[B" ∈ zw_all) (hdg : decode cc pc = .ok (.getfield index, 3)) (kk : W p l e R s m args below meth c H locs cells slots Q (F0 m (pc + 3) ls (.ref (q 1) :: rest))) : W p l e R s m args below meth c H locs cells slots Q (F0 m pc ls (.ref (q 0) :: rest)) := zr_get (k := 0) C w wM_c0 rfl inz9 (by decide) hl rfl rfl hdg kk
theorem mg_0_1 (C : CallFix p m c cc nL s args (c0 :: zw_all) own) (w : zg_W D cs A s (wM q cs u) H locs) (hl : Cond.fieldLink own index RX9 "taped" "I" ∈ zw_all) (hdg : decode cc pc = .ok (.getfield index, 3)) (kk : W p l e R s m args below meth c H locs cells slots Q (F0 m (pc + 3) ls (.int (zs_i u 0) :: rest))) : W p l e R s m args below meth c H locs cells slots Q (F0 m pc ls (.ref (q 0) :: rest)) := zr_get (k := 1) C w wM_c0 rfl inz9 (by decide) hl rfl rfl hdg kk
theorem mp_0_1 (C : CallFix p m c cc nL s args (c0 :: zw_all) own) (w : zg_W D cs A s (wM q cs u) H locs) {v : Int32} (hl : Cond.fieldLink own index RX9 "taped" "I" ∈ zw_all) (hdg : decode cc pc = .ok (.putfield index, 3)) (kk : ∀ (H1 : Heap) (locs1 : List Loc), zg_W D cs A s (wM q cs (zs_si u 0 v)) H1 locs1 → W p l e R s m args below meth c H1 locs1 cells slots Q (F0 m (pc + 3) ls rest)) : W p l e R s m args below meth c H locs cells slots Q (F0 m pc ls (.int v :: .ref (q 0) :: rest)) := zr_put (k := 1) (ty := .int) C w wM_c0 rfl inz9 tyX9 tyX9_ok nmX9 (by decide) hl rfl rfl (by decide +kernel) rfl rfl (Nat.le_of_ble_eq_true rfl) rfl hdg kk
theorem mg_0_2 (C : CallFix p m c cc nL s args (c0 :: zw_all) own) (w : zg_W D cs A s (wM q cs u) H locs) (hl : Cond.fieldLink own index RX9 "fault" "I" ∈ zw_all) (hdg : decode cc pc = .ok (.getfield index, 3)) (kk : W p l e R s m args below meth c H locs cells slots Q (F0 m (pc + 3) ls (.int (zs_i u 1) :: rest))) : W p l e R s m args below meth c H locs cells slots Q (F0 m pc ls (.ref (q 0) :: rest)) := zr_get (k := 2) C w wM_c0 rfl inz9 (by decide) hl rfl rfl hdg kk
theorem mp_0_2 (C : CallFix p m c cc nL s args (c0 :: zw_all) own) (w : zg_W D cs A s (wM q cs u) H locs) {v : Int32} (hl : Cond.fieldLink own index RX9 "fault" "I" ∈ zw_all) (hdg : decode cc pc = .ok (.putfield index, 3)) (kk : ∀ (H1 : Heap) (locs1 : List Loc), zg_W D cs A s (wM q cs (zs_si u 1 v)) H1 locs1 → W p l e R s m args below meth c H1 locs1 cells slots Q (F0 m (pc + 3) ls rest)) : W p l e R s m args below meth c H locs cells slots Q (F0 m pc ls (.int v :: .ref (q 0) :: rest)) := zr_put (k := 2) (ty := .int) C w wM_c0 rfl inz9 tyX9 tyX9_ok nmX9 (by decide) hl rfl rfl (by decide +kernel) rfl rfl (Nat.le_of_ble_eq_true rfl) rfl hdg kk
theorem mg_0_3 (C : CallFix p m c cc nL s args (c0 :: zw_all) own) (w : zg_W D cs A s (wM q cs u) H locs) (hl : Cond.fieldLink own index RX9 "ruleL" "I" ∈ zw_all) (hdg : decode cc pc = .ok (.getfield index, 3)) (kk : W p l e R s m args below meth c H locs cells slots Q (F0 m (pc + 3) ls (.int (zs_i u 2) :: rest))) : W p l e R s m args below meth c H locs cells slots Q (F0 m pc ls (.ref (q 0) :: rest)) := zr_get (k := 3) C w wM_c0 rfl inz9 (by decide) hl rfl rfl hdg kk
theorem mp_0_3 (C : CallFix p m c cc nL s args (c0 :: zw_all) own) (w : zg_W D cs A s (wM q cs u) H locs) {v : Int32} (hl : Cond.fieldLink own index RX9 "ruleL" "I" ∈ zw_all) (hdg : decode cc pc = .ok (.putfield index, 3)) (kk : ∀ (H1 : Heap) (locs1 : List Loc), zg_W D cs A s (wM q cs (zs_si u 2 v)) H1 locs1 → W p l e R s m args below meth c H1 locs1 cells slots Q (F0 m (pc + 3) ls rest)) : W p l e R s m args below meth c H locs cells slots Q (F0 m pc ls (.int v :: .ref (q 0) :: rest)) := zr_put (k := 3) (ty := .int) C w wM_c0 rfl inz9 tyX9 tyX9_ok nmX9 (by decide) hl rfl rfl (by decide +kernel) rfl rfl (Nat.le_of_ble_eq_true rfl) rfl hdg kk
theorem mg_0_4 (C : CallFix p m c cc nL s args (c0 :: zw_all) own) (w : zg_W D cs A s (wM q cs u) H locs) (hl : Cond.fieldLink own index RX9 "ruleM" "I" ∈ zw_all) (hdg : decode cc pc = .ok (.getfield index, 3)) (kk : W p l e R s m args below meth c H locs cells slots Q (F0 m (pc + 3) ls (.int (zs_i u 3) :: rest))) : W p l e R s m args below meth c H locs cells slots Q (F0 m pc ls (.ref (q 0) :: rest)) := zr_get (k := 4) C w wM_c0 rfl inz9 (by decide) hl rfl rfl hdg kk
theorem mp_0_4 (C : CallFix p m c cc nL s args (c0 :: zw_all) own) (w : zg_W D cs A s (wM q cs u) H locs) {v : Int32} (hl : Cond.fieldLink own index RX9 "ruleM" "I" ∈ zw_all) (hdg : decode cc pc = .ok (.putfield index, 3)) (kk : ∀ (H1 : Heap) (locs1 : List Loc), zg_W D cs A s (wM q cs (zs_si u 3 v)) H1 locs1 → W p l e R s m args below meth c H1 locs1 cells slots Q (F0 m (pc + 3) ls rest)) : W p l e R s m args below meth c H locs cells slots Q (F0 m pc ls (.int v :: .ref (q 0) :: rest)) := zr_put (k := 4) (ty := .int) C w wM_c0 rfl inz9 tyX9 tyX9_ok nmX9 (by decide) hl rfl rfl (by decide +kernel) rfl rfl (Nat.le_of_ble_eq_true rfl) rfl hdg kk
theorem mg_0_5 (C : CallFix p m c cc nL s args (c0 :: zw_all) own) (w : zg_W D cs A s (wM q cs u) H locs) (hl : Cond.fieldLink own index RX9 "ruleW" "I" ∈ zw_all) (hdg : decode cc pc = .ok (.getfield index, 3)) (kk : W p l e R s m args below meth c H locs cells slots Q (F0 m (pc + 3) ls (.int (zs_i u 4) :: rest))) : W p l e R s m args below meth c H locs cells slots Q (F0 m pc ls (.ref (q 0) :: rest)) := zr_get (k := 5) C w wM_c0 rfl inz9 (by decide) hl rfl rfl hdg kk
theorem mp_0_5 (C : CallFix p m c cc nL s args (c0 :: zw_all) own) (w : zg_W D cs A s (wM q cs u) H locs) {v : Int32} (hl : Cond.fieldLink own index RX9 "ruleW" "I" ∈ zw_all) (hdg : decode cc pc = .ok (.putfield index, 3)) (kk : ∀ (H1 : Heap) (locs1 : List Loc), zg_W D cs A s (wM q cs (zs_si u 4 v)) H1 locs1 → W p l e R s m args below meth c H1 locs1 cells slots Q (F0 m (pc + 3) ls rest)) : W p l e R s m args below meth c H locs cells slots Q (F0 m pc ls (.int v :: .ref (q 0) :: rest)) := zr_put (k := 5) (ty := .int) C w wM_c0 rfl inz9 tyX9 tyX9_ok nmX9 (by decide) hl rfl rfl (by decide +kernel) rfl rfl (Nat.le_of_ble_eq_true rfl) rfl hdg kk
theorem mg_0_6 (C : CallFix p m c cc nL s args (c0 :: zw_all) own) (w : zg_W D cs A s (wM q cs u) H locs) (hl : Cond.fieldLink own index RX9 "ruleV" "I" ∈ zw_all) (hdg : decode cc pc = .ok (.getfield index, 3)) (kk : W p l e R s m args below meth c H locs cells slots Q (F0 m (pc + 3) ls (.int (zs_i u 5) :: rest))) : W p l e R s m args below meth c H locs cells slots Q (F0 m pc ls (.ref (q 0) :: rest)) := zr_get (k := 6) C w wM_c0 rfl inz9 (by decide) hl rfl rfl hdg kk
theorem mp_0_6 (C : CallFix p m c cc nL s args (c0 :: zw_all) own) (w : zg_W D cs A s (wM q cs u) H locs) {v : Int32} (hl : Cond.fieldLink own index RX9 "ruleV" "I" ∈ zw_all) (hdg : decode cc pc = .ok (.putfield index, 3)) (kk : ∀ (H1 : Heap) (locs1 : List Loc), zg_W D cs A s (wM q cs (zs_si u 5 v)) H1 locs1 → W p l e R s m args below meth c H1 locs1 cells slots Q (F0 m (pc + 3) ls rest)) : W p l e R s m args below meth c H locs cells slots Q (F0 m pc ls (.int v :: .ref (q 0) :: rest)) := zr_put (k := 6) (ty := .int) C w wM_c0 rfl inz9 tyX9 tyX9_ok nmX9 (by decide) hl rfl rfl (by decide +kernel) rfl rfl (Nat.le_of_ble_eq_true rfl) rfl hdg kk
theorem mg_0_7 (C : CallFix p m c cc nL s args (c0 :: zw_all) own) (w : zg_W D cs A s (wM q cs u) H locs) (hl : Cond.fieldLink own index RX9 "said" "[I" ∈ zw_all) (hdg : decode cc pc = .ok (.getfield index, 3)) (kk : W p l e R s m args below meth c H locs cells slots Q (F0 m (pc + 3) ls (.ref (q 2) :: rest))) : W p l e R s m args below meth c H locs cells slots Q (F0 m pc ls (.ref (q 0) :: rest)) := zr_get (k := 7) C w wM_c0 rfl inz9 (by decide) hl rfl rfl hdg kk
theorem mg_0_8 (C : CallFix p m c cc nL s args (c0 :: zw_all) own) (w : zg_W D cs A s (wM q cs u) H locs) (hl : Cond.fieldLink own index RX9 "heights" "I" ∈ zw_all) (hdg : decode cc pc = .ok (.getfield index, 3)) (kk : W p l e R s m args below meth c H locs cells slots Q (F0 m (pc + 3) ls (.int (zs_i u 6) :: rest))) : W p l e R s m args below meth c H locs cells slots Q (F0 m pc ls (.ref (q 0) :: rest)) := zr_get (k := 8) C w wM_c0 rfl inz9 (by decide) hl rfl rfl hdg kk
theorem mp_0_8 (C : CallFix p m c cc nL s args (c0 :: zw_all) own) (w : zg_W D cs A s (wM q cs u) H locs) {v : Int32} (hl : Cond.fieldLink own index RX9 "heights" "I" ∈ zw_all) (hdg : decode cc pc = .ok (.putfield index, 3)) (kk : ∀ (H1 : Heap) (locs1 : List Loc), zg_W D cs A s (wM q cs (zs_si u 6 v)) H1 locs1 → W p l e R s m args below meth c H1 locs1 cells slots Q (F0 m (pc + 3) ls rest)) : W p l e R s m args below meth c H locs cells slots Q (F0 m pc ls (.int v :: .ref (q 0) :: rest)) := zr_put (k := 8) (ty := .int) C w wM_c0 rfl inz9 tyX9 tyX9_ok nmX9 (by decide) hl rfl rfl (by decide +kernel) rfl rfl (Nat.le_of_ble_eq_true rfl) rfl hdg kk
theorem mg_0_9 (C : CallFix p m c cc nL s args (c0 :: zw_all) own) (w : zg_W D cs A s (wM q cs u) H locs) (hl : Cond.fieldLink own index RX9 "flock" "I" ∈ zw_all) (hdg : decode cc pc = .ok (.getfield index, 3)) (kk : W p l e R s m args below meth c H locs cells slots Q (F0 m (pc + 3) ls (.int (zs_i u 7) :: rest))) : W p l e R s m args below meth c H locs cells slots Q (F0 m pc ls (.ref (q 0) :: rest)) := zr_get (k := 9) C w wM_c0 rfl inz9 (by decide) hl rfl rfl hdg kk
theorem mp_0_9 (C : CallFix p m c cc nL s args (c0 :: zw_all) own) (w : zg_W D cs A s (wM q cs u) H locs) {v : Int32} (hl : Cond.fieldLink own index RX9 "flock" "I" ∈ zw_all) (hdg : decode cc pc = .ok (.putfield index, 3)) (kk : ∀ (H1 : Heap) (locs1 : List Loc), zg_W D cs A s (wM q cs (zs_si u 7 v)) H1 locs1 → W p l e R s m args below meth c H1 locs1 cells slots Q (F0 m (pc + 3) ls rest)) : W p l e R s m args below meth c H locs cells slots Q (F0 m pc ls (.int v :: .ref (q 0) :: rest)) := zr_put (k := 9) (ty := .int) C w wM_c0 rfl inz9 tyX9 tyX9_ok nmX9 (by decide) hl rfl rfl (by decide +kernel) rfl rfl (Nat.le_of_ble_eq_true rfl) rfl hdg kk
theorem mg_0_10 (C : CallFix p m c cc nL s args (c0 :: zw_all) own) (w : zg_W D cs A s (wM q cs u) H locs) (hl : Cond.fieldLink own index RX9 "snow" "I" ∈ zw_all) (hdg : decode cc pc = .ok (.getfield index, 3)) (kk : W p l e R s m args below meth c H locs cells slots Q (F0 m (pc + 3) ls (.int (zs_i u 8) :: rest))) : W p l e R s m args below meth c H locs cells slots Q (F0 m pc ls (.ref (q 0) :: rest)) := zr_get (k := 10) C w wM_c0 rfl inz9 (by decide) hl rfl rfl hdg kk
theorem mp_0_10 (C : CallFix p m c cc nL s args (c0 :: zw_all) own) (w : zg_W D cs A s (wM q cs u) H locs) {v : Int32} (hl : Cond.fieldLink own index RX9 "snow" "I" ∈ zw_all) (hdg : decode cc pc = .ok (.putfield index, 3)) (kk : ∀ (H1 : Heap) (locs1 : List Loc), zg_W D cs A s (wM q cs (zs_si u 8 v)) H1 locs1 → W p l e R s m args below meth c H1 locs1 cells slots Q (F0 m (pc + 3) ls rest)) : W p l e R s m args below meth c H locs cells slots Q (F0 m pc ls (.int v :: .ref (q 0) :: rest)) := zr_put (k := 10) (ty := .int) C w wM_c0 rfl inz9 tyX9 tyX9_ok nmX9 (by decide) hl rfl rfl (by decide +kernel) rfl rfl (Nat.le_of_ble_eq_true rfl) rfl hdg kk
theorem mg_0_11 (C : CallFix p m c cc nL s args (c0 :: zw_all) own) (w : zg_W D cs A s (wM q cs u) H locs) (hl : Cond.fieldLink own index RX9 "year" "I" ∈ zw_all) (hdg : decode cc pc = .ok (.getfield index, 3)) (kk : W p l e R s m args below meth c H locs cells slots Q (F0 m (pc + 3) ls (.int (zs_i u 9) :: rest))) : W p l e R s m args below meth c H locs cells slots Q (F0 m pc ls (.ref (q 0) :: rest)) := zr_get (k := 11) C w wM_c0 rfl inz9 (by decide) hl rfl rfl hdg kk
theorem mp_0_11 (C : CallFix p m c cc nL s args (c0 :: zw_all) own) (w : zg_W D cs A s (wM q cs u) H locs) {v : Int32} (hl : Cond.fieldLink own index RX9 "year" "I" ∈ zw_all) (hdg : decode cc pc = .ok (.putfield index, 3)) (kk : ∀ (H1 : Heap) (locs1 : List Loc), zg_W D cs A s (wM q cs (zs_si u 9 v)) H1 locs1 → W p l e R s m args below meth c H1 locs1 cells slots Q (F0 m (pc + 3) ls rest)) : W p l e R s m args below meth c H locs cells slots Q (F0 m pc ls (.int v :: .ref (q 0) :: rest)) := zr_put (k := 11) (ty := .int) C w wM_c0 rfl inz9 tyX9 tyX9_ok nmX9 (by decide) hl rfl rfl (by decide +kernel) rfl rfl (Nat.le_of_ble_eq_true rfl) rfl hdg kk
theorem mg_0_12 (C : CallFix p m c cc nL s args (c0 :: zw_all) own) (w : zg_W D cs A s (wM q cs u) H locs) (hl : Cond.fieldLink own index RX9 "days" "I" ∈ zw_all) (hdg : decode cc pc = .ok (.getfield index, 3)) (kk : W p l e R s m args below meth c H locs cells slots Q (F0 m (pc + 3) ls (.int (zs_i u 10) :: rest))) : W p l e R s m args below meth c H locs cells slots Q (F0 m pc ls (.ref (q 0) :: rest)) := zr_get (k := 12) C w wM_c0 rfl inz9 (by decide) hl rfl rfl hdg kk
theorem mp_0_12 (C : CallFix p m c cc nL s args (c0 :: zw_all) own) (w : zg_W D cs A s (wM q cs u) H locs) {v : Int32} (hl : Cond.fieldLink own index RX9 "days" "I" ∈ zw_all) (hdg : decode cc pc = .ok (.putfield index, 3)) (kk : ∀ (H1 : Heap) (locs1 : List Loc), zg_W D cs A s (wM q cs (zs_si u 10 v)) H1 locs1 → W p l e R s m args below meth c H1 locs1 cells slots Q (F0 m (pc + 3) ls rest)) : W p l e R s m args below meth c H locs cells slots Q (F0 m pc ls (.int v :: .ref (q 0) :: rest)) := zr_put (k := 12) (ty := .int) C w wM_c0 rfl inz9 tyX9 tyX9_ok nmX9 (by decide) hl rfl rfl (by decide +kernel) rfl rfl (Nat.le_of_ble_eq_true rfl) rfl hdg kk
theorem mg_0_13 (C : CallFix p m c cc nL s args (c0 :: zw_all) own) (w : zg_W D cs A s (wM q cs u) H locs) (hl : Cond.fieldLink own index RX9 "hunger" "I" ∈ zw_all) (hdg : decode cc pc = .ok (.getfield index, 3)) (kk : W p l e R s m args below meth c H locs cells slots Q (F0 m (pc + 3) ls (.int (zs_i u 11) :: rest))) : W p l e R s m args below meth c H locs cells slots Q (F0 m pc ls (.ref (q 0) :: rest)) := zr_get (k := 13) C w wM_c0 rfl inz9 (by decide) hl rfl rfl hdg kk
theorem mp_0_13 (C : CallFix p m c cc nL s args (c0 :: zw_all) own) (w : zg_W D cs A s (wM q cs u) H locs) {v : Int32} (hl : Cond.fieldLink own index RX9 "hunger" "I" ∈ zw_all) (hdg : decode cc pc = .ok (.putfield index, 3)) (kk : ∀ (H1 : Heap) (locs1 : List Loc), zg_W D cs A s (wM q cs (zs_si u 11 v)) H1 locs1 → W p l e R s m args below meth c H1 locs1 cells slots Q (F0 m (pc + 3) ls rest)) : W p l e R s m args below meth c H locs cells slots Q (F0 m pc ls (.int v :: .ref (q 0) :: rest)) := zr_put (k := 13) (ty := .int) C w wM_c0 rfl inz9 tyX9 tyX9_ok nmX9 (by decide) hl rfl rfl (by decide +kernel) rfl rfl (Nat.le_of_ble_eq_true rfl) rfl hdg kk
theorem mg_0_14 (C : CallFix p m c cc nL s args (c0 :: zw_all) own) (w : zg_W D cs A s (wM q cs u) H locs) (hl : Cond.fieldLink own index RX9 "grass" "[I" ∈ zw_all) (hdg : decode cc pc = .ok (.getfield index, 3)) (kk : W p l e R s m args below meth c H locs cells slots Q (F0 m (pc + 3) ls (.ref (q 3) :: rest))) : W p l e R s m args below meth c H locs cells slots Q (F0 m pc ls (.ref (q 0) :: rest)) := zr_get (k := 14) C w wM_c0 rfl inz9 (by decide) hl rfl rfl hdg kk
theorem mg_0_15 (C : CallFix p m c cc nL s args (c0 :: zw_all) own) (w : zg_W D cs A s (wM q cs u) H locs) (hl : Cond.fieldLink own index RX9 "most" "[I" ∈ zw_all) (hdg : decode cc pc = .ok (.getfield index, 3)) (kk : W p l e R s m args below meth c H locs cells slots Q (F0 m (pc + 3) ls (.ref (q 4) :: rest))) : W p l e R s m args below meth c H locs cells slots Q (F0 m pc ls (.ref (q 0) :: rest)) := zr_get (k := 15) C w wM_c0 rfl inz9 (by decide) hl rfl rfl hdg kk
theorem mg_0_16 (C : CallFix p m c cc nL s args (c0 :: zw_all) own) (w : zg_W D cs A s (wM q cs u) H locs) (hl : Cond.fieldLink own index RX9 "growth" "[I" ∈ zw_all) (hdg : decode cc pc = .ok (.getfield index, 3)) (kk : W p l e R s m args below meth c H locs cells slots Q (F0 m (pc + 3) ls (.ref (q 5) :: rest))) : W p l e R s m args below meth c H locs cells slots Q (F0 m pc ls (.ref (q 0) :: rest)) := zr_get (k := 16) C w wM_c0 rfl inz9 (by decide) hl rfl rfl hdg kk
theorem mg_0_17 (C : CallFix p m c cc nL s args (c0 :: zw_all) own) (w : zg_W D cs A s (wM q cs u) H locs) (hl : Cond.fieldLink own index RX9 "eaten" "J" ∈ zw_all) (hdg : decode cc pc = .ok (.getfield index, 3)) (kk : W p l e R s m args below meth c H locs cells slots Q (F0 m (pc + 3) ls (.long (zs_l u 0) :: rest))) : W p l e R s m args below meth c H locs cells slots Q (F0 m pc ls (.ref (q 0) :: rest)) := zr_get (k := 17) C w wM_c0 rfl inz9 (by decide) hl rfl rfl hdg kk
theorem mp_0_17 (C : CallFix p m c cc nL s args (c0 :: zw_all) own) (w : zg_W D cs A s (wM q cs u) H locs) {v : Int64} (hl : Cond.fieldLink own index RX9 "eaten" "J" ∈ zw_all) (hdg : decode cc pc = .ok (.putfield index, 3)) (kk : ∀ (H1 : Heap) (locs1 : List Loc), zg_W D cs A s (wM q cs (zs_sl u 0 v)) H1 locs1 → W p l e R s m args below meth c H1 locs1 cells slots Q (F0 m (pc + 3) ls rest)) : W p l e R s m args below meth c H locs cells slots Q (F0 m pc ls (.long v :: .ref (q 0) :: rest)) := zr_put (k := 17) (ty := .long) C w wM_c0 rfl inz9 tyX9 tyX9_ok nmX9 (by decide) hl rfl rfl (by decide +kernel) rfl rfl (Nat.le_of_ble_eq_true rfl) rfl hdg kk
theorem mg_0_18 (C : CallFix p m c cc nL s args (c0 :: zw_all) own) (w : zg_W D cs A s (wM q cs u) H locs) (hl : Cond.fieldLink own index RX9 "was" "[I" ∈ zw_all) (hdg : decode cc pc = .ok (.getfield index, 3)) (kk : W p l e R s m args below meth c H locs cells slots Q (F0 m (pc + 3) ls (.ref (q 6) :: rest))) : W p l e R s m args below meth c H locs cells slots Q (F0 m pc ls (.ref (q 0) :: rest)) := zr_get (k := 18) C w wM_c0 rfl inz9 (by decide) hl rfl rfl hdg kk
theorem mg_0_19 (C : CallFix p m c cc nL s args (c0 :: zw_all) own) (w : zg_W D cs A s (wM q cs u) H locs) (hl : Cond.fieldLink own index RX9 "way" "[I" ∈ zw_all) (hdg : decode cc pc = .ok (.getfield index, 3)) (kk : W p l e R s m args below meth c H locs cells slots Q (F0 m (pc + 3) ls (.ref (q 7) :: rest))) : W p l e R s m args below meth c H locs cells slots Q (F0 m pc ls (.ref (q 0) :: rest)) := zr_get (k := 19) C w wM_c0 rfl inz9 (by decide) hl rfl rfl hdg kk
theorem mg_0_20 (C : CallFix p m c cc nL s args (c0 :: zw_all) own) (w : zg_W D cs A s (wM q cs u) H locs) (hl : Cond.fieldLink own index RX9 "bestWay" "[I" ∈ zw_all) (hdg : decode cc pc = .ok (.getfield index, 3)) (kk : W p l e R s m args below meth c H locs cells slots Q (F0 m (pc + 3) ls (.ref (q 8) :: rest))) : W p l e R s m args below meth c H locs cells slots Q (F0 m pc ls (.ref (q 0) :: rest)) := zr_get (k := 20) C w wM_c0 rfl inz9 (by decide) hl rfl rfl hdg kk
theorem mg_0_21 (C : CallFix p m c cc nL s args (c0 :: zw_all) own) (w : zg_W D cs A s (wM q cs u) H locs) (hl : Cond.fieldLink own index RX9 "ways" "I" ∈ zw_all) (hdg : decode cc pc = .ok (.getfield index, 3)) (kk : W p l e R s m args below meth c H locs cells slots Q (F0 m (pc + 3) ls (.int (zs_i u 12) :: rest))) : W p l e R s m args below meth c H locs cells slots Q (F0 m pc ls (.ref (q 0) :: rest)) := zr_get (k := 21) C w wM_c0 rfl inz9 (by decide) hl rfl rfl hdg kk
theorem mp_0_21 (C : CallFix p m c cc nL s args (c0 :: zw_all) own) (w : zg_W D cs A s (wM q cs u) H locs) {v : Int32} (hl : Cond.fieldLink own index RX9 "ways" "I" ∈ zw_all) (hdg : decode cc pc = .ok (.putfield index, 3)) (kk : ∀ (H1 : Heap) (locs1 : List Loc), zg_W D cs A s (wM q cs (zs_si u 12 v)) H1 locs1 → W p l e R s m args below meth c H1 locs1 cells slots Q (F0 m (pc + 3) ls rest)) : W p l e R s m args below meth c H locs cells slots Q (F0 m pc ls (.int v :: .ref (q 0) :: rest)) := zr_put (k := 21) (ty := .int) C w wM_c0 rfl inz9 tyX9 tyX9_ok nmX9 (by decide) hl rfl rfl (by decide +kernel) rfl rfl (Nat.le_of_ble_eq_true rfl) rfl hdg kk
theorem mg_0_22 (C : CallFix p m c cc nL s args (c0 :: zw_all) own) (w : zg_W D cs A s (wM q cs u) H locs) (hl : Cond.fieldLink own index RX9 "bestHunger" "I" ∈ zw_all) (hdg : decode cc pc = .ok (.getfield index, 3)) (kk : W p l e R s m args below meth c H locs cells slots Q (F0 m (pc + 3) ls (.int (zs_i u 13) :: rest))) : W p l e R s m args below meth c H locs cells slots Q (F0 m pc ls (.ref (q 0) :: rest)) := zr_get (k := 22) C w wM_c0 rfl inz9 (by decide) hl rfl rfl hdg kk
theorem mp_0_22 (C : CallFix p m c cc nL s args (c0 :: zw_all) own) (w : zg_W D cs A s (wM q cs u) H locs) {v : Int32} (hl : Cond.fieldLink own index RX9 "bestHunger" "I" ∈ zw_all) (hdg : decode cc pc = .ok (.putfield index, 3)) (kk : ∀ (H1 : Heap) (locs1 : List Loc), zg_W D cs A s (wM q cs (zs_si u 13 v)) H1 locs1 → W p l e R s m args below meth c H1 locs1 cells slots Q (F0 m (pc + 3) ls rest)) : W p l e R s m args below meth c H locs cells slots Q (F0 m pc ls (.int v :: .ref (q 0) :: rest)) := zr_put (k := 22) (ty := .int) C w wM_c0 rfl inz9 tyX9 tyX9_ok nmX9 (by decide) hl rfl rfl (by decide +kernel) rfl rfl (Nat.le_of_ble_eq_true rfl) rfl hdg kk
theorem mg_0_23 (C : CallFix p m c cc nL s args (c0 :: zw_all) own) (w : zg_W D cs A s (wM q cs u) H locs) (hl : Cond.fieldLink own index RX9 "bestGrass" "I" ∈ zw_all) (hdg : decode cc pc = .ok (.getfield index, 3)) (kk : W p l e R s m args below meth c H locs cells slots Q (F0 m (pc + 3) ls (.int (zs_i u 14) :: rest))) : W p l e R s m args below meth c H locs cells slots Q (F0 m pc ls (.ref (q 0) :: rest)) := zr_get (k := 23) C w wM_c0 rfl inz9 (by decide) hl rfl rfl hdg kk
theorem mp_0_23 (C : CallFix p m c cc nL s args (c0 :: zw_all) own) (w : zg_W D cs A s (wM q cs u) H locs) {v : Int32} (hl : Cond.fieldLink own index RX9 "bestGrass" "I" ∈ zw_all) (hdg : decode cc pc = .ok (.putfield index, 3)) (kk : ∀ (H1 : Heap) (locs1 : List Loc), zg_W D cs A s (wM q cs (zs_si u 14 v)) H1 locs1 → W p l e R s m args below meth c H1 locs1 cells slots Q (F0 m (pc + 3) ls rest)) : W p l e R s m args below meth c H locs cells slots Q (F0 m pc ls (.int v :: .ref (q 0) :: rest)) := zr_put (k := 23) (ty := .int) C w wM_c0 rfl inz9 tyX9 tyX9_ok nmX9 (by decide) hl rfl rfl (by decide +kernel) rfl rfl (Nat.le_of_ble_eq_true rfl) rfl hdg kk
theorem mg_0_24 (C : CallFix p m c cc nL s args (c0 :: zw_all) own) (w : zg_W D cs A s (wM q cs u) H locs) (hl : Cond.fieldLink own index RX9 "sheep" "I" ∈ zw_all) (hdg : decode cc pc = .ok (.getfield index, 3)) (kk : W p l e R s m args below meth c H locs cells slots Q (F0 m (pc + 3) ls (.int (zs_i u 15) :: rest))) : W p l e R s m args below meth c H locs cells slots Q (F0 m pc ls (.ref (q 0) :: rest)) := zr_get (k := 24) C w wM_c0 rfl inz9 (by decide) hl rfl rfl hdg kk
theorem mp_0_24 (C : CallFix p m c cc nL s args (c0 :: zw_all) own) (w : zg_W D cs A s (wM q cs u) H locs) {v : Int32} (hl : Cond.fieldLink own index RX9 "sheep" "I" ∈ zw_all) (hdg : decode cc pc = .ok (.putfield index, 3)) (kk : ∀ (H1 : Heap) (locs1 : List Loc), zg_W D cs A s (wM q cs (zs_si u 15 v)) H1 locs1 → W p l e R s m args below meth c H1 locs1 cells slots Q (F0 m (pc + 3) ls rest)) : W p l e R s m args below meth c H locs cells slots Q (F0 m pc ls (.int v :: .ref (q 0) :: rest)) := zr_put (k := 24) (ty := .int) C w wM_c0 rfl inz9 tyX9 tyX9_ok nmX9 (by decide) hl rfl rfl (by decide +kernel) rfl rfl (Nat.le_of_ble_eq_true rfl) rfl hdg kk
theorem mg_0_25 (C : CallFix p m c cc nL s args (c0 :: zw_all) own) (w : zg_W D cs A s (wM q cs u) H locs) (hl : Cond.fieldLink own index RX9 "entries" "I" ∈ zw_all) (hdg : decode cc pc = .ok (.getfield index, 3)) (kk : W p l e R s m args below meth c H locs cells slots Q (F0 m (pc + 3) ls (.int (zs_i u 16) :: rest))) : W p l e R s m args below meth c H locs cells slots Q (F0 m pc ls (.ref (q 0) :: rest)) := zr_get (k := 25) C w wM_c0 rfl inz9 (by decide) hl rfl rfl hdg kk
theorem mp_0_25 (C : CallFix p m c cc nL s args (c0 :: zw_all) own) (w : zg_W D cs A s (wM q cs u) H locs) {v : Int32} (hl : Cond.fieldLink own index RX9 "entries" "I" ∈ zw_all) (hdg : decode cc pc = .ok (.putfield index, 3)) (kk : ∀ (H1 : Heap) (locs1 : List Loc), zg_W D cs A s (wM q cs (zs_si u 16 v)) H1 locs1 → W p l e R s m args below meth c H1 locs1 cells slots Q (F0 m (pc + 3) ls rest)) : W p l e R s m args below meth c H locs cells slots Q (F0 m pc ls (.int v :: .ref (q 0) :: rest)) := zr_put (k := 25) (ty := .int) C w wM_c0 rfl inz9 tyX9 tyX9_ok nmX9 (by decide) hl rfl rfl (by decide +kernel) rfl rfl (Nat.le_of_ble_eq_true rfl) rfl hdg kk
theorem mg_0_26 (C : CallFix p m c cc nL s args (c0 :: zw_all) own) (w : zg_W D cs A s (wM q cs u) H locs) (hl : Cond.fieldLink own index RX9 "milkingDay" "I" ∈ zw_all) (hdg : decode cc pc = .ok (.getfield index, 3)) (kk : W p l e R s m args below meth c H locs cells slots Q (F0 m (pc + 3) ls (.int (zs_i u 17) :: rest))) : W p l e R s m args below meth c H locs cells slots Q (F0 m pc ls (.ref (q 0) :: rest)) := zr_get (k := 26) C w wM_c0 rfl inz9 (by decide) hl rfl rfl hdg kk
theorem mp_0_26 (C : CallFix p m c cc nL s args (c0 :: zw_all) own) (w : zg_W D cs A s (wM q cs u) H locs) {v : Int32} (hl : Cond.fieldLink own index RX9 "milkingDay" "I" ∈ zw_all) (hdg : decode cc pc = .ok (.putfield index, 3)) (kk : ∀ (H1 : Heap) (locs1 : List Loc), zg_W D cs A s (wM q cs (zs_si u 17 v)) H1 locs1 → W p l e R s m args below meth c H1 locs1 cells slots Q (F0 m (pc + 3) ls rest)) : W p l e R s m args below meth c H locs cells slots Q (F0 m pc ls (.int v :: .ref (q 0) :: rest)) := zr_put (k := 26) (ty := .int) C w wM_c0 rfl inz9 tyX9 tyX9_ok nmX9 (by decide) hl rfl rfl (by decide +kernel) rfl rfl (Nat.le_of_ble_eq_true rfl) rfl hdg kk
theorem mg_0_27 (C : CallFix p m c cc nL s args (c0 :: zw_all) own) (w : zg_W D cs A s (wM q cs u) H locs) (hl : Cond.fieldLink own index RX9 "owner" "[I" ∈ zw_all) (hdg : decode cc pc = .ok (.getfield index, 3)) (kk : W p l e R s m args below meth c H locs cells slots Q (F0 m (pc + 3) ls (.ref (q 9) :: rest))) : W p l e R s m args below meth c H locs cells slots Q (F0 m pc ls (.ref (q 0) :: rest)) := zr_get (k := 27) C w wM_c0 rfl inz9 (by decide) hl rfl rfl hdg kk
theorem mg_0_28 (C : CallFix p m c cc nL s args (c0 :: zw_all) own) (w : zg_W D cs A s (wM q cs u) H locs) (hl : Cond.fieldLink own index RX9 "milk" "[I" ∈ zw_all) (hdg : decode cc pc = .ok (.getfield index, 3)) (kk : W p l e R s m args below meth c H locs cells slots Q (F0 m (pc + 3) ls (.ref (q 10) :: rest))) : W p l e R s m args below meth c H locs cells slots Q (F0 m pc ls (.ref (q 0) :: rest)) := zr_get (k := 28) C w wM_c0 rfl inz9 (by decide) hl rfl rfl hdg kk
theorem mg_0_29 (C : CallFix p m c cc nL s args (c0 :: zw_all) own) (w : zg_W D cs A s (wM q cs u) H locs) (hl : Cond.fieldLink own index RX9 "wasDead" "[Z" ∈ zw_all) (hdg : decode cc pc = .ok (.getfield index, 3)) (kk : W p l e R s m args below meth c H locs cells slots Q (F0 m (pc + 3) ls (.ref (q 11) :: rest))) : W p l e R s m args below meth c H locs cells slots Q (F0 m pc ls (.ref (q 0) :: rest)) := zr_get (k := 29) C w wM_c0 rfl inz9 (by decide) hl rfl rfl hdg kk
theorem mg_0_30 (C : CallFix p m c cc nL s args (c0 :: zw_all) own) (w : zg_W D cs A s (wM q cs u) H locs) (hl : Cond.fieldLink own index RX9 "what" "[I" ∈ zw_all) (hdg : decode cc pc = .ok (.getfield index, 3)) (kk : W p l e R s m args below meth c H locs cells slots Q (F0 m (pc + 3) ls (.ref (q 12) :: rest))) : W p l e R s m args below meth c H locs cells slots Q (F0 m pc ls (.ref (q 0) :: rest)) := zr_get (k := 30) C w wM_c0 rfl inz9 (by decide) hl rfl rfl hdg kk
theorem mg_0_31 (C : CallFix p m c cc nL s args (c0 :: zw_all) own) (w : zg_W D cs A s (wM q cs u) H locs) (hl : Cond.fieldLink own index RX9 "of" "[I" ∈ zw_all) (hdg : decode cc pc = .ok (.getfield index, 3)) (kk : W p l e R s m args below meth c H locs cells slots Q (F0 m (pc + 3) ls (.ref (q 13) :: rest))) : W p l e R s m args below meth c H locs cells slots Q (F0 m pc ls (.ref (q 0) :: rest)) := zr_get (k := 31) C w wM_c0 rfl inz9 (by decide) hl rfl rfl hdg kk
theorem mg_0_32 (C : CallFix p m c cc nL s args (c0 :: zw_all) own) (w : zg_W D cs A s (wM q cs u) H locs) (hl : Cond.fieldLink own index RX9 "on" "[I" ∈ zw_all) (hdg : decode cc pc = .ok (.getfield index, 3)) (kk : W p l e R s m args below meth c H locs cells slots Q (F0 m (pc + 3) ls (.ref (q 14) :: rest))) : W p l e R s m args below meth c H locs cells slots Q (F0 m pc ls (.ref (q 0) :: rest)) := zr_get (k := 32) C w wM_c0 rfl inz9 (by decide) hl rfl rfl hdg kk
theorem mg_0_33 (C : CallFix p m c cc nL s args (c0 :: zw_all) own) (w : zg_W D cs A s (wM q cs u) H locs) (hl : Cond.fieldLink own index RX9 "to" "[I" ∈ zw_all) (hdg : decode cc pc = .ok (.getfield index, 3)) (kk : W p l e R s m args below meth c H locs cells slots Q (F0 m (pc + 3) ls (.ref (q 15) :: rest))) : W p l e R s m args below meth c H locs cells slots Q (F0 m pc ls (.ref (q 0) :: rest)) := zr_get (k := 33) C w wM_c0 rfl inz9 (by decide) hl rfl rfl hdg kk
theorem mg_0_34 (C : CallFix p m c cc nL s args (c0 :: zw_all) own) (w : zg_W D cs A s (wM q cs u) H locs) (hl : Cond.fieldLink own index RX9 "isUp" "Z" ∈ zw_all) (hdg : decode cc pc = .ok (.getfield index, 3)) (kk : W p l e R s m args below meth c H locs cells slots Q (F0 m (pc + 3) ls (.int (zs_i u 18) :: rest))) : W p l e R s m args below meth c H locs cells slots Q (F0 m pc ls (.ref (q 0) :: rest)) := zr_get (k := 34) C w wM_c0 rfl inz9 (by decide) hl rfl rfl hdg kk
theorem mp_0_34 (C : CallFix p m c cc nL s args (c0 :: zw_all) own) (w : zg_W D cs A s (wM q cs u) H locs) {v : Int32} (hz : zf_z v = true) (hl : Cond.fieldLink own index RX9 "isUp" "Z" ∈ zw_all) (hdg : decode cc pc = .ok (.putfield index, 3)) (kk : ∀ (H1 : Heap) (locs1 : List Loc), zg_W D cs A s (wM q cs (zs_si u 18 v)) H1 locs1 → W p l e R s m args below meth c H1 locs1 cells slots Q (F0 m (pc + 3) ls rest)) : W p l e R s m args below meth c H locs cells slots Q (F0 m pc ls (.int v :: .ref (q 0) :: rest)) := zr_put (k := 34) (ty := .boolean) C w wM_c0 rfl inz9 tyX9 tyX9_ok nmX9 (by decide) hl rfl rfl (by decide +kernel) (zf_z_nar hz) (zf_z_fit hz) (Nat.le_of_ble_eq_true rfl) rfl hdg kk
theorem mg_0_35 (C : CallFix p m c cc nL s args (c0 :: zw_all) own) (w : zg_W D cs A s (wM q cs u) H locs) (hl : Cond.fieldLink own index RX9 "isDead" "Z" ∈ zw_all) (hdg : decode cc pc = .ok (.getfield index, 3)) (kk : W p l e R s m args below meth c H locs cells slots Q (F0 m (pc + 3) ls (.int (zs_i u 19) :: rest))) : W p l e R s m args below meth c H locs cells slots Q (F0 m pc ls (.ref (q 0) :: rest)) := zr_get (k := 35) C w wM_c0 rfl inz9 (by decide) hl rfl rfl hdg kk
theorem mp_0_35 (C : CallFix p m c cc nL s args (c0 :: zw_all) own) (w : zg_W D cs A s (wM q cs u) H locs) {v : Int32} (hz : zf_z v = true) (hl : Cond.fieldLink own index RX9 "isDead" "Z" ∈ zw_all) (hdg : decode cc pc = .ok (.putfield index, 3)) (kk : ∀ (H1 : Heap) (locs1 : List Loc), zg_W D cs A s (wM q cs (zs_si u 19 v)) H1 locs1 → W p l e R s m args below meth c H1 locs1 cells slots Q (F0 m (pc + 3) ls rest)) : W p l e R s m args below meth c H locs cells slots Q (F0 m pc ls (.int v :: .ref (q 0) :: rest)) := zr_put (k := 35) (ty := .boolean) C w wM_c0 rfl inz9 tyX9 tyX9_ok nmX9 (by decide) hl rfl rfl (by decide +kernel) (zf_z_nar hz) (zf_z_fit hz) (Nat.le_of_ble_eq_true rfl) rfl hdg kk
theorem mg_0_36 (C : CallFix p m c cc nL s args (c0 :: zw_all) own) (w : zg_W D cs A s (wM q cs u) H locs) (hl : Cond.fieldLink own index RX9 "has" "I" ∈ zw_all) (hdg : decode cc pc = .ok (.getfield index, 3)) (kk : W p l e R s m args below meth c H locs cells slots Q (F0 m (pc + 3) ls (.int (zs_i u 20) :: rest))) : W p l e R s m args below meth c H locs cells slots Q (F0 m pc ls (.ref (q 0) :: rest)) := zr_get (k := 36) C w wM_c0 rfl inz9 (by decide) hl rfl rfl hdg kk
theorem mp_0_36 (C : CallFix p m c cc nL s args (c0 :: zw_all) own) (w : zg_W D cs A s (wM q cs u) H locs) {v : Int32} (hl : Cond.fieldLink own index RX9 "has" "I" ∈ zw_all) (hdg : decode cc pc = .ok (.putfield index, 3)) (kk : ∀ (H1 : Heap) (locs1 : List Loc), zg_W D cs A s (wM q cs (zs_si u 20 v)) H1 locs1 → W p l e R s m args below meth c H1 locs1 cells slots Q (F0 m (pc + 3) ls rest)) : W p l e R s m args below meth c H locs cells slots Q (F0 m pc ls (.int v :: .ref (q 0) :: rest)) := zr_put (k := 36) (ty := .int) C w wM_c0 rfl inz9 tyX9 tyX9_ok nmX9 (by decide) hl rfl rfl (by decide +kernel) rfl rfl (Nat.le_of_ble_eq_true rfl) rfl hdg kk
theorem mg_0_37 (C : CallFix p m c cc nL s args (c0 :: zw_all) own) (w : zg_W D cs A s (wM q cs u) H locs) (hl : Cond.fieldLink own index RX9 "daysOf" "[I" ∈ zw_all) (hdg : decode cc pc = .ok (.getfield index, 3)) (kk : W p l e R s m args below meth c H locs cells slots Q (F0 m (pc + 3) ls (.ref (q 16) :: rest))) : W p l e R s m args below meth c H locs cells slots Q (F0 m pc ls (.ref (q 0) :: rest)) := zr_get (k := 37) C w wM_c0 rfl inz9 (by decide) hl rfl rfl hdg kk
theorem mg_0_38 (C : CallFix p m c cc nL s args (c0 :: zw_all) own) (w : zg_W D cs A s (wM q cs u) H locs) (hl : Cond.fieldLink own index RX9 "parts" "[I" ∈ zw_all) (hdg : decode cc pc = .ok (.getfield index, 3)) (kk : W p l e R s m args below meth c H locs cells slots Q (F0 m (pc + 3) ls (.ref (q 17) :: rest))) : W p l e R s m args below meth c H locs cells slots Q (F0 m pc ls (.ref (q 0) :: rest)) := zr_get (k := 38) C w wM_c0 rfl inz9 (by decide) hl rfl rfl hdg kk
theorem mg_0_39 (C : CallFix p m c cc nL s args (c0 :: zw_all) own) (w : zg_W D cs A s (wM q cs u) H locs) (hl : Cond.fieldLink own index RX9 "turn" "[I" ∈ zw_all) (hdg : decode cc pc = .ok (.getfield index, 3)) (kk : W p l e R s m args below meth c H locs cells slots Q (F0 m (pc + 3) ls (.ref (q 18) :: rest))) : W p l e R s m args below meth c H locs cells slots Q (F0 m pc ls (.ref (q 0) :: rest)) := zr_get (k := 39) C w wM_c0 rfl inz9 (by decide) hl rfl rfl hdg kk
theorem mg_0_40 (C : CallFix p m c cc nL s args (c0 :: zw_all) own) (w : zg_W D cs A s (wM q cs u) H locs) (hl : Cond.fieldLink own index RX9 "cheeses" "[I" ∈ zw_all) (hdg : decode cc pc = .ok (.getfield index, 3)) (kk : W p l e R s m args below meth c H locs cells slots Q (F0 m (pc + 3) ls (.ref (q 19) :: rest))) : W p l e R s m args below meth c H locs cells slots Q (F0 m pc ls (.ref (q 0) :: rest)) := zr_get (k := 40) C w wM_c0 rfl inz9 (by decide) hl rfl rfl hdg kk
theorem mg_0_41 (C : CallFix p m c cc nL s args (c0 :: zw_all) own) (w : zg_W D cs A s (wM q cs u) H locs) (hl : Cond.fieldLink own index RX9 "latest" "[I" ∈ zw_all) (hdg : decode cc pc = .ok (.getfield index, 3)) (kk : W p l e R s m args below meth c H locs cells slots Q (F0 m (pc + 3) ls (.ref (q 20) :: rest))) : W p l e R s m args below meth c H locs cells slots Q (F0 m pc ls (.ref (q 0) :: rest)) := zr_get (k := 41) C w wM_c0 rfl inz9 (by decide) hl rfl rfl hdg kk
theorem mg_0_42 (C : CallFix p m c cc nL s args (c0 :: zw_all) own) (w : zg_W D cs A s (wM q cs u) H locs) (hl : Cond.fieldLink own index RX9 "balance" "[J" ∈ zw_all) (hdg : decode cc pc = .ok (.getfield index, 3)) (kk : W p l e R s m args below meth c H locs cells slots Q (F0 m (pc + 3) ls (.ref (q 21) :: rest))) : W p l e R s m args below meth c H locs cells slots Q (F0 m pc ls (.ref (q 0) :: rest)) := zr_get (k := 42) C w wM_c0 rfl inz9 (by decide) hl rfl rfl hdg kk
theorem mg_0_43 (C : CallFix p m c cc nL s args (c0 :: zw_all) own) (w : zg_W D cs A s (wM q cs u) H locs) (hl : Cond.fieldLink own index RX9 "money" "[J" ∈ zw_all) (hdg : decode cc pc = .ok (.getfield index, 3)) (kk : W p l e R s m args below meth c H locs cells slots Q (F0 m (pc + 3) ls (.ref (q 22) :: rest))) : W p l e R s m args below meth c H locs cells slots Q (F0 m pc ls (.ref (q 0) :: rest)) := zr_get (k := 43) C w wM_c0 rfl inz9 (by decide) hl rfl rfl hdg kk
theorem mg_0_44 (C : CallFix p m c cc nL s args (c0 :: zw_all) own) (w : zg_W D cs A s (wM q cs u) H locs) (hl : Cond.fieldLink own index RX9 "own" "J" ∈ zw_all) (hdg : decode cc pc = .ok (.getfield index, 3)) (kk : W p l e R s m args below meth c H locs cells slots Q (F0 m (pc + 3) ls (.long (zs_l u 1) :: rest))) : W p l e R s m args below meth c H locs cells slots Q (F0 m pc ls (.ref (q 0) :: rest)) := zr_get (k := 44) C w wM_c0 rfl inz9 (by decide) hl rfl rfl hdg kk
theorem mp_0_44 (C : CallFix p m c cc nL s args (c0 :: zw_all) own) (w : zg_W D cs A s (wM q cs u) H locs) {v : Int64} (hl : Cond.fieldLink own index RX9 "own" "J" ∈ zw_all) (hdg : decode cc pc = .ok (.putfield index, 3)) (kk : ∀ (H1 : Heap) (locs1 : List Loc), zg_W D cs A s (wM q cs (zs_sl u 1 v)) H1 locs1 → W p l e R s m args below meth c H1 locs1 cells slots Q (F0 m (pc + 3) ls rest)) : W p l e R s m args below meth c H locs cells slots Q (F0 m pc ls (.long v :: .ref (q 0) :: rest)) := zr_put (k := 44) (ty := .long) C w wM_c0 rfl inz9 tyX9 tyX9_ok nmX9 (by decide) hl rfl rfl (by decide +kernel) rfl rfl (Nat.le_of_ble_eq_true rfl) rfl hdg kk
theorem ma_1 (C : CallFix p m c cc nL s args (c0 :: zw_all) own) (w : zg_W D cs A s (wM q cs u) H locs) {i : Int32} (hi : zf_in i 40 = true) (hdg : decode cc pc = .ok (.baload, 1)) (kk : W p l e R s m args below meth c H locs cells slots Q (F0 m (pc + 1) ls (.int (zs_a u 0 i.toNatClampNeg) :: rest))) : W p l e R s m args below meth c H locs cells slots Q (F0 m pc ls (.int i :: .ref (q 1) :: rest)) := zr_bald C w wM_c1 hi hdg kk
theorem wM_s1 {q : Nat → Nat} {cs : Nat → ClassId} {u : zs_T} {f : Nat → Int32} : (wM q cs u).set 1 (q 1, .inl (cs 3, 40, .inl f)) = wM q cs (zs_sa u 0 f) := rfl
theorem ms_1 (C : CallFix p m c cc nL s args (c0 :: zw_all) own) (w : zg_W D cs A s (wM q cs u) H locs) {i : Int32} {x : Int32} (hi : zf_in i 40 = true) (hdg : decode cc pc = .ok (.bastore, 1)) (kk : ∀ (H1 : Heap) (locs1 : List Loc), zg_W D cs A s (wM q cs (zs_sa u 0 (upd (zs_a u 0) i.toNatClampNeg (vp_nar .byte x)))) H1 locs1 → W p l e R s m args below meth c H1 locs1 cells slots Q (F0 m (pc + 1) ls rest)) : W p l e R s m args below meth c H locs cells slots Q (F0 m pc ls (.int x :: .int i :: .ref (q 1) :: rest)) := zr_bast C w wM_c1 hi wM_s1 hdg kk
theorem ma_2 (C : CallFix p m c cc nL s args (c0 :: zw_all) own) (w : zg_W D cs A s (wM q cs u) H locs) {i : Int32} (hi : zf_in i 4 = true) (hdg : decode cc pc = .ok (.iaload, 1)) (kk : W p l e R s m args below meth c H locs cells slots Q (F0 m (pc + 1) ls (.int (zs_a u 1 i.toNatClampNeg) :: rest))) : W p l e R s m args below meth c H locs cells slots Q (F0 m pc ls (.int i :: .ref (q 2) :: rest)) := zr_iald C w wM_c2 hi hdg kk
theorem wM_s2 {q : Nat → Nat} {cs : Nat → ClassId} {u : zs_T} {f : Nat → Int32} : (wM q cs u).set 2 (q 2, .inl (cs 0, 4, .inl f)) = wM q cs (zs_sa u 1 f) := rfl
theorem ms_2 (C : CallFix p m c cc nL s args (c0 :: zw_all) own) (w : zg_W D cs A s (wM q cs u) H locs) {i : Int32} {x : Int32} (hi : zf_in i 4 = true) (hdg : decode cc pc = .ok (.iastore, 1)) (kk : ∀ (H1 : Heap) (locs1 : List Loc), zg_W D cs A s (wM q cs (zs_sa u 1 (upd (zs_a u 1) i.toNatClampNeg x))) H1 locs1 → W p l e R s m args below meth c H1 locs1 cells slots Q (F0 m (pc + 1) ls rest)) : W p l e R s m args below meth c H locs cells slots Q (F0 m pc ls (.int x :: .int i :: .ref (q 2) :: rest)) := zr_iast C w wM_c2 hi wM_s2 hdg kk
theorem ma_3 (C : CallFix p m c cc nL s args (c0 :: zw_all) own) (w : zg_W D cs A s (wM q cs u) H locs) {i : Int32} (hi : zf_in i 6 = true) (hdg : decode cc pc = .ok (.iaload, 1)) (kk : W p l e R s m args below meth c H locs cells slots Q (F0 m (pc + 1) ls (.int (zs_a u 2 i.toNatClampNeg) :: rest))) : W p l e R s m args below meth c H locs cells slots Q (F0 m pc ls (.int i :: .ref (q 3) :: rest)) := zr_iald C w wM_c3 hi hdg kk
theorem wM_s3 {q : Nat → Nat} {cs : Nat → ClassId} {u : zs_T} {f : Nat → Int32} : (wM q cs u).set 3 (q 3, .inl (cs 0, 6, .inl f)) = wM q cs (zs_sa u 2 f) := rfl
theorem ms_3 (C : CallFix p m c cc nL s args (c0 :: zw_all) own) (w : zg_W D cs A s (wM q cs u) H locs) {i : Int32} {x : Int32} (hi : zf_in i 6 = true) (hdg : decode cc pc = .ok (.iastore, 1)) (kk : ∀ (H1 : Heap) (locs1 : List Loc), zg_W D cs A s (wM q cs (zs_sa u 2 (upd (zs_a u 2) i.toNatClampNeg x))) H1 locs1 → W p l e R s m args below meth c H1 locs1 cells slots Q (F0 m (pc + 1) ls rest)) : W p l e R s m args below meth c H locs cells slots Q (F0 m pc ls (.int x :: .int i :: .ref (q 3) :: rest)) := zr_iast C w wM_c3 hi wM_s3 hdg kk
theorem ma_4 (C : CallFix p m c cc nL s args (c0 :: zw_all) own) (w : zg_W D cs A s (wM q cs u) H locs) {i : Int32} (hi : zf_in i 6 = true) (hdg : decode cc pc = .ok (.iaload, 1)) (kk : W p l e R s m args below meth c H locs cells slots Q (F0 m (pc + 1) ls (.int (zs_a u 3 i.toNatClampNeg) :: rest))) : W p l e R s m args below meth c H locs cells slots Q (F0 m pc ls (.int i :: .ref (q 4) :: rest)) := zr_iald C w wM_c4 hi hdg kk
theorem wM_s4 {q : Nat → Nat} {cs : Nat → ClassId} {u : zs_T} {f : Nat → Int32} : (wM q cs u).set 4 (q 4, .inl (cs 0, 6, .inl f)) = wM q cs (zs_sa u 3 f) := rfl
theorem ms_4 (C : CallFix p m c cc nL s args (c0 :: zw_all) own) (w : zg_W D cs A s (wM q cs u) H locs) {i : Int32} {x : Int32} (hi : zf_in i 6 = true) (hdg : decode cc pc = .ok (.iastore, 1)) (kk : ∀ (H1 : Heap) (locs1 : List Loc), zg_W D cs A s (wM q cs (zs_sa u 3 (upd (zs_a u 3) i.toNatClampNeg x))) H1 locs1 → W p l e R s m args below meth c H1 locs1 cells slots Q (F0 m (pc + 1) ls rest)) : W p l e R s m args below meth c H locs cells slots Q (F0 m pc ls (.int x :: .int i :: .ref (q 4) :: rest)) := zr_iast C w wM_c4 hi wM_s4 hdg kk
theorem ma_5 (C : CallFix p m c cc nL s args (c0 :: zw_all) own) (w : zg_W D cs A s (wM q cs u) H locs) {i : Int32} (hi : zf_in i 6 = true) (hdg : decode cc pc = .ok (.iaload, 1)) (kk : W p l e R s m args below meth c H locs cells slots Q (F0 m (pc + 1) ls (.int (zs_a u 4 i.toNatClampNeg) :: rest))) : W p l e R s m args below meth c H locs cells slots Q (F0 m pc ls (.int i :: .ref (q 5) :: rest)) := zr_iald C w wM_c5 hi hdg kk
theorem wM_s5 {q : Nat → Nat} {cs : Nat → ClassId} {u : zs_T} {f : Nat → Int32} : (wM q cs u).set 5 (q 5, .inl (cs 0, 6, .inl f)) = wM q cs (zs_sa u 4 f) := rfl
theorem ms_5 (C : CallFix p m c cc nL s args (c0 :: zw_all) own) (w : zg_W D cs A s (wM q cs u) H locs) {i : Int32} {x : Int32} (hi : zf_in i 6 = true) (hdg : decode cc pc = .ok (.iastore, 1)) (kk : ∀ (H1 : Heap) (locs1 : List Loc), zg_W D cs A s (wM q cs (zs_sa u 4 (upd (zs_a u 4) i.toNatClampNeg x))) H1 locs1 → W p l e R s m args below meth c H1 locs1 cells slots Q (F0 m (pc + 1) ls rest)) : W p l e R s m args below meth c H locs cells slots Q (F0 m pc ls (.int x :: .int i :: .ref (q 5) :: rest)) := zr_iast C w wM_c5 hi wM_s5 hdg kk
theorem ma_6 (C : CallFix p m c cc nL s args (c0 :: zw_all) own) (w : zg_W D cs A s (wM q cs u) H locs) {i : Int32} (hi : zf_in i 6 = true) (hdg : decode cc pc = .ok (.iaload, 1)) (kk : W p l e R s m args below meth c H locs cells slots Q (F0 m (pc + 1) ls (.int (zs_a u 5 i.toNatClampNeg) :: rest))) : W p l e R s m args below meth c H locs cells slots Q (F0 m pc ls (.int i :: .ref (q 6) :: rest)) := zr_iald C w wM_c6 hi hdg kk
theorem wM_s6 {q : Nat → Nat} {cs : Nat → ClassId} {u : zs_T} {f : Nat → Int32} : (wM q cs u).set 6 (q 6, .inl (cs 0, 6, .inl f)) = wM q cs (zs_sa u 5 f) := rfl
theorem ms_6 (C : CallFix p m c cc nL s args (c0 :: zw_all) own) (w : zg_W D cs A s (wM q cs u) H locs) {i : Int32} {x : Int32} (hi : zf_in i 6 = true) (hdg : decode cc pc = .ok (.iastore, 1)) (kk : ∀ (H1 : Heap) (locs1 : List Loc), zg_W D cs A s (wM q cs (zs_sa u 5 (upd (zs_a u 5) i.toNatClampNeg x))) H1 locs1 → W p l e R s m args below meth c H1 locs1 cells slots Q (F0 m (pc + 1) ls rest)) : W p l e R s m args below meth c H locs cells slots Q (F0 m pc ls (.int x :: .int i :: .ref (q 6) :: rest)) := zr_iast C w wM_c6 hi wM_s6 hdg kk
theorem ma_7 (C : CallFix p m c cc nL s args (c0 :: zw_all) own) (w : zg_W D cs A s (wM q cs u) H locs) {i : Int32} (hi : zf_in i 8 = true) (hdg : decode cc pc = .ok (.iaload, 1)) (kk : W p l e R s m args below meth c H locs cells slots Q (F0 m (pc + 1) ls (.int (zs_a u 6 i.toNatClampNeg) :: rest))) : W p l e R s m args below meth c H locs cells slots Q (F0 m pc ls (.int i :: .ref (q 7) :: rest)) := zr_iald C w wM_c7 hi hdg kk
theorem wM_s7 {q : Nat → Nat} {cs : Nat → ClassId} {u : zs_T} {f : Nat → Int32} : (wM q cs u).set 7 (q 7, .inl (cs 0, 8, .inl f)) = wM q cs (zs_sa u 6 f) := rfl
theorem ms_7 (C : CallFix p m c cc nL s args (c0 :: zw_all) own) (w : zg_W D cs A s (wM q cs u) H locs) {i : Int32} {x : Int32} (hi : zf_in i 8 = true) (hdg : decode cc pc = .ok (.iastore, 1)) (kk : ∀ (H1 : Heap) (locs1 : List Loc), zg_W D cs A s (wM q cs (zs_sa u 6 (upd (zs_a u 6) i.toNatClampNeg x))) H1 locs1 → W p l e R s m args below meth c H1 locs1 cells slots Q (F0 m (pc + 1) ls rest)) : W p l e R s m args below meth c H locs cells slots Q (F0 m pc ls (.int x :: .int i :: .ref (q 7) :: rest)) := zr_iast C w wM_c7 hi wM_s7 hdg kk
theorem ma_8 (C : CallFix p m c cc nL s args (c0 :: zw_all) own) (w : zg_W D cs A s (wM q cs u) H locs) {i : Int32} (hi : zf_in i 8 = true) (hdg : decode cc pc = .ok (.iaload, 1)) (kk : W p l e R s m args below meth c H locs cells slots Q (F0 m (pc + 1) ls (.int (zs_a u 7 i.toNatClampNeg) :: rest))) : W p l e R s m args below meth c H locs cells slots Q (F0 m pc ls (.int i :: .ref (q 8) :: rest)) := zr_iald C w wM_c8 hi hdg kk
theorem wM_s8 {q : Nat → Nat} {cs : Nat → ClassId} {u : zs_T} {f : Nat → Int32} : (wM q cs u).set 8 (q 8, .inl (cs 0, 8, .inl f)) = wM q cs (zs_sa u 7 f) := rfl
theorem ms_8 (C : CallFix p m c cc nL s args (c0 :: zw_all) own) (w : zg_W D cs A s (wM q cs u) H locs) {i : Int32} {x : Int32} (hi : zf_in i 8 = true) (hdg : decode cc pc = .ok (.iastore, 1)) (kk : ∀ (H1 : Heap) (locs1 : List Loc), zg_W D cs A s (wM q cs (zs_sa u 7 (upd (zs_a u 7) i.toNatClampNeg x))) H1 locs1 → W p l e R s m args below meth c H1 locs1 cells slots Q (F0 m (pc + 1) ls rest)) : W p l e R s m args below meth c H locs cells slots Q (F0 m pc ls (.int x :: .int i :: .ref (q 8) :: rest)) := zr_iast C w wM_c8 hi wM_s8 hdg kk
theorem ma_9 (C : CallFix p m c cc nL s args (c0 :: zw_all) own) (w : zg_W D cs A s (wM q cs u) H locs) {i : Int32} (hi : zf_in i 80 = true) (hdg : decode cc pc = .ok (.iaload, 1)) (kk : W p l e R s m args below meth c H locs cells slots Q (F0 m (pc + 1) ls (.int (zs_a u 8 i.toNatClampNeg) :: rest))) : W p l e R s m args below meth c H locs cells slots Q (F0 m pc ls (.int i :: .ref (q 9) :: rest)) := zr_iald C w wM_c9 hi hdg kk
theorem wM_s9 {q : Nat → Nat} {cs : Nat → ClassId} {u : zs_T} {f : Nat → Int32} : (wM q cs u).set 9 (q 9, .inl (cs 0, 80, .inl f)) = wM q cs (zs_sa u 8 f) := rfl
theorem ms_9 (C : CallFix p m c cc nL s args (c0 :: zw_all) own) (w : zg_W D cs A s (wM q cs u) H locs) {i : Int32} {x : Int32} (hi : zf_in i 80 = true) (hdg : decode cc pc = .ok (.iastore, 1)) (kk : ∀ (H1 : Heap) (locs1 : List Loc), zg_W D cs A s (wM q cs (zs_sa u 8 (upd (zs_a u 8) i.toNatClampNeg x))) H1 locs1 → W p l e R s m args below meth c H1 locs1 cells slots Q (F0 m (pc + 1) ls rest)) : W p l e R s m args below meth c H locs cells slots Q (F0 m pc ls (.int x :: .int i :: .ref (q 9) :: rest)) := zr_iast C w wM_c9 hi wM_s9 hdg kk
theorem ma_10 (C : CallFix p m c cc nL s args (c0 :: zw_all) own) (w : zg_W D cs A s (wM q cs u) H locs) {i : Int32} (hi : zf_in i 80 = true) (hdg : decode cc pc = .ok (.iaload, 1)) (kk : W p l e R s m args below meth c H locs cells slots Q (F0 m (pc + 1) ls (.int (zs_a u 9 i.toNatClampNeg) :: rest))) : W p l e R s m args below meth c H locs cells slots Q (F0 m pc ls (.int i :: .ref (q 10) :: rest)) := zr_iald C w wM_c10 hi hdg kk
theorem wM_s10 {q : Nat → Nat} {cs : Nat → ClassId} {u : zs_T} {f : Nat → Int32} : (wM q cs u).set 10 (q 10, .inl (cs 0, 80, .inl f)) = wM q cs (zs_sa u 9 f) := rfl
theorem ms_10 (C : CallFix p m c cc nL s args (c0 :: zw_all) own) (w : zg_W D cs A s (wM q cs u) H locs) {i : Int32} {x : Int32} (hi : zf_in i 80 = true) (hdg : decode cc pc = .ok (.iastore, 1)) (kk : ∀ (H1 : Heap) (locs1 : List Loc), zg_W D cs A s (wM q cs (zs_sa u 9 (upd (zs_a u 9) i.toNatClampNeg x))) H1 locs1 → W p l e R s m args below meth c H1 locs1 cells slots Q (F0 m (pc + 1) ls rest)) : W p l e R s m args below meth c H locs cells slots Q (F0 m pc ls (.int x :: .int i :: .ref (q 10) :: rest)) := zr_iast C w wM_c10 hi wM_s10 hdg kk
theorem ma_11 (C : CallFix p m c cc nL s args (c0 :: zw_all) own) (w : zg_W D cs A s (wM q cs u) H locs) {i : Int32} (hi : zf_in i 80 = true) (hdg : decode cc pc = .ok (.baload, 1)) (kk : W p l e R s m args below meth c H locs cells slots Q (F0 m (pc + 1) ls (.int (zs_a u 10 i.toNatClampNeg) :: rest))) : W p l e R s m args below meth c H locs cells slots Q (F0 m pc ls (.int i :: .ref (q 11) :: rest)) := zr_zald C w wM_c11 hi hdg kk
theorem wM_s11 {q : Nat → Nat} {cs : Nat → ClassId} {u : zs_T} {f : Nat → Int32} : (wM q cs u).set 11 (q 11, .inl (cs 2, 80, .inl f)) = wM q cs (zs_sa u 10 f) := rfl
theorem ms_11 (C : CallFix p m c cc nL s args (c0 :: zw_all) own) (w : zg_W D cs A s (wM q cs u) H locs) {i : Int32} {x : Int32} (hi : zf_in i 80 = true) (hz : zf_z x = true) (hdg : decode cc pc = .ok (.bastore, 1)) (kk : ∀ (H1 : Heap) (locs1 : List Loc), zg_W D cs A s (wM q cs (zs_sa u 10 (upd (zs_a u 10) i.toNatClampNeg x))) H1 locs1 → W p l e R s m args below meth c H1 locs1 cells slots Q (F0 m (pc + 1) ls rest)) : W p l e R s m args below meth c H locs cells slots Q (F0 m pc ls (.int x :: .int i :: .ref (q 11) :: rest)) := zr_zast C w wM_c11 hi hz wM_s11 hdg kk
theorem ma_12 (C : CallFix p m c cc nL s args (c0 :: zw_all) own) (w : zg_W D cs A s (wM q cs u) H locs) {i : Int32} (hi : zf_in i 100 = true) (hdg : decode cc pc = .ok (.iaload, 1)) (kk : W p l e R s m args below meth c H locs cells slots Q (F0 m (pc + 1) ls (.int (zs_a u 11 i.toNatClampNeg) :: rest))) : W p l e R s m args below meth c H locs cells slots Q (F0 m pc ls (.int i :: .ref (q 12) :: rest)) := zr_iald C w wM_c12 hi hdg kk
theorem wM_s12 {q : Nat → Nat} {cs : Nat → ClassId} {u : zs_T} {f : Nat → Int32} : (wM q cs u).set 12 (q 12, .inl (cs 0, 100, .inl f)) = wM q cs (zs_sa u 11 f) := rfl
theorem ms_12 (C : CallFix p m c cc nL s args (c0 :: zw_all) own) (w : zg_W D cs A s (wM q cs u) H locs) {i : Int32} {x : Int32} (hi : zf_in i 100 = true) (hdg : decode cc pc = .ok (.iastore, 1)) (kk : ∀ (H1 : Heap) (locs1 : List Loc), zg_W D cs A s (wM q cs (zs_sa u 11 (upd (zs_a u 11) i.toNatClampNeg x))) H1 locs1 → W p l e R s m args below meth c H1 locs1 cells slots Q (F0 m (pc + 1) ls rest)) : W p l e R s m args below meth c H locs cells slots Q (F0 m pc ls (.int x :: .int i :: .ref (q 12) :: rest)) := zr_iast C w wM_c12 hi wM_s12 hdg kk
theorem ma_13 (C : CallFix p m c cc nL s args (c0 :: zw_all) own) (w : zg_W D cs A s (wM q cs u) H locs) {i : Int32} (hi : zf_in i 100 = true) (hdg : decode cc pc = .ok (.iaload, 1)) (kk : W p l e R s m args below meth c H locs cells slots Q (F0 m (pc + 1) ls (.int (zs_a u 12 i.toNatClampNeg) :: rest))) : W p l e R s m args below meth c H locs cells slots Q (F0 m pc ls (.int i :: .ref (q 13) :: rest)) := zr_iald C w wM_c13 hi hdg kk
theorem wM_s13 {q : Nat → Nat} {cs : Nat → ClassId} {u : zs_T} {f : Nat → Int32} : (wM q cs u).set 13 (q 13, .inl (cs 0, 100, .inl f)) = wM q cs (zs_sa u 12 f) := rfl
theorem ms_13 (C : CallFix p m c cc nL s args (c0 :: zw_all) own) (w : zg_W D cs A s (wM q cs u) H locs) {i : Int32} {x : Int32} (hi : zf_in i 100 = true) (hdg : decode cc pc = .ok (.iastore, 1)) (kk : ∀ (H1 : Heap) (locs1 : List Loc), zg_W D cs A s (wM q cs (zs_sa u 12 (upd (zs_a u 12) i.toNatClampNeg x))) H1 locs1 → W p l e R s m args below meth c H1 locs1 cells slots Q (F0 m (pc + 1) ls rest)) : W p l e R s m args below meth c H locs cells slots Q (F0 m pc ls (.int x :: .int i :: .ref (q 13) :: rest)) := zr_iast C w wM_c13 hi wM_s13 hdg kk
theorem ma_14 (C : CallFix p m c cc nL s args (c0 :: zw_all) own) (w : zg_W D cs A s (wM q cs u) H locs) {i : Int32} (hi : zf_in i 100 = true) (hdg : decode cc pc = .ok (.iaload, 1)) (kk : W p l e R s m args below meth c H locs cells slots Q (F0 m (pc + 1) ls (.int (zs_a u 13 i.toNatClampNeg) :: rest))) : W p l e R s m args below meth c H locs cells slots Q (F0 m pc ls (.int i :: .ref (q 14) :: rest)) := zr_iald C w wM_c14 hi hdg kk
theorem wM_s14 {q : Nat → Nat} {cs : Nat → ClassId} {u : zs_T} {f : Nat → Int32} : (wM q cs u).set 14 (q 14, .inl (cs 0, 100, .inl f)) = wM q cs (zs_sa u 13 f) := rfl
theorem ms_14 (C : CallFix p m c cc nL s args (c0 :: zw_all) own) (w : zg_W D cs A s (wM q cs u) H locs) {i : Int32} {x : Int32} (hi : zf_in i 100 = true) (hdg : decode cc pc = .ok (.iastore, 1)) (kk : ∀ (H1 : Heap) (locs1 : List Loc), zg_W D cs A s (wM q cs (zs_sa u 13 (upd (zs_a u 13) i.toNatClampNeg x))) H1 locs1 → W p l e R s m args below meth c H1 locs1 cells slots Q (F0 m (pc + 1) ls rest)) : W p l e R s m args below meth c H locs cells slots Q (F0 m pc ls (.int x :: .int i :: .ref (q 14) :: rest)) := zr_iast C w wM_c14 hi wM_s14 hdg kk
theorem ma_15 (C : CallFix p m c cc nL s args (c0 :: zw_all) own) (w : zg_W D cs A s (wM q cs u) H locs) {i : Int32} (hi : zf_in i 100 = true) (hdg : decode cc pc = .ok (.iaload, 1)) (kk : W p l e R s m args below meth c H locs cells slots Q (F0 m (pc + 1) ls (.int (zs_a u 14 i.toNatClampNeg) :: rest))) : W p l e R s m args below meth c H locs cells slots Q (F0 m pc ls (.int i :: .ref (q 15) :: rest)) := zr_iald C w wM_c15 hi hdg kk
theorem wM_s15 {q : Nat → Nat} {cs : Nat → ClassId} {u : zs_T} {f : Nat → Int32} : (wM q cs u).set 15 (q 15, .inl (cs 0, 100, .inl f)) = wM q cs (zs_sa u 14 f) := rfl
theorem ms_15 (C : CallFix p m c cc nL s args (c0 :: zw_all) own) (w : zg_W D cs A s (wM q cs u) H locs) {i : Int32} {x : Int32} (hi : zf_in i 100 = true) (hdg : decode cc pc = .ok (.iastore, 1)) (kk : ∀ (H1 : Heap) (locs1 : List Loc), zg_W D cs A s (wM q cs (zs_sa u 14 (upd (zs_a u 14) i.toNatClampNeg x))) H1 locs1 → W p l e R s m args below meth c H1 locs1 cells slots Q (F0 m (pc + 1) ls rest)) : W p l e R s m args below meth c H locs cells slots Q (F0 m pc ls (.int x :: .int i :: .ref (q 15) :: rest)) := zr_iast C w wM_c15 hi wM_s15 hdg kk
theorem ma_16 (C : CallFix p m c cc nL s args (c0 :: zw_all) own) (w : zg_W D cs A s (wM q cs u) H locs) {i : Int32} (hi : zf_in i 12 = true) (hdg : decode cc pc = .ok (.iaload, 1)) (kk : W p l e R s m args below meth c H locs cells slots Q (F0 m (pc + 1) ls (.int (zs_a u 15 i.toNatClampNeg) :: rest))) : W p l e R s m args below meth c H locs cells slots Q (F0 m pc ls (.int i :: .ref (q 16) :: rest)) := zr_iald C w wM_c16 hi hdg kk
theorem wM_s16 {q : Nat → Nat} {cs : Nat → ClassId} {u : zs_T} {f : Nat → Int32} : (wM q cs u).set 16 (q 16, .inl (cs 0, 12, .inl f)) = wM q cs (zs_sa u 15 f) := rfl
theorem ms_16 (C : CallFix p m c cc nL s args (c0 :: zw_all) own) (w : zg_W D cs A s (wM q cs u) H locs) {i : Int32} {x : Int32} (hi : zf_in i 12 = true) (hdg : decode cc pc = .ok (.iastore, 1)) (kk : ∀ (H1 : Heap) (locs1 : List Loc), zg_W D cs A s (wM q cs (zs_sa u 15 (upd (zs_a u 15) i.toNatClampNeg x))) H1 locs1 → W p l e R s m args below meth c H1 locs1 cells slots Q (F0 m (pc + 1) ls rest)) : W p l e R s m args below meth c H locs cells slots Q (F0 m pc ls (.int x :: .int i :: .ref (q 16) :: rest)) := zr_iast C w wM_c16 hi wM_s16 hdg kk
theorem ma_17 (C : CallFix p m c cc nL s args (c0 :: zw_all) own) (w : zg_W D cs A s (wM q cs u) H locs) {i : Int32} (hi : zf_in i 12 = true) (hdg : decode cc pc = .ok (.iaload, 1)) (kk : W p l e R s m args below meth c H locs cells slots Q (F0 m (pc + 1) ls (.int (zs_a u 16 i.toNatClampNeg) :: rest))) : W p l e R s m args below meth c H locs cells slots Q (F0 m pc ls (.int i :: .ref (q 17) :: rest)) := zr_iald C w wM_c17 hi hdg kk
theorem wM_s17 {q : Nat → Nat} {cs : Nat → ClassId} {u : zs_T} {f : Nat → Int32} : (wM q cs u).set 17 (q 17, .inl (cs 0, 12, .inl f)) = wM q cs (zs_sa u 16 f) := rfl
theorem ms_17 (C : CallFix p m c cc nL s args (c0 :: zw_all) own) (w : zg_W D cs A s (wM q cs u) H locs) {i : Int32} {x : Int32} (hi : zf_in i 12 = true) (hdg : decode cc pc = .ok (.iastore, 1)) (kk : ∀ (H1 : Heap) (locs1 : List Loc), zg_W D cs A s (wM q cs (zs_sa u 16 (upd (zs_a u 16) i.toNatClampNeg x))) H1 locs1 → W p l e R s m args below meth c H1 locs1 cells slots Q (F0 m (pc + 1) ls rest)) : W p l e R s m args below meth c H locs cells slots Q (F0 m pc ls (.int x :: .int i :: .ref (q 17) :: rest)) := zr_iast C w wM_c17 hi wM_s17 hdg kk
theorem ma_18 (C : CallFix p m c cc nL s args (c0 :: zw_all) own) (w : zg_W D cs A s (wM q cs u) H locs) {i : Int32} (hi : zf_in i 12 = true) (hdg : decode cc pc = .ok (.iaload, 1)) (kk : W p l e R s m args below meth c H locs cells slots Q (F0 m (pc + 1) ls (.int (zs_a u 17 i.toNatClampNeg) :: rest))) : W p l e R s m args below meth c H locs cells slots Q (F0 m pc ls (.int i :: .ref (q 18) :: rest)) := zr_iald C w wM_c18 hi hdg kk
theorem wM_s18 {q : Nat → Nat} {cs : Nat → ClassId} {u : zs_T} {f : Nat → Int32} : (wM q cs u).set 18 (q 18, .inl (cs 0, 12, .inl f)) = wM q cs (zs_sa u 17 f) := rfl
theorem ms_18 (C : CallFix p m c cc nL s args (c0 :: zw_all) own) (w : zg_W D cs A s (wM q cs u) H locs) {i : Int32} {x : Int32} (hi : zf_in i 12 = true) (hdg : decode cc pc = .ok (.iastore, 1)) (kk : ∀ (H1 : Heap) (locs1 : List Loc), zg_W D cs A s (wM q cs (zs_sa u 17 (upd (zs_a u 17) i.toNatClampNeg x))) H1 locs1 → W p l e R s m args below meth c H1 locs1 cells slots Q (F0 m (pc + 1) ls rest)) : W p l e R s m args below meth c H locs cells slots Q (F0 m pc ls (.int x :: .int i :: .ref (q 18) :: rest)) := zr_iast C w wM_c18 hi wM_s18 hdg kk
theorem ma_19 (C : CallFix p m c cc nL s args (c0 :: zw_all) own) (w : zg_W D cs A s (wM q cs u) H locs) {i : Int32} (hi : zf_in i 12 = true) (hdg : decode cc pc = .ok (.iaload, 1)) (kk : W p l e R s m args below meth c H locs cells slots Q (F0 m (pc + 1) ls (.int (zs_a u 18 i.toNatClampNeg) :: rest))) : W p l e R s m args below meth c H locs cells slots Q (F0 m pc ls (.int i :: .ref (q 19) :: rest)) := zr_iald C w wM_c19 hi hdg kk
theorem wM_s19 {q : Nat → Nat} {cs : Nat → ClassId} {u : zs_T} {f : Nat → Int32} : (wM q cs u).set 19 (q 19, .inl (cs 0, 12, .inl f)) = wM q cs (zs_sa u 18 f) := rfl
theorem ms_19 (C : CallFix p m c cc nL s args (c0 :: zw_all) own) (w : zg_W D cs A s (wM q cs u) H locs) {i : Int32} {x : Int32} (hi : zf_in i 12 = true) (hdg : decode cc pc = .ok (.iastore, 1)) (kk : ∀ (H1 : Heap) (locs1 : List Loc), zg_W D cs A s (wM q cs (zs_sa u 18 (upd (zs_a u 18) i.toNatClampNeg x))) H1 locs1 → W p l e R s m args below meth c H1 locs1 cells slots Q (F0 m (pc + 1) ls rest)) : W p l e R s m args below meth c H locs cells slots Q (F0 m pc ls (.int x :: .int i :: .ref (q 19) :: rest)) := zr_iast C w wM_c19 hi wM_s19 hdg kk
theorem ma_20 (C : CallFix p m c cc nL s args (c0 :: zw_all) own) (w : zg_W D cs A s (wM q cs u) H locs) {i : Int32} (hi : zf_in i 12 = true) (hdg : decode cc pc = .ok (.iaload, 1)) (kk : W p l e R s m args below meth c H locs cells slots Q (F0 m (pc + 1) ls (.int (zs_a u 19 i.toNatClampNeg) :: rest))) : W p l e R s m args below meth c H locs cells slots Q (F0 m pc ls (.int i :: .ref (q 20) :: rest)) := zr_iald C w wM_c20 hi hdg kk
theorem wM_s20 {q : Nat → Nat} {cs : Nat → ClassId} {u : zs_T} {f : Nat → Int32} : (wM q cs u).set 20 (q 20, .inl (cs 0, 12, .inl f)) = wM q cs (zs_sa u 19 f) := rfl
theorem ms_20 (C : CallFix p m c cc nL s args (c0 :: zw_all) own) (w : zg_W D cs A s (wM q cs u) H locs) {i : Int32} {x : Int32} (hi : zf_in i 12 = true) (hdg : decode cc pc = .ok (.iastore, 1)) (kk : ∀ (H1 : Heap) (locs1 : List Loc), zg_W D cs A s (wM q cs (zs_sa u 19 (upd (zs_a u 19) i.toNatClampNeg x))) H1 locs1 → W p l e R s m args below meth c H1 locs1 cells slots Q (F0 m (pc + 1) ls rest)) : W p l e R s m args below meth c H locs cells slots Q (F0 m pc ls (.int x :: .int i :: .ref (q 20) :: rest)) := zr_iast C w wM_c20 hi wM_s20 hdg kk
theorem ma_21 (C : CallFix p m c cc nL s args (c0 :: zw_all) own) (w : zg_W D cs A s (wM q cs u) H locs) {i : Int32} (hi : zf_in i 12 = true) (hdg : decode cc pc = .ok (.laload, 1)) (kk : W p l e R s m args below meth c H locs cells slots Q (F0 m (pc + 1) ls (.long (zs_b u 0 i.toNatClampNeg) :: rest))) : W p l e R s m args below meth c H locs cells slots Q (F0 m pc ls (.int i :: .ref (q 21) :: rest)) := zr_lald C w wM_c21 hi hdg kk
theorem wM_s21 {q : Nat → Nat} {cs : Nat → ClassId} {u : zs_T} {f : Nat → Int64} : (wM q cs u).set 21 (q 21, .inl (cs 1, 12, .inr (.inl f))) = wM q cs (zs_sb u 0 f) := rfl
theorem ms_21 (C : CallFix p m c cc nL s args (c0 :: zw_all) own) (w : zg_W D cs A s (wM q cs u) H locs) {i : Int32} {x : Int64} (hi : zf_in i 12 = true) (hdg : decode cc pc = .ok (.lastore, 1)) (kk : ∀ (H1 : Heap) (locs1 : List Loc), zg_W D cs A s (wM q cs (zs_sb u 0 (vp_updL (zs_b u 0) i.toNatClampNeg x))) H1 locs1 → W p l e R s m args below meth c H1 locs1 cells slots Q (F0 m (pc + 1) ls rest)) : W p l e R s m args below meth c H locs cells slots Q (F0 m pc ls (.long x :: .int i :: .ref (q 21) :: rest)) := zr_last C w wM_c21 hi wM_s21 hdg kk
theorem ma_22 (C : CallFix p m c cc nL s args (c0 :: zw_all) own) (w : zg_W D cs A s (wM q cs u) H locs) {i : Int32} (hi : zf_in i 12 = true) (hdg : decode cc pc = .ok (.laload, 1)) (kk : W p l e R s m args below meth c H locs cells slots Q (F0 m (pc + 1) ls (.long (zs_b u 1 i.toNatClampNeg) :: rest))) : W p l e R s m args below meth c H locs cells slots Q (F0 m pc ls (.int i :: .ref (q 22) :: rest)) := zr_lald C w wM_c22 hi hdg kk
theorem wM_s22 {q : Nat → Nat} {cs : Nat → ClassId} {u : zs_T} {f : Nat → Int64} : (wM q cs u).set 22 (q 22, .inl (cs 1, 12, .inr (.inl f))) = wM q cs (zs_sb u 1 f) := rfl
theorem ms_22 (C : CallFix p m c cc nL s args (c0 :: zw_all) own) (w : zg_W D cs A s (wM q cs u) H locs) {i : Int32} {x : Int64} (hi : zf_in i 12 = true) (hdg : decode cc pc = .ok (.lastore, 1)) (kk : ∀ (H1 : Heap) (locs1 : List Loc), zg_W D cs A s (wM q cs (zs_sb u 1 (vp_updL (zs_b u 1) i.toNatClampNeg x))) H1 locs1 → W p l e R s m args below meth c H1 locs1 cells slots Q (F0 m (pc + 1) ls rest)) : W p l e R s m args below meth c H locs cells slots Q (F0 m pc ls (.long x :: .int i :: .ref (q 22) :: rest)) := zr_last C w wM_c22 hi wM_s22 hdg kk
end ZWM
end
section
/-- Arrays.fill(int[], int) -/
def yA_fill : MethodName := ⟨"java/util/Arrays", "fill", "([II)V"⟩
abbrev cA_fill : ByteArray := prog_14_method_103_code
theorem dA_fill_0 : decode cA_fill 0 = .ok (.iconst 0, 1) := by decide +kernel
theorem dA_fill_1 : decode cA_fill 1 = .ok (.istore_n 2, 1) := by decide +kernel
theorem dA_fill_2 : decode cA_fill 2 = .ok (.aload_n 0, 1) := by decide +kernel
theorem dA_fill_3 : decode cA_fill 3 = .ok (.arraylength, 1) := by decide +kernel
theorem dA_fill_4 : decode cA_fill 4 = .ok (.istore_n 3, 1) := by decide +kernel
theorem dA_fill_5 : decode cA_fill 5 = .ok (.iload_n 2, 1) := by decide +kernel
theorem dA_fill_6 : decode cA_fill 6 = .ok (.iload_n 3, 1) := by decide +kernel
theorem dA_fill_7 : decode cA_fill 7 = .ok (.if_icmp .ge 13, 3) := by decide +kernel
theorem dA_fill_10 : decode cA_fill 10 = .ok (.aload_n 0, 1) := by decide +kernel
theorem dA_fill_11 : decode cA_fill 11 = .ok (.iload_n 2, 1) := by decide +kernel
theorem dA_fill_12 : decode cA_fill 12 = .ok (.iload_n 1, 1) := by decide +kernel
theorem dA_fill_13 : decode cA_fill 13 = .ok (.iastore, 1) := by decide +kernel
theorem dA_fill_14 : decode cA_fill 14 = .ok (.iinc 2 1, 3) := by decide +kernel
theorem dA_fill_17 : decode cA_fill 17 = .ok (.goto (-12), 3) := by decide +kernel
theorem dA_fill_20 : decode cA_fill 20 = .ok (.return_, 1) := by decide +kernel
def zf_fill (n : Nat) (v : Int32) (f : Nat → Int32) : Nat → Int32 := fun i => if i < n then v else f i
theorem zs_a_sa (u : zs_T) (k : Nat) (f : Nat → Int32) : zs_a (zs_sa u k f) k = f := by simp [zs_a, zs_sa, va_up]
theorem zs_sa_sa (u : zs_T) (k : Nat) (f g : Nat → Int32) : zs_sa (zs_sa u k f) k g = zs_sa u k g := by simp [zs_sa, bx_uu]
theorem zs_sa_self (u : zs_T) (k : Nat) : zs_sa u k (zs_a u k) = u := by
  have h : va_up u.2.2.1 k (u.2.2.1 k) = u.2.2.1 := by funext j; simp only [va_up]; split <;> simp_all
  simp [zs_sa, zs_a, h]
theorem zf_fill_0 (v : Int32) (f : Nat → Int32) : zf_fill 0 v f = f := by funext j; simp [zf_fill]
theorem zf_fill_s (i : Nat) (v : Int32) (f : Nat → Int32) : upd (zf_fill i v f) i v = zf_fill (i + 1) v f := by
  funext j
  simp only [upd, zf_fill]
  by_cases h : j = i
  · subst h; simp
  · rw [if_neg h]
    by_cases h2 : j < i
    · rw [if_pos h2, if_pos (by omega)]
    · rw [if_neg h2, if_neg (by omega)]
theorem cf_A_fill : zc_f yA_fill cA_fill 4 none 2 := ⟨by decide +kernel, by decide +kernel, by decide +kernel, by decide +kernel, by decide +kernel⟩
theorem ci_A_fill : Cond.static yA_fill ∈ zw_all := by decide +kernel
set_option maxHeartbeats 4000000 in
theorem kA_fill (l : Launch) (D : va_G) (cs : Nat → ClassId) (Wf : zs_T → va_W) (ha : zg_Ad Wf) (a j k n : Nat) (hn : n < 2 ^ 31) (hget : ∀ u, (Wf u)[j]? = some (a, .inl (cs 0, n, .inl (zs_a u k)))) (hset : ∀ u f, (Wf u).set j (a, .inl (cs 0, n, .inl f)) = Wf (zs_sa u k f)) (u : zs_T) (v : Int32) : zg_Cv l yA_fill cA_fill 4 none 0 D cs Wf u [.ref a, .int v] (zs_sa u k (zf_fill n v (zs_a u k))) := by
  refine zg_Cv_of (own := "java/util/Arrays") (by decide) rfl ha (Nat.le_of_ble_eq_true rfl) ?_
  intro p e s m args below meth c A Q C hret w ls hl
  obtain ⟨hx, hb, -⟩ := id C
  have hl : lv_has ls 4 [(0, .ref a), (1, .int v)] := hl
  have lp : ∀ (d i : Nat), n - i ≤ d → i ≤ n → ∀ (H : Heap) (locs : List Loc) (ls : Array Slot), zg_W D cs A s (Wf (zs_sa u k (zf_fill i v (zs_a u k)))) H locs → lv_has ls 4 [(0, .ref a), (1, .int v), (2, .int (nI i)), (3, .int (nI n))] → W p l e (zg_rm 0) s m args below meth c H locs 0 0 Q (F0 m 5 ls []) := by
    intro d
    induction d with
    | zero =>
      intro i h1 h2 H locs ls w hl
      have hi : i = n := by omega
      subst hi
      refine lv_iload_n hx hb dA_fill_5 rfl (lv_at hl 2 rfl) ?_
      refine lv_iload_n hx hb dA_fill_6 rfl (lv_at hl 3 rfl) ?_
      refine lv_icmp_ge (tgt := 20) hx hb dA_fill_7 (by decide) (fun h => ?_) (fun h => absurd (nI_le (Nat.le_refl _) hn) h)
      exact hret _ _ _ _ _ rfl w dA_fill_20
    | succ d ih =>
      intro i h1 h2 H locs ls w hl
      refine lv_iload_n hx hb dA_fill_5 rfl (lv_at hl 2 rfl) ?_
      refine lv_iload_n hx hb dA_fill_6 rfl (lv_at hl 3 rfl) ?_
      refine lv_icmp_ge (tgt := 20) hx hb dA_fill_7 (by decide) (fun h => ?_) (fun h => ?_)
      · have hi : i = n := by
          rcases Nat.lt_or_ge i n with q | q
          · exact absurd h (nI_ge q hn)
          · omega
        subst hi
        exact hret _ _ _ _ _ rfl w dA_fill_20
      · have hi : i < n := by
          rcases Nat.lt_or_ge i n with q | q
          · exact q
          · exact absurd (nI_le q (by omega)) h
        refine lv_aload_n hx hb dA_fill_10 rfl (lv_at hl 0 rfl) ?_
        refine lv_iload_n hx hb dA_fill_11 rfl (lv_at hl 2 rfl) ?_
        refine lv_iload_n hx hb dA_fill_12 rfl (lv_at hl 1 rfl) ?_
        refine zr_iast (q0 := j) C w (hget _) (by simp only [zf_in, decide_eq_true_eq]; exact vp_in_iff.mp (vp_in_nI hi hn)) (hset _ _) dA_fill_13 (fun H locs w => ?_)
        rw [nI_clamp (by omega), zs_a_sa, zf_fill_s, zs_sa_sa] at w
        refine lv_iinc (v := nI (i + 1)) (lv' := [(2, .int (nI (i + 1))), (0, .ref a), (1, .int v), (3, .int (nI n))]) hx hb dA_fill_14 hl (k := 2) rfl (nI_succ i).symm (by decide) rfl (fun ls hl => ?_)
        refine lv_goto (tgt := 5) hx hb dA_fill_17 (by decide) ?_
        exact ih (i + 1) (by omega) (by omega) H locs ls w (lv_sub hl [1, 2, 0, 3] rfl)
  refine lv_iconst (v := 0) hx hb dA_fill_0 (by decide) ?_
  refine lv_istore_n (lv' := [(2, .int 0), (0, .ref a), (1, .int v)]) hx hb dA_fill_1 rfl hl (by decide) rfl (fun ls hl => ?_)
  refine lv_aload_n hx hb dA_fill_2 rfl (lv_at hl 1 rfl) ?_
  refine zr_alen (q0 := j) C w (hget _) dA_fill_3 ?_
  refine lv_istore_n (lv' := [(3, .int (nI n)), (2, .int (nI 0)), (0, .ref a), (1, .int v)]) hx hb dA_fill_4 rfl hl (by decide) rfl (fun ls hl => ?_)
  refine lp n 0 (by omega) (by omega) _ _ ls ?_ (lv_sub hl [2, 3, 1, 0] rfl)
  rw [zf_fill_0, zs_sa_self]
  exact w
end
section
theorem zw_at {w : Cond} (i : Nat) (h : lw_tbl[i]? = some w) (hg : goodWord w = true) : w ∈ zw_all := List.mem_filter.mpr ⟨List.mem_of_getElem? h, hg⟩
theorem cf_0_beginYear : zc_f yX0_beginYear cX0_beginYear 1 none 0 := ⟨zw_at 575 (by decide +kernel) rfl, zw_at 44 (by decide +kernel) rfl, by decide +kernel, by decide +kernel, by decide +kernel⟩
theorem ci_0_beginYear : Cond.instanceMethod yX0_beginYear ∈ zw_all ∧ Cond.selects yX0_beginYear.cls yX0_beginYear yX0_beginYear ∈ zw_all := ⟨zw_at 573 (by decide +kernel) rfl, zw_at 574 (by decide +kernel) rfl⟩
theorem cf_7_begin : zc_f yX7_begin cX7_begin 3 none 2 := ⟨zw_at 492 (by decide +kernel) rfl, zw_at 43 (by decide +kernel) rfl, by decide +kernel, by decide +kernel, by decide +kernel⟩
theorem ci_7_begin : Cond.instanceMethod yX7_begin ∈ zw_all ∧ Cond.selects yX7_begin.cls yX7_begin yX7_begin ∈ zw_all := ⟨zw_at 491 (by decide +kernel) rfl, zw_at 2 (by decide +kernel) rfl⟩
theorem cf_7_fits : zc_f yX7_fits cX7_fits 3 (some .boolean) 2 := ⟨zw_at 497 (by decide +kernel) rfl, zw_at 43 (by decide +kernel) rfl, by decide +kernel, by decide +kernel, by decide +kernel⟩
theorem ci_7_fits : Cond.instanceMethod yX7_fits ∈ zw_all ∧ Cond.selects yX7_fits.cls yX7_fits yX7_fits ∈ zw_all := ⟨zw_at 496 (by decide +kernel) rfl, zw_at 3 (by decide +kernel) rfl⟩
theorem cf_7_tallyBefore : zc_f yX7_tallyBefore cX7_tallyBefore 3 none 1 := ⟨zw_at 501 (by decide +kernel) rfl, zw_at 43 (by decide +kernel) rfl, by decide +kernel, by decide +kernel, by decide +kernel⟩
theorem ci_7_tallyBefore : Cond.instanceMethod yX7_tallyBefore ∈ zw_all ∧ Cond.selects yX7_tallyBefore.cls yX7_tallyBefore yX7_tallyBefore ∈ zw_all := ⟨zw_at 500 (by decide +kernel) rfl, zw_at 4 (by decide +kernel) rfl⟩
theorem cf_7_follow : zc_f yX7_follow cX7_follow 3 none 2 := ⟨zw_at 505 (by decide +kernel) rfl, zw_at 43 (by decide +kernel) rfl, by decide +kernel, by decide +kernel, by decide +kernel⟩
theorem ci_7_follow : Cond.instanceMethod yX7_follow ∈ zw_all ∧ Cond.selects yX7_follow.cls yX7_follow yX7_follow ∈ zw_all := ⟨zw_at 504 (by decide +kernel) rfl, zw_at 5 (by decide +kernel) rfl⟩
theorem cf_7_replay : zc_f yX7_replay cX7_replay 7 (some .boolean) 4 := ⟨zw_at 488 (by decide +kernel) rfl, zw_at 43 (by decide +kernel) rfl, by decide +kernel, by decide +kernel, by decide +kernel⟩
theorem ci_7_replay : Cond.instanceMethod yX7_replay ∈ zw_all ∧ Cond.selects yX7_replay.cls yX7_replay yX7_replay ∈ zw_all := ⟨zw_at 486 (by decide +kernel) rfl, zw_at 487 (by decide +kernel) rfl⟩
theorem cf_0_creditOf : zc_f yX0_creditOf cX0_creditOf 9 (some .int) 6 := ⟨zw_at 530 (by decide +kernel) rfl, zw_at 44 (by decide +kernel) rfl, by decide +kernel, by decide +kernel, by decide +kernel⟩
theorem ci_0_creditOf : Cond.instanceMethod yX0_creditOf ∈ zw_all ∧ Cond.selects yX0_creditOf.cls yX0_creditOf yX0_creditOf ∈ zw_all := ⟨zw_at 528 (by decide +kernel) rfl, zw_at 529 (by decide +kernel) rfl⟩
theorem cf_0_divide : zc_f yX0_divide cX0_divide 7 none 3 := ⟨zw_at 537 (by decide +kernel) rfl, zw_at 44 (by decide +kernel) rfl, by decide +kernel, by decide +kernel, by decide +kernel⟩
theorem ci_0_divide : Cond.instanceMethod yX0_divide ∈ zw_all ∧ Cond.selects yX0_divide.cls yX0_divide yX0_divide ∈ zw_all := ⟨zw_at 536 (by decide +kernel) rfl, zw_at 7 (by decide +kernel) rfl⟩
theorem cf_0_shareOut : zc_f yX0_shareOut cX0_shareOut 8 none 5 := ⟨zw_at 525 (by decide +kernel) rfl, zw_at 44 (by decide +kernel) rfl, by decide +kernel, by decide +kernel, by decide +kernel⟩
theorem ci_0_shareOut : Cond.instanceMethod yX0_shareOut ∈ zw_all ∧ Cond.selects yX0_shareOut.cls yX0_shareOut yX0_shareOut ∈ zw_all := ⟨zw_at 523 (by decide +kernel) rfl, zw_at 524 (by decide +kernel) rfl⟩
theorem cf_1_placeOf : zc_f yX1_placeOf cX1_placeOf 3 (some .int) 1 := ⟨zw_at 643 (by decide +kernel) rfl, zw_at 45 (by decide +kernel) rfl, by decide +kernel, by decide +kernel, by decide +kernel⟩
theorem ci_1_placeOf : Cond.instanceMethod yX1_placeOf ∈ zw_all ∧ Cond.selects yX1_placeOf.cls yX1_placeOf yX1_placeOf ∈ zw_all := ⟨zw_at 641 (by decide +kernel) rfl, zw_at 642 (by decide +kernel) rfl⟩
theorem cf_1_shareOf : zc_f yX1_shareOf cX1_shareOf 7 (some .long) 3 := ⟨zw_at 544 (by decide +kernel) rfl, zw_at 45 (by decide +kernel) rfl, by decide +kernel, by decide +kernel, by decide +kernel⟩
theorem ci_1_shareOf : Cond.static yX1_shareOf ∈ zw_all := zw_at 543 (by decide +kernel) rfl
theorem cf_1_takeTurn : zc_f yX1_takeTurn cX1_takeTurn 5 (some .int) 1 := ⟨zw_at 548 (by decide +kernel) rfl, zw_at 45 (by decide +kernel) rfl, by decide +kernel, by decide +kernel, by decide +kernel⟩
theorem ci_1_takeTurn : Cond.instanceMethod yX1_takeTurn ∈ zw_all ∧ Cond.selects yX1_takeTurn.cls yX1_takeTurn yX1_takeTurn ∈ zw_all := ⟨zw_at 547 (by decide +kernel) rfl, zw_at 8 (by decide +kernel) rfl⟩
theorem cf_1_partCheeses : zc_f yX1_partCheeses cX1_partCheeses 6 (some .int) 2 := ⟨zw_at 541 (by decide +kernel) rfl, zw_at 45 (by decide +kernel) rfl, by decide +kernel, by decide +kernel, by decide +kernel⟩
theorem ci_1_partCheeses : Cond.instanceMethod yX1_partCheeses ∈ zw_all ∧ Cond.selects yX1_partCheeses.cls yX1_partCheeses yX1_partCheeses ∈ zw_all := ⟨zw_at 539 (by decide +kernel) rfl, zw_at 540 (by decide +kernel) rfl⟩
theorem cf_1_oweWork : zc_f yX1_oweWork cX1_oweWork 4 none 2 := ⟨zw_at 552 (by decide +kernel) rfl, zw_at 45 (by decide +kernel) rfl, by decide +kernel, by decide +kernel, by decide +kernel⟩
theorem ci_1_oweWork : Cond.instanceMethod yX1_oweWork ∈ zw_all ∧ Cond.selects yX1_oweWork.cls yX1_oweWork yX1_oweWork ∈ zw_all := ⟨zw_at 550 (by decide +kernel) rfl, zw_at 551 (by decide +kernel) rfl⟩
theorem cf_1_payLosses : zc_f yX1_payLosses cX1_payLosses 7 none 4 := ⟨zw_at 558 (by decide +kernel) rfl, zw_at 45 (by decide +kernel) rfl, by decide +kernel, by decide +kernel, by decide +kernel⟩
theorem ci_1_payLosses : Cond.instanceMethod yX1_payLosses ∈ zw_all ∧ Cond.selects yX1_payLosses.cls yX1_payLosses yX1_payLosses ∈ zw_all := ⟨zw_at 556 (by decide +kernel) rfl, zw_at 557 (by decide +kernel) rfl⟩
theorem cf_1_payIn : zc_f yX1_payIn cX1_payIn 7 none 1 := ⟨zw_at 563 (by decide +kernel) rfl, zw_at 45 (by decide +kernel) rfl, by decide +kernel, by decide +kernel, by decide +kernel⟩
theorem ci_1_payIn : Cond.instanceMethod yX1_payIn ∈ zw_all ∧ Cond.selects yX1_payIn.cls yX1_payIn yX1_payIn ∈ zw_all := ⟨zw_at 561 (by decide +kernel) rfl, zw_at 562 (by decide +kernel) rfl⟩
theorem cf_2_makeHeights : zc_f yX2_makeHeights cX2_makeHeights 2 none 1 := ⟨zw_at 100 (by decide +kernel) rfl, zw_at 39 (by decide +kernel) rfl, by decide +kernel, by decide +kernel, by decide +kernel⟩
theorem ci_2_makeHeights : Cond.instanceMethod yX2_makeHeights ∈ zw_all ∧ Cond.selects yX2_makeHeights.cls yX2_makeHeights yX2_makeHeights ∈ zw_all := ⟨zw_at 98 (by decide +kernel) rfl, zw_at 99 (by decide +kernel) rfl⟩
theorem cf_8_within : zc_f yX8_within cX8_within 3 (some .boolean) 3 := ⟨zw_at 369 (by decide +kernel) rfl, zw_at 36 (by decide +kernel) rfl, by decide +kernel, by decide +kernel, by decide +kernel⟩
theorem ci_8_within : Cond.static yX8_within ∈ zw_all := zw_at 368 (by decide +kernel) rfl
theorem cf_2_has : zc_f yX2_has cX2_has 2 (some .boolean) 1 := ⟨zw_at 408 (by decide +kernel) rfl, zw_at 39 (by decide +kernel) rfl, by decide +kernel, by decide +kernel, by decide +kernel⟩
theorem ci_2_has : Cond.instanceMethod yX2_has ∈ zw_all ∧ Cond.selects yX2_has.cls yX2_has yX2_has ∈ zw_all := ⟨zw_at 406 (by decide +kernel) rfl, zw_at 407 (by decide +kernel) rfl⟩
theorem cf_2_isOpen : zc_f yX2_isOpen cX2_isOpen 1 (some .boolean) 0 := ⟨zw_at 437 (by decide +kernel) rfl, zw_at 39 (by decide +kernel) rfl, by decide +kernel, by decide +kernel, by decide +kernel⟩
theorem ci_2_isOpen : Cond.instanceMethod yX2_isOpen ∈ zw_all ∧ Cond.selects yX2_isOpen.cls yX2_isOpen yX2_isOpen ∈ zw_all := ⟨zw_at 435 (by decide +kernel) rfl, zw_at 436 (by decide +kernel) rfl⟩
theorem cf_2_canReach : zc_f yX2_canReach cX2_canReach 4 (some .boolean) 1 := ⟨zw_at 429 (by decide +kernel) rfl, zw_at 39 (by decide +kernel) rfl, by decide +kernel, by decide +kernel, by decide +kernel⟩
theorem ci_2_canReach : Cond.instanceMethod yX2_canReach ∈ zw_all ∧ Cond.selects yX2_canReach.cls yX2_canReach yX2_canReach ∈ zw_all := ⟨zw_at 427 (by decide +kernel) rfl, zw_at 428 (by decide +kernel) rfl⟩
theorem cf_2_gainOn : zc_f yX2_gainOn cX2_gainOn 3 (some .int) 2 := ⟨zw_at 459 (by decide +kernel) rfl, zw_at 39 (by decide +kernel) rfl, by decide +kernel, by decide +kernel, by decide +kernel⟩
theorem ci_2_gainOn : Cond.instanceMethod yX2_gainOn ∈ zw_all ∧ Cond.selects yX2_gainOn.cls yX2_gainOn yX2_gainOn ∈ zw_all := ⟨zw_at 457 (by decide +kernel) rfl, zw_at 458 (by decide +kernel) rfl⟩
theorem cf_2_grown : zc_f yX2_grown cX2_grown 3 (some .int) 3 := ⟨zw_at 462 (by decide +kernel) rfl, zw_at 39 (by decide +kernel) rfl, by decide +kernel, by decide +kernel, by decide +kernel⟩
theorem ci_2_grown : Cond.static yX2_grown ∈ zw_all := zw_at 461 (by decide +kernel) rfl
theorem cf_2_graze : zc_f yX2_graze cX2_graze 3 none 1 := ⟨zw_at 467 (by decide +kernel) rfl, zw_at 39 (by decide +kernel) rfl, by decide +kernel, by decide +kernel, by decide +kernel⟩
theorem ci_2_graze : Cond.instanceMethod yX2_graze ∈ zw_all ∧ Cond.selects yX2_graze.cls yX2_graze yX2_graze ∈ zw_all := ⟨zw_at 466 (by decide +kernel) rfl, zw_at 0 (by decide +kernel) rfl⟩
theorem cf_2_passDay : zc_f yX2_passDay cX2_passDay 5 none 3 := ⟨zw_at 452 (by decide +kernel) rfl, zw_at 39 (by decide +kernel) rfl, by decide +kernel, by decide +kernel, by decide +kernel⟩
theorem ci_2_passDay : Cond.instanceMethod yX2_passDay ∈ zw_all ∧ Cond.selects yX2_passDay.cls yX2_passDay yX2_passDay ∈ zw_all := ⟨zw_at 450 (by decide +kernel) rfl, zw_at 451 (by decide +kernel) rfl⟩
theorem cf_3_judge : zc_f yX3_judge cX3_judge 5 none 1 := ⟨zw_at 614 (by decide +kernel) rfl, zw_at 41 (by decide +kernel) rfl, by decide +kernel, by decide +kernel, by decide +kernel⟩
theorem ci_3_judge : Cond.instanceMethod yX3_judge ∈ zw_all ∧ Cond.selects yX3_judge.cls yX3_judge yX3_judge ∈ zw_all := ⟨zw_at 613 (by decide +kernel) rfl, zw_at 10 (by decide +kernel) rfl⟩
theorem cf_3_passDay : zc_f yX3_passDay cX3_passDay 6 (some .int) 2 := ⟨zw_at 621 (by decide +kernel) rfl, zw_at 41 (by decide +kernel) rfl, by decide +kernel, by decide +kernel, by decide +kernel⟩
theorem ci_3_passDay : Cond.instanceMethod yX3_passDay ∈ zw_all ∧ Cond.selects yX3_passDay.cls yX3_passDay yX3_passDay ∈ zw_all := ⟨zw_at 620 (by decide +kernel) rfl, zw_at 11 (by decide +kernel) rfl⟩
theorem cf_3_explore : zc_f yX3_explore cX3_explore 7 none 4 := ⟨zw_at 610 (by decide +kernel) rfl, zw_at 41 (by decide +kernel) rfl, by decide +kernel, by decide +kernel, by decide +kernel⟩
theorem ci_3_explore : Cond.static yX3_explore ∈ zw_all := zw_at 609 (by decide +kernel) rfl
theorem cf_3_findBest : zc_f yX3_findBest cX3_findBest 6 (some .int) 4 := ⟨zw_at 605 (by decide +kernel) rfl, zw_at 41 (by decide +kernel) rfl, by decide +kernel, by decide +kernel, by decide +kernel⟩
theorem ci_3_findBest : Cond.instanceMethod yX3_findBest ∈ zw_all ∧ Cond.selects yX3_findBest.cls yX3_findBest yX3_findBest ∈ zw_all := ⟨zw_at 603 (by decide +kernel) rfl, zw_at 604 (by decide +kernel) rfl⟩
theorem cf_4_has : zc_f yX4_has cX4_has 2 (some .boolean) 1 := ⟨zw_at 475 (by decide +kernel) rfl, zw_at 42 (by decide +kernel) rfl, by decide +kernel, by decide +kernel, by decide +kernel⟩
theorem ci_4_has : Cond.instanceMethod yX4_has ∈ zw_all ∧ Cond.selects yX4_has.cls yX4_has yX4_has ∈ zw_all := ⟨zw_at 473 (by decide +kernel) rfl, zw_at 474 (by decide +kernel) rfl⟩
theorem cf_4_isKnowing : zc_f yX4_isKnowing cX4_isKnowing 2 (some .boolean) 1 := ⟨zw_at 587 (by decide +kernel) rfl, zw_at 42 (by decide +kernel) rfl, by decide +kernel, by decide +kernel, by decide +kernel⟩
theorem ci_4_isKnowing : Cond.instanceMethod yX4_isKnowing ∈ zw_all ∧ Cond.selects yX4_isKnowing.cls yX4_isKnowing yX4_isKnowing ∈ zw_all := ⟨zw_at 585 (by decide +kernel) rfl, zw_at 586 (by decide +kernel) rfl⟩
theorem cf_4_add : zc_f yX4_add cX4_add 2 (some .int) 1 := ⟨zw_at 421 (by decide +kernel) rfl, zw_at 42 (by decide +kernel) rfl, by decide +kernel, by decide +kernel, by decide +kernel⟩
theorem ci_4_add : Cond.instanceMethod yX4_add ∈ zw_all ∧ Cond.selects yX4_add.cls yX4_add yX4_add ∈ zw_all := ⟨zw_at 419 (by decide +kernel) rfl, zw_at 420 (by decide +kernel) rfl⟩
theorem cf_4_putInOrder : zc_f yX4_putInOrder cX4_putInOrder 3 (some .int) 1 := ⟨zw_at 484 (by decide +kernel) rfl, zw_at 42 (by decide +kernel) rfl, by decide +kernel, by decide +kernel, by decide +kernel⟩
theorem ci_4_putInOrder : Cond.instanceMethod yX4_putInOrder ∈ zw_all ∧ Cond.selects yX4_putInOrder.cls yX4_putInOrder yX4_putInOrder ∈ zw_all := ⟨zw_at 483 (by decide +kernel) rfl, zw_at 1 (by decide +kernel) rfl⟩
theorem cf_4_takeBack : zc_f yX4_takeBack cX4_takeBack 3 none 1 := ⟨zw_at 509 (by decide +kernel) rfl, zw_at 42 (by decide +kernel) rfl, by decide +kernel, by decide +kernel, by decide +kernel⟩
theorem ci_4_takeBack : Cond.instanceMethod yX4_takeBack ∈ zw_all ∧ Cond.selects yX4_takeBack.cls yX4_takeBack yX4_takeBack ∈ zw_all := ⟨zw_at 508 (by decide +kernel) rfl, zw_at 6 (by decide +kernel) rfl⟩
theorem cf_4_enter : zc_f yX4_enter cX4_enter 8 (some .int) 5 := ⟨zw_at 480 (by decide +kernel) rfl, zw_at 42 (by decide +kernel) rfl, by decide +kernel, by decide +kernel, by decide +kernel⟩
theorem ci_4_enter : Cond.instanceMethod yX4_enter ∈ zw_all ∧ Cond.selects yX4_enter.cls yX4_enter yX4_enter ∈ zw_all := ⟨zw_at 478 (by decide +kernel) rfl, zw_at 479 (by decide +kernel) rfl⟩
theorem cf_4_upOn : zc_f yX4_upOn cX4_upOn 5 (some .int) 1 := ⟨zw_at 448 (by decide +kernel) rfl, zw_at 42 (by decide +kernel) rfl, by decide +kernel, by decide +kernel, by decide +kernel⟩
theorem ci_4_upOn : Cond.instanceMethod yX4_upOn ∈ zw_all ∧ Cond.selects yX4_upOn.cls yX4_upOn yX4_upOn ∈ zw_all := ⟨zw_at 446 (by decide +kernel) rfl, zw_at 447 (by decide +kernel) rfl⟩
theorem cf_4_livingOf : zc_f yX4_livingOf cX4_livingOf 6 (some .int) 3 := ⟨zw_at 639 (by decide +kernel) rfl, zw_at 42 (by decide +kernel) rfl, by decide +kernel, by decide +kernel, by decide +kernel⟩
theorem ci_4_livingOf : Cond.instanceMethod yX4_livingOf ∈ zw_all ∧ Cond.selects yX4_livingOf.cls yX4_livingOf yX4_livingOf ∈ zw_all := ⟨zw_at 637 (by decide +kernel) rfl, zw_at 638 (by decide +kernel) rfl⟩
theorem cf_4_beginYear : zc_f yX4_beginYear cX4_beginYear 4 none 2 := ⟨zw_at 571 (by decide +kernel) rfl, zw_at 42 (by decide +kernel) rfl, by decide +kernel, by decide +kernel, by decide +kernel⟩
theorem ci_4_beginYear : Cond.instanceMethod yX4_beginYear ∈ zw_all ∧ Cond.selects yX4_beginYear.cls yX4_beginYear yX4_beginYear ∈ zw_all := ⟨zw_at 569 (by decide +kernel) rfl, zw_at 570 (by decide +kernel) rfl⟩
theorem cf_5_setFirst : zc_f yX5_setFirst cX5_setFirst 1 none 1 := ⟨zw_at 81 (by decide +kernel) rfl, zw_at 38 (by decide +kernel) rfl, by decide +kernel, by decide +kernel, by decide +kernel⟩
theorem ci_5_setFirst : Cond.static yX5_setFirst ∈ zw_all := zw_at 80 (by decide +kernel) rfl
theorem cf_5_letterOf : zc_f yX5_letterOf cX5_letterOf 1 (some .int) 1 := ⟨zw_at 376 (by decide +kernel) rfl, zw_at 38 (by decide +kernel) rfl, by decide +kernel, by decide +kernel, by decide +kernel⟩
theorem ci_5_letterOf : Cond.static yX5_letterOf ∈ zw_all := zw_at 375 (by decide +kernel) rfl
theorem cf_5_fault : zc_f yX5_fault cX5_fault 2 (some .int) 2 := ⟨zw_at 379 (by decide +kernel) rfl, zw_at 38 (by decide +kernel) rfl, by decide +kernel, by decide +kernel, by decide +kernel⟩
theorem ci_5_fault : Cond.static yX5_fault ∈ zw_all := zw_at 378 (by decide +kernel) rfl
theorem cf_5_isDigit : zc_f yX5_isDigit cX5_isDigit 1 (some .boolean) 1 := ⟨zw_at 388 (by decide +kernel) rfl, zw_at 38 (by decide +kernel) rfl, by decide +kernel, by decide +kernel, by decide +kernel⟩
theorem ci_5_isDigit : Cond.static yX5_isDigit ∈ zw_all := zw_at 387 (by decide +kernel) rfl
theorem cf_5_digitsEnd : zc_f yX5_digitsEnd cX5_digitsEnd 5 (some .int) 3 := ⟨zw_at 382 (by decide +kernel) rfl, zw_at 38 (by decide +kernel) rfl, by decide +kernel, by decide +kernel, by decide +kernel⟩
theorem ci_5_digitsEnd : Cond.static yX5_digitsEnd ∈ zw_all := zw_at 381 (by decide +kernel) rfl
theorem cf_5_numberAt : zc_f yX5_numberAt cX5_numberAt 5 (some .int) 3 := ⟨zw_at 392 (by decide +kernel) rfl, zw_at 38 (by decide +kernel) rfl, by decide +kernel, by decide +kernel, by decide +kernel⟩
theorem ci_5_numberAt : Cond.static yX5_numberAt ∈ zw_all := zw_at 391 (by decide +kernel) rfl
theorem cf_5_read : zc_f yX5_read cX5_read 6 (some .int) 2 := ⟨zw_at 373 (by decide +kernel) rfl, zw_at 38 (by decide +kernel) rfl, by decide +kernel, by decide +kernel, by decide +kernel⟩
theorem ci_5_read : Cond.instanceMethod yX5_read ∈ zw_all ∧ Cond.selects yX5_read.cls yX5_read yX5_read ∈ zw_all := ⟨zw_at 371 (by decide +kernel) rfl, zw_at 372 (by decide +kernel) rfl⟩
theorem cf_6_append : zc_f yX6_append cX6_append 3 none 1 := ⟨zw_at 362 (by decide +kernel) rfl, zw_at 37 (by decide +kernel) rfl, by decide +kernel, by decide +kernel, by decide +kernel⟩
theorem ci_6_append : Cond.instanceMethod yX6_append ∈ zw_all ∧ Cond.selects yX6_append.cls yX6_append yX6_append ∈ zw_all := ⟨zw_at 360 (by decide +kernel) rfl, zw_at 361 (by decide +kernel) rfl⟩
theorem cf_8_feed : zc_f yX8_feed cX8_feed 6 (some .int) 5 := ⟨zw_at 358 (by decide +kernel) rfl, zw_at 36 (by decide +kernel) rfl, by decide +kernel, by decide +kernel, by decide +kernel⟩
theorem ci_8_feed : Cond.instanceMethod yX8_feed ∈ zw_all ∧ Cond.selects yX8_feed.cls yX8_feed yX8_feed ∈ zw_all := ⟨zw_at 356 (by decide +kernel) rfl, zw_at 357 (by decide +kernel) rfl⟩
theorem cf_8_rules : zc_f yX8_rules cX8_rules 3 (some .int) 1 := ⟨zw_at 366 (by decide +kernel) rfl, zw_at 36 (by decide +kernel) rfl, by decide +kernel, by decide +kernel, by decide +kernel⟩
theorem ci_8_rules : Cond.instanceMethod yX8_rules ∈ zw_all ∧ Cond.selects yX8_rules.cls yX8_rules yX8_rules ∈ zw_all := ⟨zw_at 364 (by decide +kernel) rfl, zw_at 365 (by decide +kernel) rfl⟩
theorem cf_8_alp : zc_f yX8_alp cX8_alp 3 (some .boolean) 1 := ⟨zw_at 399 (by decide +kernel) rfl, zw_at 36 (by decide +kernel) rfl, by decide +kernel, by decide +kernel, by decide +kernel⟩
theorem ci_8_alp : Cond.instanceMethod yX8_alp ∈ zw_all ∧ Cond.selects yX8_alp.cls yX8_alp yX8_alp ∈ zw_all := ⟨zw_at 397 (by decide +kernel) rfl, zw_at 398 (by decide +kernel) rfl⟩
theorem cf_8_height : zc_f yX8_height cX8_height 5 (some .boolean) 4 := ⟨zw_at 404 (by decide +kernel) rfl, zw_at 36 (by decide +kernel) rfl, by decide +kernel, by decide +kernel, by decide +kernel⟩
theorem ci_8_height : Cond.instanceMethod yX8_height ∈ zw_all ∧ Cond.selects yX8_height.cls yX8_height yX8_height ∈ zw_all := ⟨zw_at 402 (by decide +kernel) rfl, zw_at 403 (by decide +kernel) rfl⟩
theorem cf_8_isOwner : zc_f yX8_isOwner cX8_isOwner 1 (some .boolean) 1 := ⟨zw_at 417 (by decide +kernel) rfl, zw_at 36 (by decide +kernel) rfl, by decide +kernel, by decide +kernel, by decide +kernel⟩
theorem ci_8_isOwner : Cond.static yX8_isOwner ∈ zw_all := zw_at 416 (by decide +kernel) rfl
theorem cf_8_sheep : zc_f yX8_sheep cX8_sheep 2 (some .int) 1 := ⟨zw_at 414 (by decide +kernel) rfl, zw_at 36 (by decide +kernel) rfl, by decide +kernel, by decide +kernel, by decide +kernel⟩
theorem ci_8_sheep : Cond.instanceMethod yX8_sheep ∈ zw_all ∧ Cond.selects yX8_sheep.cls yX8_sheep yX8_sheep ∈ zw_all := ⟨zw_at 412 (by decide +kernel) rfl, zw_at 413 (by decide +kernel) rfl⟩
theorem cf_8_move : zc_f yX8_move cX8_move 2 (some .boolean) 1 := ⟨zw_at 425 (by decide +kernel) rfl, zw_at 36 (by decide +kernel) rfl, by decide +kernel, by decide +kernel, by decide +kernel⟩
theorem ci_8_move : Cond.instanceMethod yX8_move ∈ zw_all ∧ Cond.selects yX8_move.cls yX8_move yX8_move ∈ zw_all := ⟨zw_at 423 (by decide +kernel) rfl, zw_at 424 (by decide +kernel) rfl⟩
theorem cf_8_isWarmth : zc_f yX8_isWarmth cX8_isWarmth 1 (some .boolean) 1 := ⟨zw_at 444 (by decide +kernel) rfl, zw_at 36 (by decide +kernel) rfl, by decide +kernel, by decide +kernel, by decide +kernel⟩
theorem ci_8_isWarmth : Cond.static yX8_isWarmth ∈ zw_all := zw_at 443 (by decide +kernel) rfl
theorem cf_8_day : zc_f yX8_day cX8_day 3 (some .int) 2 := ⟨zw_at 441 (by decide +kernel) rfl, zw_at 36 (by decide +kernel) rfl, by decide +kernel, by decide +kernel, by decide +kernel⟩
theorem ci_8_day : Cond.instanceMethod yX8_day ∈ zw_all ∧ Cond.selects yX8_day.cls yX8_day yX8_day ∈ zw_all := ⟨zw_at 439 (by decide +kernel) rfl, zw_at 440 (by decide +kernel) rfl⟩
theorem cf_8_act : zc_f yX8_act cX8_act 5 (some .int) 4 := ⟨zw_at 471 (by decide +kernel) rfl, zw_at 36 (by decide +kernel) rfl, by decide +kernel, by decide +kernel, by decide +kernel⟩
theorem ci_8_act : Cond.instanceMethod yX8_act ∈ zw_all ∧ Cond.selects yX8_act.cls yX8_act yX8_act ∈ zw_all := ⟨zw_at 469 (by decide +kernel) rfl, zw_at 470 (by decide +kernel) rfl⟩
theorem cf_8_milking : zc_f yX8_milking cX8_milking 2 (some .boolean) 1 := ⟨zw_at 513 (by decide +kernel) rfl, zw_at 36 (by decide +kernel) rfl, by decide +kernel, by decide +kernel, by decide +kernel⟩
theorem ci_8_milking : Cond.instanceMethod yX8_milking ∈ zw_all ∧ Cond.selects yX8_milking.cls yX8_milking yX8_milking ∈ zw_all := ⟨zw_at 511 (by decide +kernel) rfl, zw_at 512 (by decide +kernel) rfl⟩
theorem cf_8_milk : zc_f yX8_milk cX8_milk 3 (some .boolean) 2 := ⟨zw_at 517 (by decide +kernel) rfl, zw_at 36 (by decide +kernel) rfl, by decide +kernel, by decide +kernel, by decide +kernel⟩
theorem ci_8_milk : Cond.instanceMethod yX8_milk ∈ zw_all ∧ Cond.selects yX8_milk.cls yX8_milk yX8_milk ∈ zw_all := ⟨zw_at 515 (by decide +kernel) rfl, zw_at 516 (by decide +kernel) rfl⟩
theorem cf_8_beginNextYear : zc_f yX8_beginNextYear cX8_beginNextYear 1 none 0 := ⟨zw_at 567 (by decide +kernel) rfl, zw_at 36 (by decide +kernel) rfl, by decide +kernel, by decide +kernel, by decide +kernel⟩
theorem ci_8_beginNextYear : Cond.instanceMethod yX8_beginNextYear ∈ zw_all ∧ Cond.selects yX8_beginNextYear.cls yX8_beginNextYear yX8_beginNextYear ∈ zw_all := ⟨zw_at 566 (by decide +kernel) rfl, zw_at 9 (by decide +kernel) rfl⟩
theorem cf_8_close : zc_f yX8_close cX8_close 4 (some .int) 1 := ⟨zw_at 521 (by decide +kernel) rfl, zw_at 36 (by decide +kernel) rfl, by decide +kernel, by decide +kernel, by decide +kernel⟩
theorem ci_8_close : Cond.instanceMethod yX8_close ∈ zw_all ∧ Cond.selects yX8_close.cls yX8_close yX8_close ∈ zw_all := ⟨zw_at 519 (by decide +kernel) rfl, zw_at 520 (by decide +kernel) rfl⟩
theorem cf_8_work : zc_f yX8_work cX8_work 3 (some .boolean) 2 := ⟨zw_at 579 (by decide +kernel) rfl, zw_at 36 (by decide +kernel) rfl, by decide +kernel, by decide +kernel, by decide +kernel⟩
theorem ci_8_work : Cond.instanceMethod yX8_work ∈ zw_all ∧ Cond.selects yX8_work.cls yX8_work yX8_work ∈ zw_all := ⟨zw_at 577 (by decide +kernel) rfl, zw_at 578 (by decide +kernel) rfl⟩
theorem cf_8_look : zc_f yX8_look cX8_look 5 (some .int) 4 := ⟨zw_at 583 (by decide +kernel) rfl, zw_at 36 (by decide +kernel) rfl, by decide +kernel, by decide +kernel, by decide +kernel⟩
theorem ci_8_look : Cond.instanceMethod yX8_look ∈ zw_all ∧ Cond.selects yX8_look.cls yX8_look yX8_look ∈ zw_all := ⟨zw_at 581 (by decide +kernel) rfl, zw_at 582 (by decide +kernel) rfl⟩
theorem cf_8_credit : zc_f yX8_credit cX8_credit 3 (some .int) 2 := ⟨zw_at 592 (by decide +kernel) rfl, zw_at 36 (by decide +kernel) rfl, by decide +kernel, by decide +kernel, by decide +kernel⟩
theorem ci_8_credit : Cond.instanceMethod yX8_credit ∈ zw_all ∧ Cond.selects yX8_credit.cls yX8_credit yX8_credit ∈ zw_all := ⟨zw_at 590 (by decide +kernel) rfl, zw_at 591 (by decide +kernel) rfl⟩
theorem cf_8_part : zc_f yX8_part cX8_part 3 (some .int) 2 := ⟨zw_at 597 (by decide +kernel) rfl, zw_at 36 (by decide +kernel) rfl, by decide +kernel, by decide +kernel, by decide +kernel⟩
theorem ci_8_part : Cond.instanceMethod yX8_part ∈ zw_all ∧ Cond.selects yX8_part.cls yX8_part yX8_part ∈ zw_all := ⟨zw_at 595 (by decide +kernel) rfl, zw_at 596 (by decide +kernel) rfl⟩
theorem cf_8_way : zc_f yX8_way cX8_way 3 (some .int) 2 := ⟨zw_at 601 (by decide +kernel) rfl, zw_at 36 (by decide +kernel) rfl, by decide +kernel, by decide +kernel, by decide +kernel⟩
theorem ci_8_way : Cond.instanceMethod yX8_way ∈ zw_all ∧ Cond.selects yX8_way.cls yX8_way yX8_way ∈ zw_all := ⟨zw_at 599 (by decide +kernel) rfl, zw_at 600 (by decide +kernel) rfl⟩
theorem cf_8_step : zc_f yX8_step cX8_step 2 (some .int) 1 := ⟨zw_at 626 (by decide +kernel) rfl, zw_at 36 (by decide +kernel) rfl, by decide +kernel, by decide +kernel, by decide +kernel⟩
theorem ci_8_step : Cond.instanceMethod yX8_step ∈ zw_all ∧ Cond.selects yX8_step.cls yX8_step yX8_step ∈ zw_all := ⟨zw_at 624 (by decide +kernel) rfl, zw_at 625 (by decide +kernel) rfl⟩
theorem cf_8_grass : zc_f yX8_grass cX8_grass 3 (some .int) 2 := ⟨zw_at 630 (by decide +kernel) rfl, zw_at 36 (by decide +kernel) rfl, by decide +kernel, by decide +kernel, by decide +kernel⟩
theorem ci_8_grass : Cond.instanceMethod yX8_grass ∈ zw_all ∧ Cond.selects yX8_grass.cls yX8_grass yX8_grass ∈ zw_all := ⟨zw_at 628 (by decide +kernel) rfl, zw_at 629 (by decide +kernel) rfl⟩
theorem cf_8_told : zc_f yX8_told cX8_told 3 (some .long) 2 := ⟨zw_at 634 (by decide +kernel) rfl, zw_at 36 (by decide +kernel) rfl, by decide +kernel, by decide +kernel, by decide +kernel⟩
theorem ci_8_told : Cond.instanceMethod yX8_told ∈ zw_all ∧ Cond.selects yX8_told.cls yX8_told yX8_told ∈ zw_all := ⟨zw_at 632 (by decide +kernel) rfl, zw_at 633 (by decide +kernel) rfl⟩
theorem cf_8_entry : zc_f yX8_entry cX8_entry 3 (some .int) 2 := ⟨zw_at 647 (by decide +kernel) rfl, zw_at 36 (by decide +kernel) rfl, by decide +kernel, by decide +kernel, by decide +kernel⟩
theorem ci_8_entry : Cond.instanceMethod yX8_entry ∈ zw_all ∧ Cond.selects yX8_entry.cls yX8_entry yX8_entry ∈ zw_all := ⟨zw_at 645 (by decide +kernel) rfl, zw_at 646 (by decide +kernel) rfl⟩
theorem cf_8_rule : zc_f yX8_rule cX8_rule 2 (some .int) 1 := ⟨zw_at 651 (by decide +kernel) rfl, zw_at 36 (by decide +kernel) rfl, by decide +kernel, by decide +kernel, by decide +kernel⟩
theorem ci_8_rule : Cond.instanceMethod yX8_rule ∈ zw_all ∧ Cond.selects yX8_rule.cls yX8_rule yX8_rule ∈ zw_all := ⟨zw_at 649 (by decide +kernel) rfl, zw_at 650 (by decide +kernel) rfl⟩
theorem cf_8_count : zc_f yX8_count cX8_count 2 (some .long) 1 := ⟨zw_at 655 (by decide +kernel) rfl, zw_at 36 (by decide +kernel) rfl, by decide +kernel, by decide +kernel, by decide +kernel⟩
theorem ci_8_count : Cond.instanceMethod yX8_count ∈ zw_all ∧ Cond.selects yX8_count.cls yX8_count yX8_count ∈ zw_all := ⟨zw_at 653 (by decide +kernel) rfl, zw_at 654 (by decide +kernel) rfl⟩
theorem cf_9_types : zc_f yX9_types cX9_types 3 none 1 := ⟨zw_at 807 (by decide +kernel) rfl, zw_at 46 (by decide +kernel) rfl, by decide +kernel, by decide +kernel, by decide +kernel⟩
theorem ci_9_types : Cond.instanceMethod yX9_types ∈ zw_all ∧ Cond.selects yX9_types.cls yX9_types yX9_types ∈ zw_all := ⟨zw_at 806 (by decide +kernel) rfl, zw_at 12 (by decide +kernel) rfl⟩
theorem cf_9_feed : zc_f yX9_feed cX9_feed 6 (some .int) 5 := ⟨zw_at 803 (by decide +kernel) rfl, zw_at 46 (by decide +kernel) rfl, by decide +kernel, by decide +kernel, by decide +kernel⟩
theorem ci_9_feed : Cond.instanceMethod yX9_feed ∈ zw_all ∧ Cond.selects yX9_feed.cls yX9_feed yX9_feed ∈ zw_all := ⟨zw_at 801 (by decide +kernel) rfl, zw_at 802 (by decide +kernel) rfl⟩
theorem cf_9_letterOf : zc_f yX9_letterOf cX9_letterOf 1 (some .int) 1 := ⟨zw_at 818 (by decide +kernel) rfl, zw_at 46 (by decide +kernel) rfl, by decide +kernel, by decide +kernel, by decide +kernel⟩
theorem ci_9_letterOf : Cond.static yX9_letterOf ∈ zw_all := zw_at 817 (by decide +kernel) rfl
theorem cf_9_isDigit : zc_f yX9_isDigit cX9_isDigit 3 (some .boolean) 2 := ⟨zw_at 822 (by decide +kernel) rfl, zw_at 46 (by decide +kernel) rfl, by decide +kernel, by decide +kernel, by decide +kernel⟩
theorem ci_9_isDigit : Cond.instanceMethod yX9_isDigit ∈ zw_all ∧ Cond.selects yX9_isDigit.cls yX9_isDigit yX9_isDigit ∈ zw_all := ⟨zw_at 821 (by decide +kernel) rfl, zw_at 14 (by decide +kernel) rfl⟩
theorem cf_9_parse : zc_f yX9_parse cX9_parse 6 (some .int) 1 := ⟨zw_at 815 (by decide +kernel) rfl, zw_at 46 (by decide +kernel) rfl, by decide +kernel, by decide +kernel, by decide +kernel⟩
theorem ci_9_parse : Cond.instanceMethod yX9_parse ∈ zw_all ∧ Cond.selects yX9_parse.cls yX9_parse yX9_parse ∈ zw_all := ⟨zw_at 814 (by decide +kernel) rfl, zw_at 13 (by decide +kernel) rfl⟩
theorem cf_9_rules : zc_f yX9_rules cX9_rules 2 (some .int) 1 := ⟨zw_at 811 (by decide +kernel) rfl, zw_at 46 (by decide +kernel) rfl, by decide +kernel, by decide +kernel, by decide +kernel⟩
theorem ci_9_rules : Cond.instanceMethod yX9_rules ∈ zw_all ∧ Cond.selects yX9_rules.cls yX9_rules yX9_rules ∈ zw_all := ⟨zw_at 809 (by decide +kernel) rfl, zw_at 810 (by decide +kernel) rfl⟩
theorem cf_9_rule : zc_f yX9_rule cX9_rule 2 (some .int) 1 := ⟨zw_at 826 (by decide +kernel) rfl, zw_at 46 (by decide +kernel) rfl, by decide +kernel, by decide +kernel, by decide +kernel⟩
theorem ci_9_rule : Cond.instanceMethod yX9_rule ∈ zw_all ∧ Cond.selects yX9_rule.cls yX9_rule yX9_rule ∈ zw_all := ⟨zw_at 824 (by decide +kernel) rfl, zw_at 825 (by decide +kernel) rfl⟩
theorem cf_9_alp : zc_f yX9_alp cX9_alp 3 (some .boolean) 1 := ⟨zw_at 830 (by decide +kernel) rfl, zw_at 46 (by decide +kernel) rfl, by decide +kernel, by decide +kernel, by decide +kernel⟩
theorem ci_9_alp : Cond.instanceMethod yX9_alp ∈ zw_all ∧ Cond.selects yX9_alp.cls yX9_alp yX9_alp ∈ zw_all := ⟨zw_at 828 (by decide +kernel) rfl, zw_at 829 (by decide +kernel) rfl⟩
theorem cf_9_isHeight : zc_f yX9_isHeight cX9_isHeight 2 (some .boolean) 1 := ⟨zw_at 838 (by decide +kernel) rfl, zw_at 46 (by decide +kernel) rfl, by decide +kernel, by decide +kernel, by decide +kernel⟩
theorem ci_9_isHeight : Cond.instanceMethod yX9_isHeight ∈ zw_all ∧ Cond.selects yX9_isHeight.cls yX9_isHeight yX9_isHeight ∈ zw_all := ⟨zw_at 837 (by decide +kernel) rfl, zw_at 15 (by decide +kernel) rfl⟩
theorem cf_9_height : zc_f yX9_height cX9_height 5 (some .boolean) 4 := ⟨zw_at 834 (by decide +kernel) rfl, zw_at 46 (by decide +kernel) rfl, by decide +kernel, by decide +kernel, by decide +kernel⟩
theorem ci_9_height : Cond.instanceMethod yX9_height ∈ zw_all ∧ Cond.selects yX9_height.cls yX9_height yX9_height ∈ zw_all := ⟨zw_at 832 (by decide +kernel) rfl, zw_at 833 (by decide +kernel) rfl⟩
theorem cf_9_grass : zc_f yX9_grass cX9_grass 3 (some .int) 2 := ⟨zw_at 843 (by decide +kernel) rfl, zw_at 46 (by decide +kernel) rfl, by decide +kernel, by decide +kernel, by decide +kernel⟩
theorem ci_9_grass : Cond.instanceMethod yX9_grass ∈ zw_all ∧ Cond.selects yX9_grass.cls yX9_grass yX9_grass ∈ zw_all := ⟨zw_at 841 (by decide +kernel) rfl, zw_at 842 (by decide +kernel) rfl⟩
theorem cf_9_move : zc_f yX9_move cX9_move 4 (some .boolean) 1 := ⟨zw_at 847 (by decide +kernel) rfl, zw_at 46 (by decide +kernel) rfl, by decide +kernel, by decide +kernel, by decide +kernel⟩
theorem ci_9_move : Cond.instanceMethod yX9_move ∈ zw_all ∧ Cond.selects yX9_move.cls yX9_move yX9_move ∈ zw_all := ⟨zw_at 845 (by decide +kernel) rfl, zw_at 846 (by decide +kernel) rfl⟩
theorem cf_9_grows : zc_f yX9_grows cX9_grows 5 none 1 := ⟨zw_at 855 (by decide +kernel) rfl, zw_at 46 (by decide +kernel) rfl, by decide +kernel, by decide +kernel, by decide +kernel⟩
theorem ci_9_grows : Cond.instanceMethod yX9_grows ∈ zw_all ∧ Cond.selects yX9_grows.cls yX9_grows yX9_grows ∈ zw_all := ⟨zw_at 854 (by decide +kernel) rfl, zw_at 16 (by decide +kernel) rfl⟩
theorem cf_9_eats : zc_f yX9_eats cX9_eats 5 (some .int) 2 := ⟨zw_at 875 (by decide +kernel) rfl, zw_at 46 (by decide +kernel) rfl, by decide +kernel, by decide +kernel, by decide +kernel⟩
theorem ci_9_eats : Cond.instanceMethod yX9_eats ∈ zw_all ∧ Cond.selects yX9_eats.cls yX9_eats yX9_eats ∈ zw_all := ⟨zw_at 874 (by decide +kernel) rfl, zw_at 21 (by decide +kernel) rfl⟩
theorem cf_9_fitsAct : zc_f yX9_fitsAct cX9_fitsAct 2 (some .boolean) 1 := ⟨zw_at 867 (by decide +kernel) rfl, zw_at 46 (by decide +kernel) rfl, by decide +kernel, by decide +kernel, by decide +kernel⟩
theorem ci_9_fitsAct : Cond.instanceMethod yX9_fitsAct ∈ zw_all ∧ Cond.selects yX9_fitsAct.cls yX9_fitsAct yX9_fitsAct ∈ zw_all := ⟨zw_at 866 (by decide +kernel) rfl, zw_at 19 (by decide +kernel) rfl⟩
theorem cf_9_does : zc_f yX9_does cX9_does 2 none 1 := ⟨zw_at 871 (by decide +kernel) rfl, zw_at 46 (by decide +kernel) rfl, by decide +kernel, by decide +kernel, by decide +kernel⟩
theorem ci_9_does : Cond.instanceMethod yX9_does ∈ zw_all ∧ Cond.selects yX9_does.cls yX9_does yX9_does ∈ zw_all := ⟨zw_at 870 (by decide +kernel) rfl, zw_at 20 (by decide +kernel) rfl⟩
theorem cf_9_asks : zc_f yX9_asks cX9_asks 7 (some .boolean) 3 := ⟨zw_at 863 (by decide +kernel) rfl, zw_at 46 (by decide +kernel) rfl, by decide +kernel, by decide +kernel, by decide +kernel⟩
theorem ci_9_asks : Cond.instanceMethod yX9_asks ∈ zw_all ∧ Cond.selects yX9_asks.cls yX9_asks yX9_asks ∈ zw_all := ⟨zw_at 862 (by decide +kernel) rfl, zw_at 18 (by decide +kernel) rfl⟩
theorem cf_9_ups : zc_f yX9_ups cX9_ups 4 (some .int) 1 := ⟨zw_at 859 (by decide +kernel) rfl, zw_at 46 (by decide +kernel) rfl, by decide +kernel, by decide +kernel, by decide +kernel⟩
theorem ci_9_ups : Cond.instanceMethod yX9_ups ∈ zw_all ∧ Cond.selects yX9_ups.cls yX9_ups yX9_ups ∈ zw_all := ⟨zw_at 858 (by decide +kernel) rfl, zw_at 17 (by decide +kernel) rfl⟩
theorem cf_9_day : zc_f yX9_day cX9_day 5 (some .int) 2 := ⟨zw_at 851 (by decide +kernel) rfl, zw_at 46 (by decide +kernel) rfl, by decide +kernel, by decide +kernel, by decide +kernel⟩
theorem ci_9_day : Cond.instanceMethod yX9_day ∈ zw_all ∧ Cond.selects yX9_day.cls yX9_day yX9_day ∈ zw_all := ⟨zw_at 849 (by decide +kernel) rfl, zw_at 850 (by decide +kernel) rfl⟩
theorem cf_9_lays : zc_f yX9_lays cX9_lays 6 (some .boolean) 2 := ⟨zw_at 883 (by decide +kernel) rfl, zw_at 46 (by decide +kernel) rfl, by decide +kernel, by decide +kernel, by decide +kernel⟩
theorem ci_9_lays : Cond.instanceMethod yX9_lays ∈ zw_all ∧ Cond.selects yX9_lays.cls yX9_lays yX9_lays ∈ zw_all := ⟨zw_at 882 (by decide +kernel) rfl, zw_at 22 (by decide +kernel) rfl⟩
theorem cf_9_isLess : zc_f yX9_isLess cX9_isLess 3 (some .boolean) 1 := ⟨zw_at 887 (by decide +kernel) rfl, zw_at 46 (by decide +kernel) rfl, by decide +kernel, by decide +kernel, by decide +kernel⟩
theorem ci_9_isLess : Cond.instanceMethod yX9_isLess ∈ zw_all ∧ Cond.selects yX9_isLess.cls yX9_isLess yX9_isLess ∈ zw_all := ⟨zw_at 886 (by decide +kernel) rfl, zw_at 23 (by decide +kernel) rfl⟩
theorem cf_9_way : zc_f yX9_way cX9_way 10 (some .int) 2 := ⟨zw_at 879 (by decide +kernel) rfl, zw_at 46 (by decide +kernel) rfl, by decide +kernel, by decide +kernel, by decide +kernel⟩
theorem ci_9_way : Cond.instanceMethod yX9_way ∈ zw_all ∧ Cond.selects yX9_way.cls yX9_way yX9_way ∈ zw_all := ⟨zw_at 877 (by decide +kernel) rfl, zw_at 878 (by decide +kernel) rfl⟩
theorem cf_9_step : zc_f yX9_step cX9_step 2 (some .int) 1 := ⟨zw_at 891 (by decide +kernel) rfl, zw_at 46 (by decide +kernel) rfl, by decide +kernel, by decide +kernel, by decide +kernel⟩
theorem ci_9_step : Cond.instanceMethod yX9_step ∈ zw_all ∧ Cond.selects yX9_step.cls yX9_step yX9_step ∈ zw_all := ⟨zw_at 889 (by decide +kernel) rfl, zw_at 890 (by decide +kernel) rfl⟩
theorem cf_9_sheep : zc_f yX9_sheep cX9_sheep 2 (some .int) 1 := ⟨zw_at 895 (by decide +kernel) rfl, zw_at 46 (by decide +kernel) rfl, by decide +kernel, by decide +kernel, by decide +kernel⟩
theorem ci_9_sheep : Cond.instanceMethod yX9_sheep ∈ zw_all ∧ Cond.selects yX9_sheep.cls yX9_sheep yX9_sheep ∈ zw_all := ⟨zw_at 893 (by decide +kernel) rfl, zw_at 894 (by decide +kernel) rfl⟩
theorem cf_9_isSheep : zc_f yX9_isSheep cX9_isSheep 2 (some .boolean) 1 := ⟨zw_at 903 (by decide +kernel) rfl, zw_at 46 (by decide +kernel) rfl, by decide +kernel, by decide +kernel, by decide +kernel⟩
theorem ci_9_isSheep : Cond.instanceMethod yX9_isSheep ∈ zw_all ∧ Cond.selects yX9_isSheep.cls yX9_isSheep yX9_isSheep ∈ zw_all := ⟨zw_at 902 (by decide +kernel) rfl, zw_at 24 (by decide +kernel) rfl⟩
theorem cf_9_act : zc_f yX9_act cX9_act 5 (some .int) 4 := ⟨zw_at 899 (by decide +kernel) rfl, zw_at 46 (by decide +kernel) rfl, by decide +kernel, by decide +kernel, by decide +kernel⟩
theorem ci_9_act : Cond.instanceMethod yX9_act ∈ zw_all ∧ Cond.selects yX9_act.cls yX9_act yX9_act ∈ zw_all := ⟨zw_at 897 (by decide +kernel) rfl, zw_at 898 (by decide +kernel) rfl⟩
theorem cf_9_entry : zc_f yX9_entry cX9_entry 3 (some .int) 2 := ⟨zw_at 907 (by decide +kernel) rfl, zw_at 46 (by decide +kernel) rfl, by decide +kernel, by decide +kernel, by decide +kernel⟩
theorem ci_9_entry : Cond.instanceMethod yX9_entry ∈ zw_all ∧ Cond.selects yX9_entry.cls yX9_entry yX9_entry ∈ zw_all := ⟨zw_at 905 (by decide +kernel) rfl, zw_at 906 (by decide +kernel) rfl⟩
theorem cf_9_isKnowing : zc_f yX9_isKnowing cX9_isKnowing 2 (some .boolean) 1 := ⟨zw_at 915 (by decide +kernel) rfl, zw_at 46 (by decide +kernel) rfl, by decide +kernel, by decide +kernel, by decide +kernel⟩
theorem ci_9_isKnowing : Cond.instanceMethod yX9_isKnowing ∈ zw_all ∧ Cond.selects yX9_isKnowing.cls yX9_isKnowing yX9_isKnowing ∈ zw_all := ⟨zw_at 914 (by decide +kernel) rfl, zw_at 25 (by decide +kernel) rfl⟩
theorem cf_9_look : zc_f yX9_look cX9_look 5 (some .int) 4 := ⟨zw_at 911 (by decide +kernel) rfl, zw_at 46 (by decide +kernel) rfl, by decide +kernel, by decide +kernel, by decide +kernel⟩
theorem ci_9_look : Cond.instanceMethod yX9_look ∈ zw_all ∧ Cond.selects yX9_look.cls yX9_look yX9_look ∈ zw_all := ⟨zw_at 909 (by decide +kernel) rfl, zw_at 910 (by decide +kernel) rfl⟩
theorem cf_9_milking : zc_f yX9_milking cX9_milking 2 (some .boolean) 1 := ⟨zw_at 919 (by decide +kernel) rfl, zw_at 46 (by decide +kernel) rfl, by decide +kernel, by decide +kernel, by decide +kernel⟩
theorem ci_9_milking : Cond.instanceMethod yX9_milking ∈ zw_all ∧ Cond.selects yX9_milking.cls yX9_milking yX9_milking ∈ zw_all := ⟨zw_at 917 (by decide +kernel) rfl, zw_at 918 (by decide +kernel) rfl⟩
theorem cf_9_milk : zc_f yX9_milk cX9_milk 3 (some .boolean) 2 := ⟨zw_at 923 (by decide +kernel) rfl, zw_at 46 (by decide +kernel) rfl, by decide +kernel, by decide +kernel, by decide +kernel⟩
theorem ci_9_milk : Cond.instanceMethod yX9_milk ∈ zw_all ∧ Cond.selects yX9_milk.cls yX9_milk yX9_milk ∈ zw_all := ⟨zw_at 921 (by decide +kernel) rfl, zw_at 922 (by decide +kernel) rfl⟩
theorem cf_9_creditOf : zc_f yX9_creditOf cX9_creditOf 6 (some .int) 2 := ⟨zw_at 931 (by decide +kernel) rfl, zw_at 46 (by decide +kernel) rfl, by decide +kernel, by decide +kernel, by decide +kernel⟩
theorem ci_9_creditOf : Cond.instanceMethod yX9_creditOf ∈ zw_all ∧ Cond.selects yX9_creditOf.cls yX9_creditOf yX9_creditOf ∈ zw_all := ⟨zw_at 930 (by decide +kernel) rfl, zw_at 26 (by decide +kernel) rfl⟩
theorem cf_9_credit : zc_f yX9_credit cX9_credit 3 (some .int) 2 := ⟨zw_at 927 (by decide +kernel) rfl, zw_at 46 (by decide +kernel) rfl, by decide +kernel, by decide +kernel, by decide +kernel⟩
theorem ci_9_credit : Cond.instanceMethod yX9_credit ∈ zw_all ∧ Cond.selects yX9_credit.cls yX9_credit yX9_credit ∈ zw_all := ⟨zw_at 925 (by decide +kernel) rfl, zw_at 926 (by decide +kernel) rfl⟩
theorem cf_9_reckons : zc_f yX9_reckons cX9_reckons 7 none 1 := ⟨zw_at 939 (by decide +kernel) rfl, zw_at 46 (by decide +kernel) rfl, by decide +kernel, by decide +kernel, by decide +kernel⟩
theorem ci_9_reckons : Cond.instanceMethod yX9_reckons ∈ zw_all ∧ Cond.selects yX9_reckons.cls yX9_reckons yX9_reckons ∈ zw_all := ⟨zw_at 938 (by decide +kernel) rfl, zw_at 27 (by decide +kernel) rfl⟩
theorem cf_9_part : zc_f yX9_part cX9_part 3 (some .int) 2 := ⟨zw_at 935 (by decide +kernel) rfl, zw_at 46 (by decide +kernel) rfl, by decide +kernel, by decide +kernel, by decide +kernel⟩
theorem ci_9_part : Cond.instanceMethod yX9_part ∈ zw_all ∧ Cond.selects yX9_part.cls yX9_part yX9_part ∈ zw_all := ⟨zw_at 933 (by decide +kernel) rfl, zw_at 934 (by decide +kernel) rfl⟩
theorem cf_9_all : zc_f yX9_all cX9_all 4 (some .long) 0 := ⟨zw_at 947 (by decide +kernel) rfl, zw_at 46 (by decide +kernel) rfl, by decide +kernel, by decide +kernel, by decide +kernel⟩
theorem ci_9_all : Cond.instanceMethod yX9_all ∈ zw_all ∧ Cond.selects yX9_all.cls yX9_all yX9_all ∈ zw_all := ⟨zw_at 946 (by decide +kernel) rfl, zw_at 28 (by decide +kernel) rfl⟩
theorem cf_9_gives : zc_f yX9_gives cX9_gives 3 none 2 := ⟨zw_at 951 (by decide +kernel) rfl, zw_at 46 (by decide +kernel) rfl, by decide +kernel, by decide +kernel, by decide +kernel⟩
theorem ci_9_gives : Cond.instanceMethod yX9_gives ∈ zw_all ∧ Cond.selects yX9_gives.cls yX9_gives yX9_gives ∈ zw_all := ⟨zw_at 950 (by decide +kernel) rfl, zw_at 29 (by decide +kernel) rfl⟩
theorem cf_9_endsTurn : zc_f yX9_endsTurn cX9_endsTurn 4 none 1 := ⟨zw_at 957 (by decide +kernel) rfl, zw_at 46 (by decide +kernel) rfl, by decide +kernel, by decide +kernel, by decide +kernel⟩
theorem ci_9_endsTurn : Cond.instanceMethod yX9_endsTurn ∈ zw_all ∧ Cond.selects yX9_endsTurn.cls yX9_endsTurn yX9_endsTurn ∈ zw_all := ⟨zw_at 956 (by decide +kernel) rfl, zw_at 30 (by decide +kernel) rfl⟩
theorem cf_9_wasUp : zc_f yX9_wasUp cX9_wasUp 4 (some .boolean) 1 := ⟨zw_at 965 (by decide +kernel) rfl, zw_at 46 (by decide +kernel) rfl, by decide +kernel, by decide +kernel, by decide +kernel⟩
theorem ci_9_wasUp : Cond.instanceMethod yX9_wasUp ∈ zw_all ∧ Cond.selects yX9_wasUp.cls yX9_wasUp yX9_wasUp ∈ zw_all := ⟨zw_at 964 (by decide +kernel) rfl, zw_at 32 (by decide +kernel) rfl⟩
theorem cf_9_pays : zc_f yX9_pays cX9_pays 10 none 1 := ⟨zw_at 961 (by decide +kernel) rfl, zw_at 46 (by decide +kernel) rfl, by decide +kernel, by decide +kernel, by decide +kernel⟩
theorem ci_9_pays : Cond.instanceMethod yX9_pays ∈ zw_all ∧ Cond.selects yX9_pays.cls yX9_pays yX9_pays ∈ zw_all := ⟨zw_at 960 (by decide +kernel) rfl, zw_at 31 (by decide +kernel) rfl⟩
theorem cf_9_begins : zc_f yX9_begins cX9_begins 2 none 0 := ⟨zw_at 969 (by decide +kernel) rfl, zw_at 46 (by decide +kernel) rfl, by decide +kernel, by decide +kernel, by decide +kernel⟩
theorem ci_9_begins : Cond.instanceMethod yX9_begins ∈ zw_all ∧ Cond.selects yX9_begins.cls yX9_begins yX9_begins ∈ zw_all := ⟨zw_at 968 (by decide +kernel) rfl, zw_at 33 (by decide +kernel) rfl⟩
theorem cf_9_close : zc_f yX9_close cX9_close 7 (some .int) 1 := ⟨zw_at 943 (by decide +kernel) rfl, zw_at 46 (by decide +kernel) rfl, by decide +kernel, by decide +kernel, by decide +kernel⟩
theorem ci_9_close : Cond.instanceMethod yX9_close ∈ zw_all ∧ Cond.selects yX9_close.cls yX9_close yX9_close ∈ zw_all := ⟨zw_at 941 (by decide +kernel) rfl, zw_at 942 (by decide +kernel) rfl⟩
theorem cf_9_work : zc_f yX9_work cX9_work 3 (some .boolean) 2 := ⟨zw_at 973 (by decide +kernel) rfl, zw_at 46 (by decide +kernel) rfl, by decide +kernel, by decide +kernel, by decide +kernel⟩
theorem ci_9_work : Cond.instanceMethod yX9_work ∈ zw_all ∧ Cond.selects yX9_work.cls yX9_work yX9_work ∈ zw_all := ⟨zw_at 971 (by decide +kernel) rfl, zw_at 972 (by decide +kernel) rfl⟩
theorem cf_9_herd : zc_f yX9_herd cX9_herd 4 (some .int) 1 := ⟨zw_at 982 (by decide +kernel) rfl, zw_at 46 (by decide +kernel) rfl, by decide +kernel, by decide +kernel, by decide +kernel⟩
theorem ci_9_herd : Cond.instanceMethod yX9_herd ∈ zw_all ∧ Cond.selects yX9_herd.cls yX9_herd yX9_herd ∈ zw_all := ⟨zw_at 981 (by decide +kernel) rfl, zw_at 34 (by decide +kernel) rfl⟩
theorem cf_9_told : zc_f yX9_told cX9_told 4 (some .long) 2 := ⟨zw_at 977 (by decide +kernel) rfl, zw_at 46 (by decide +kernel) rfl, by decide +kernel, by decide +kernel, by decide +kernel⟩
theorem ci_9_told : Cond.instanceMethod yX9_told ∈ zw_all ∧ Cond.selects yX9_told.cls yX9_told yX9_told ∈ zw_all := ⟨zw_at 975 (by decide +kernel) rfl, zw_at 976 (by decide +kernel) rfl⟩
theorem cf_9_count : zc_f yX9_count cX9_count 2 (some .long) 1 := ⟨zw_at 986 (by decide +kernel) rfl, zw_at 46 (by decide +kernel) rfl, by decide +kernel, by decide +kernel, by decide +kernel⟩
theorem ci_9_count : Cond.instanceMethod yX9_count ∈ zw_all ∧ Cond.selects yX9_count.cls yX9_count yX9_count ∈ zw_all := ⟨zw_at 984 (by decide +kernel) rfl, zw_at 985 (by decide +kernel) rfl⟩
theorem lc_1_43 : Cond.constantLong RX1 43 999 ∈ zw_all := zw_at 553 (by decide +kernel) rfl
theorem lc_1_45 : Cond.constantLong RX1 45 1000 ∈ zw_all := zw_at 554 (by decide +kernel) rfl
theorem lc_3_56 : Cond.constant RX3 56 2147483647 ∈ zw_all := zw_at 607 (by decide +kernel) rfl
theorem lc_8_100 : Cond.constant RX8 100 60000 ∈ zw_all := zw_at 410 (by decide +kernel) rfl
theorem lc_8_207 : Cond.constantLong RX8 207 (-1) ∈ zw_all := zw_at 635 (by decide +kernel) rfl
theorem lc_9_135 : Cond.constant RX9 135 60000 ∈ zw_all := zw_at 839 (by decide +kernel) rfl
theorem lc_9_214 : Cond.constantLong RX9 214 999 ∈ zw_all := zw_at 952 (by decide +kernel) rfl
theorem lc_9_216 : Cond.constantLong RX9 216 1000 ∈ zw_all := zw_at 953 (by decide +kernel) rfl
theorem lc_9_234 : Cond.constantLong RX9 234 (-1) ∈ zw_all := zw_at 978 (by decide +kernel) rfl
theorem lf_0_15 : Cond.fieldLink RX0 15 RX0 "partOf" "[I" ∈ zw_all := zw_at 279 (by decide +kernel) rfl
theorem lf_0_18 : Cond.fieldLink RX0 18 RX0 "milkingDay" "I" ∈ zw_all := zw_at 281 (by decide +kernel) rfl
theorem lf_0_34 : Cond.fieldLink RX0 34 RX7 "up" "Z" ∈ zw_all := zw_at 245 (by decide +kernel) rfl
theorem lf_0_38 : Cond.fieldLink RX0 38 RX5 "numbers" "[I" ∈ zw_all := zw_at 83 (by decide +kernel) rfl
theorem lf_0_43 : Cond.fieldLink RX0 43 RX7 "daysUp" "I" ∈ zw_all := zw_at 253 (by decide +kernel) rfl
theorem lf_0_55 : Cond.fieldLink RX0 55 RX4 "size" "I" ∈ zw_all := zw_at 192 (by decide +kernel) rfl
theorem lf_0_68 : Cond.fieldLink RX0 68 RX7 "daysHad" "[I" ∈ zw_all := zw_at 256 (by decide +kernel) rfl
theorem lf_0_71 : Cond.fieldLink RX0 71 RX7 "owner" "I" ∈ zw_all := zw_at 240 (by decide +kernel) rfl
theorem lf_0_9 : Cond.fieldLink RX0 9 RX0 "milkOf" "[I" ∈ zw_all := zw_at 277 (by decide +kernel) rfl
theorem lf_1_15 : Cond.fieldLink RX1 15 RX1 "latestOf" "[I" ∈ zw_all := zw_at 298 (by decide +kernel) rfl
theorem lf_1_19 : Cond.fieldLink RX1 19 RX1 "balanceOf" "[J" ∈ zw_all := zw_at 300 (by decide +kernel) rfl
theorem lf_1_22 : Cond.fieldLink RX1 22 RX1 "moneyOf" "[J" ∈ zw_all := zw_at 302 (by decide +kernel) rfl
theorem lf_1_25 : Cond.fieldLink RX1 25 RX1 "ownPaid" "J" ∈ zw_all := zw_at 304 (by decide +kernel) rfl
theorem lf_1_29 : Cond.fieldLink RX1 29 RX1 "turn" "[I" ∈ zw_all := zw_at 306 (by decide +kernel) rfl
theorem lf_1_32 : Cond.fieldLink RX1 32 RX1 "paidOut" "J" ∈ zw_all := zw_at 307 (by decide +kernel) rfl
theorem lf_1_47 : Cond.fieldLink RX1 47 RX4 "size" "I" ∈ zw_all := zw_at 194 (by decide +kernel) rfl
theorem lf_1_53 : Cond.fieldLink RX1 53 RX4 "gone" "[Z" ∈ zw_all := zw_at 190 (by decide +kernel) rfl
theorem lf_1_57 : Cond.fieldLink RX1 57 RX4 "entries" "I" ∈ zw_all := zw_at 212 (by decide +kernel) rfl
theorem lf_1_66 : Cond.fieldLink RX1 66 RX7 "daysUp" "I" ∈ zw_all := zw_at 254 (by decide +kernel) rfl
theorem lf_1_69 : Cond.fieldLink RX1 69 RX7 "up" "Z" ∈ zw_all := zw_at 246 (by decide +kernel) rfl
theorem lf_1_73 : Cond.fieldLink RX1 73 RX7 "dead" "Z" ∈ zw_all := zw_at 249 (by decide +kernel) rfl
theorem lf_1_76 : Cond.fieldLink RX1 76 RX7 "owner" "I" ∈ zw_all := zw_at 241 (by decide +kernel) rfl
theorem lf_1_9 : Cond.fieldLink RX1 9 RX1 "cheesesOf" "[J" ∈ zw_all := zw_at 296 (by decide +kernel) rfl
theorem lf_2_15 : Cond.fieldLink RX2 15 RX2 "mostOf" "[I" ∈ zw_all := zw_at 107 (by decide +kernel) rfl
theorem lf_2_18 : Cond.fieldLink RX2 18 RX2 "growthOf" "[I" ∈ zw_all := zw_at 110 (by decide +kernel) rfl
theorem lf_2_21 : Cond.fieldLink RX2 21 RX2 "snow" "I" ∈ zw_all := zw_at 115 (by decide +kernel) rfl
theorem lf_2_25 : Cond.fieldLink RX2 25 RX2 "flockAt" "I" ∈ zw_all := zw_at 117 (by decide +kernel) rfl
theorem lf_2_28 : Cond.fieldLink RX2 28 RX2 "hunger" "I" ∈ zw_all := zw_at 120 (by decide +kernel) rfl
theorem lf_2_31 : Cond.fieldLink RX2 31 RX2 "eaten" "J" ∈ zw_all := zw_at 122 (by decide +kernel) rfl
theorem lf_2_39 : Cond.fieldLink RX2 39 RX2 "heights" "I" ∈ zw_all := zw_at 112 (by decide +kernel) rfl
theorem lf_2_9 : Cond.fieldLink RX2 9 RX2 "grassOf" "[I" ∈ zw_all := zw_at 104 (by decide +kernel) rfl
theorem lf_3_15 : Cond.fieldLink RX3 15 RX3 "length" "I" ∈ zw_all := zw_at 149 (by decide +kernel) rfl
theorem lf_3_19 : Cond.fieldLink RX3 19 RX3 "path" "[I" ∈ zw_all := zw_at 151 (by decide +kernel) rfl
theorem lf_3_22 : Cond.fieldLink RX3 22 RX3 "rows" "[I" ∈ zw_all := zw_at 152 (by decide +kernel) rfl
theorem lf_3_25 : Cond.fieldLink RX3 25 RX3 "mostOf" "[I" ∈ zw_all := zw_at 153 (by decide +kernel) rfl
theorem lf_3_28 : Cond.fieldLink RX3 28 RX3 "gainOf" "[I" ∈ zw_all := zw_at 154 (by decide +kernel) rfl
theorem lf_3_31 : Cond.fieldLink RX3 31 RX3 "heights" "I" ∈ zw_all := zw_at 155 (by decide +kernel) rfl
theorem lf_3_34 : Cond.fieldLink RX3 34 RX3 "wanted" "I" ∈ zw_all := zw_at 156 (by decide +kernel) rfl
theorem lf_3_37 : Cond.fieldLink RX3 37 RX3 "bestHunger" "I" ∈ zw_all := zw_at 157 (by decide +kernel) rfl
theorem lf_3_40 : Cond.fieldLink RX3 40 RX3 "bestGrass" "I" ∈ zw_all := zw_at 158 (by decide +kernel) rfl
theorem lf_3_43 : Cond.fieldLink RX3 43 RX2 "heights" "I" ∈ zw_all := zw_at 113 (by decide +kernel) rfl
theorem lf_3_46 : Cond.fieldLink RX3 46 RX2 "grassOf" "[I" ∈ zw_all := zw_at 105 (by decide +kernel) rfl
theorem lf_3_49 : Cond.fieldLink RX3 49 RX2 "mostOf" "[I" ∈ zw_all := zw_at 108 (by decide +kernel) rfl
theorem lf_3_57 : Cond.fieldLink RX3 57 RX2 "flockAt" "I" ∈ zw_all := zw_at 118 (by decide +kernel) rfl
theorem lf_3_9 : Cond.fieldLink RX3 9 RX3 "bestPath" "[I" ∈ zw_all := zw_at 147 (by decide +kernel) rfl
theorem lf_4_15 : Cond.fieldLink RX4 15 RX4 "gone" "[Z" ∈ zw_all := zw_at 188 (by decide +kernel) rfl
theorem lf_4_19 : Cond.fieldLink RX4 19 RX4 "size" "I" ∈ zw_all := zw_at 191 (by decide +kernel) rfl
theorem lf_4_23 : Cond.fieldLink RX4 23 RX4 "actOf" "[I" ∈ zw_all := zw_at 195 (by decide +kernel) rfl
theorem lf_4_26 : Cond.fieldLink RX4 26 RX4 "sheepOf" "[I" ∈ zw_all := zw_at 198 (by decide +kernel) rfl
theorem lf_4_29 : Cond.fieldLink RX4 29 RX4 "dayOf" "[I" ∈ zw_all := zw_at 201 (by decide +kernel) rfl
theorem lf_4_32 : Cond.fieldLink RX4 32 RX4 "buyerOf" "[I" ∈ zw_all := zw_at 204 (by decide +kernel) rfl
theorem lf_4_35 : Cond.fieldLink RX4 35 RX4 "order" "[I" ∈ zw_all := zw_at 207 (by decide +kernel) rfl
theorem lf_4_38 : Cond.fieldLink RX4 38 RX4 "entries" "I" ∈ zw_all := zw_at 209 (by decide +kernel) rfl
theorem lf_4_59 : Cond.fieldLink RX4 59 RX7 "dead" "Z" ∈ zw_all := zw_at 250 (by decide +kernel) rfl
theorem lf_4_63 : Cond.fieldLink RX4 63 RX7 "owner" "I" ∈ zw_all := zw_at 242 (by decide +kernel) rfl
theorem lf_4_9 : Cond.fieldLink RX4 9 RX4 "firstOwnerOf" "[I" ∈ zw_all := zw_at 186 (by decide +kernel) rfl
theorem lf_5_15 : Cond.fieldLink RX5 15 RX5 "draft" "[I" ∈ zw_all := zw_at 85 (by decide +kernel) rfl
theorem lf_5_22 : Cond.fieldLink RX5 22 RX6 "bytes" "[I" ∈ zw_all := zw_at 64 (by decide +kernel) rfl
theorem lf_5_9 : Cond.fieldLink RX5 9 RX5 "numbers" "[I" ∈ zw_all := zw_at 82 (by decide +kernel) rfl
theorem lf_6_15 : Cond.fieldLink RX6 15 RX6 "size" "I" ∈ zw_all := zw_at 65 (by decide +kernel) rfl
theorem lf_6_9 : Cond.fieldLink RX6 9 RX6 "bytes" "[I" ∈ zw_all := zw_at 63 (by decide +kernel) rfl
theorem lf_7_15 : Cond.fieldLink RX7 15 RX7 "up" "Z" ∈ zw_all := zw_at 244 (by decide +kernel) rfl
theorem lf_7_19 : Cond.fieldLink RX7 19 RX7 "dead" "Z" ∈ zw_all := zw_at 248 (by decide +kernel) rfl
theorem lf_7_22 : Cond.fieldLink RX7 22 RX7 "daysUp" "I" ∈ zw_all := zw_at 252 (by decide +kernel) rfl
theorem lf_7_25 : Cond.fieldLink RX7 25 RX7 "daysHad" "[I" ∈ zw_all := zw_at 255 (by decide +kernel) rfl
theorem lf_7_29 : Cond.fieldLink RX7 29 RX7 "firstUntold" "I" ∈ zw_all := zw_at 257 (by decide +kernel) rfl
theorem lf_7_32 : Cond.fieldLink RX7 32 RX4 "firstOwnerOf" "[I" ∈ zw_all := zw_at 187 (by decide +kernel) rfl
theorem lf_7_37 : Cond.fieldLink RX7 37 RX4 "gone" "[Z" ∈ zw_all := zw_at 189 (by decide +kernel) rfl
theorem lf_7_45 : Cond.fieldLink RX7 45 RX4 "entries" "I" ∈ zw_all := zw_at 210 (by decide +kernel) rfl
theorem lf_7_48 : Cond.fieldLink RX7 48 RX4 "order" "[I" ∈ zw_all := zw_at 208 (by decide +kernel) rfl
theorem lf_7_51 : Cond.fieldLink RX7 51 RX4 "dayOf" "[I" ∈ zw_all := zw_at 202 (by decide +kernel) rfl
theorem lf_7_54 : Cond.fieldLink RX7 54 RX4 "sheepOf" "[I" ∈ zw_all := zw_at 199 (by decide +kernel) rfl
theorem lf_7_57 : Cond.fieldLink RX7 57 RX4 "actOf" "[I" ∈ zw_all := zw_at 196 (by decide +kernel) rfl
theorem lf_7_60 : Cond.fieldLink RX7 60 RX4 "buyerOf" "[I" ∈ zw_all := zw_at 205 (by decide +kernel) rfl
theorem lf_7_9 : Cond.fieldLink RX7 9 RX7 "owner" "I" ∈ zw_all := zw_at 239 (by decide +kernel) rfl
theorem lf_8_10 : Cond.fieldLink RX8 10 RX8 "tape" "LFlockPass$Tape;" ∈ zw_all := zw_at 324 (by decide +kernel) rfl
theorem lf_8_101 : Cond.fieldLink RX8 101 RX2 "grassOf" "[I" ∈ zw_all := zw_at 106 (by decide +kernel) rfl
theorem lf_8_105 : Cond.fieldLink RX8 105 RX2 "mostOf" "[I" ∈ zw_all := zw_at 109 (by decide +kernel) rfl
theorem lf_8_108 : Cond.fieldLink RX8 108 RX2 "growthOf" "[I" ∈ zw_all := zw_at 111 (by decide +kernel) rfl
theorem lf_8_114 : Cond.fieldLink RX8 114 RX4 "size" "I" ∈ zw_all := zw_at 193 (by decide +kernel) rfl
theorem lf_8_137 : Cond.fieldLink RX8 137 RX0 "milkingDay" "I" ∈ zw_all := zw_at 282 (by decide +kernel) rfl
theorem lf_8_140 : Cond.fieldLink RX8 140 RX0 "milkOf" "[I" ∈ zw_all := zw_at 278 (by decide +kernel) rfl
theorem lf_8_147 : Cond.fieldLink RX8 147 RX0 "partOf" "[I" ∈ zw_all := zw_at 280 (by decide +kernel) rfl
theorem lf_8_154 : Cond.fieldLink RX8 154 RX5 "numbers" "[I" ∈ zw_all := zw_at 84 (by decide +kernel) rfl
theorem lf_8_172 : Cond.fieldLink RX8 172 RX1 "balanceOf" "[J" ∈ zw_all := zw_at 301 (by decide +kernel) rfl
theorem lf_8_183 : Cond.fieldLink RX8 183 RX7 "dead" "Z" ∈ zw_all := zw_at 251 (by decide +kernel) rfl
theorem lf_8_187 : Cond.fieldLink RX8 187 RX7 "up" "Z" ∈ zw_all := zw_at 247 (by decide +kernel) rfl
theorem lf_8_19 : Cond.fieldLink RX8 19 RX8 "book" "LFlockPass$RuleBook;" ∈ zw_all := zw_at 325 (by decide +kernel) rfl
theorem lf_8_190 : Cond.fieldLink RX8 190 RX7 "owner" "I" ∈ zw_all := zw_at 243 (by decide +kernel) rfl
theorem lf_8_201 : Cond.fieldLink RX8 201 RX3 "length" "I" ∈ zw_all := zw_at 150 (by decide +kernel) rfl
theorem lf_8_204 : Cond.fieldLink RX8 204 RX3 "bestPath" "[I" ∈ zw_all := zw_at 148 (by decide +kernel) rfl
theorem lf_8_213 : Cond.fieldLink RX8 213 RX1 "cheesesOf" "[J" ∈ zw_all := zw_at 297 (by decide +kernel) rfl
theorem lf_8_216 : Cond.fieldLink RX8 216 RX1 "latestOf" "[I" ∈ zw_all := zw_at 299 (by decide +kernel) rfl
theorem lf_8_219 : Cond.fieldLink RX8 219 RX1 "moneyOf" "[J" ∈ zw_all := zw_at 303 (by decide +kernel) rfl
theorem lf_8_225 : Cond.fieldLink RX8 225 RX4 "actOf" "[I" ∈ zw_all := zw_at 197 (by decide +kernel) rfl
theorem lf_8_228 : Cond.fieldLink RX8 228 RX4 "sheepOf" "[I" ∈ zw_all := zw_at 200 (by decide +kernel) rfl
theorem lf_8_231 : Cond.fieldLink RX8 231 RX4 "dayOf" "[I" ∈ zw_all := zw_at 203 (by decide +kernel) rfl
theorem lf_8_234 : Cond.fieldLink RX8 234 RX4 "buyerOf" "[I" ∈ zw_all := zw_at 206 (by decide +kernel) rfl
theorem lf_8_237 : Cond.fieldLink RX8 237 RX2 "heights" "I" ∈ zw_all := zw_at 114 (by decide +kernel) rfl
theorem lf_8_240 : Cond.fieldLink RX8 240 RX2 "snow" "I" ∈ zw_all := zw_at 116 (by decide +kernel) rfl
theorem lf_8_243 : Cond.fieldLink RX8 243 RX2 "hunger" "I" ∈ zw_all := zw_at 121 (by decide +kernel) rfl
theorem lf_8_250 : Cond.fieldLink RX8 250 RX1 "ownPaid" "J" ∈ zw_all := zw_at 305 (by decide +kernel) rfl
theorem lf_8_254 : Cond.fieldLink RX8 254 RX2 "eaten" "J" ∈ zw_all := zw_at 123 (by decide +kernel) rfl
theorem lf_8_26 : Cond.fieldLink RX8 26 RX8 "pasture" "LFlockPass$Pasture;" ∈ zw_all := zw_at 326 (by decide +kernel) rfl
theorem lf_8_33 : Cond.fieldLink RX8 33 RX8 "planner" "LFlockPass$Planner;" ∈ zw_all := zw_at 327 (by decide +kernel) rfl
theorem lf_8_40 : Cond.fieldLink RX8 40 RX8 "register" "LFlockPass$Register;" ∈ zw_all := zw_at 328 (by decide +kernel) rfl
theorem lf_8_47 : Cond.fieldLink RX8 47 RX8 "trace" "LFlockPass$Trace;" ∈ zw_all := zw_at 329 (by decide +kernel) rfl
theorem lf_8_54 : Cond.fieldLink RX8 54 RX8 "dairy" "LFlockPass$Dairy;" ∈ zw_all := zw_at 330 (by decide +kernel) rfl
theorem lf_8_61 : Cond.fieldLink RX8 61 RX8 "ledger" "LFlockPass$Ledger;" ∈ zw_all := zw_at 331 (by decide +kernel) rfl
theorem lf_8_65 : Cond.fieldLink RX8 65 RX8 "year" "I" ∈ zw_all := zw_at 332 (by decide +kernel) rfl
theorem lf_8_69 : Cond.fieldLink RX8 69 RX8 "today" "I" ∈ zw_all := zw_at 333 (by decide +kernel) rfl
theorem lf_8_72 : Cond.fieldLink RX8 72 RX6 "size" "I" ∈ zw_all := zw_at 66 (by decide +kernel) rfl
theorem lf_8_87 : Cond.fieldLink RX8 87 RX2 "flockAt" "I" ∈ zw_all := zw_at 119 (by decide +kernel) rfl
theorem lf_8_90 : Cond.fieldLink RX8 90 RX4 "entries" "I" ∈ zw_all := zw_at 211 (by decide +kernel) rfl
theorem lf_9_101 : Cond.fieldLink RX9 101 RX9 "money" "[J" ∈ zw_all := zw_at 706 (by decide +kernel) rfl
theorem lf_9_104 : Cond.fieldLink RX9 104 RX9 "taped" "I" ∈ zw_all := zw_at 664 (by decide +kernel) rfl
theorem lf_9_122 : Cond.fieldLink RX9 122 RX9 "fault" "I" ∈ zw_all := zw_at 665 (by decide +kernel) rfl
theorem lf_9_125 : Cond.fieldLink RX9 125 RX9 "days" "I" ∈ zw_all := zw_at 675 (by decide +kernel) rfl
theorem lf_9_128 : Cond.fieldLink RX9 128 RX9 "entries" "I" ∈ zw_all := zw_at 688 (by decide +kernel) rfl
theorem lf_9_13 : Cond.fieldLink RX9 13 RX9 "ruleL" "I" ∈ zw_all := zw_at 666 (by decide +kernel) rfl
theorem lf_9_136 : Cond.fieldLink RX9 136 RX9 "snow" "I" ∈ zw_all := zw_at 673 (by decide +kernel) rfl
theorem lf_9_149 : Cond.fieldLink RX9 149 RX9 "hunger" "I" ∈ zw_all := zw_at 676 (by decide +kernel) rfl
theorem lf_9_152 : Cond.fieldLink RX9 152 RX9 "eaten" "J" ∈ zw_all := zw_at 680 (by decide +kernel) rfl
theorem lf_9_156 : Cond.fieldLink RX9 156 RX9 "bestHunger" "I" ∈ zw_all := zw_at 685 (by decide +kernel) rfl
theorem lf_9_162 : Cond.fieldLink RX9 162 RX9 "bestGrass" "I" ∈ zw_all := zw_at 686 (by decide +kernel) rfl
theorem lf_9_168 : Cond.fieldLink RX9 168 RX9 "ways" "I" ∈ zw_all := zw_at 684 (by decide +kernel) rfl
theorem lf_9_17 : Cond.fieldLink RX9 17 RX9 "ruleM" "I" ∈ zw_all := zw_at 667 (by decide +kernel) rfl
theorem lf_9_171 : Cond.fieldLink RX9 171 RX9 "sheep" "I" ∈ zw_all := zw_at 687 (by decide +kernel) rfl
theorem lf_9_174 : Cond.fieldLink RX9 174 RX9 "isUp" "Z" ∈ zw_all := zw_at 697 (by decide +kernel) rfl
theorem lf_9_178 : Cond.fieldLink RX9 178 RX9 "isDead" "Z" ∈ zw_all := zw_at 698 (by decide +kernel) rfl
theorem lf_9_181 : Cond.fieldLink RX9 181 RX9 "has" "I" ∈ zw_all := zw_at 699 (by decide +kernel) rfl
theorem lf_9_20 : Cond.fieldLink RX9 20 RX9 "ruleW" "I" ∈ zw_all := zw_at 668 (by decide +kernel) rfl
theorem lf_9_23 : Cond.fieldLink RX9 23 RX9 "ruleV" "I" ∈ zw_all := zw_at 669 (by decide +kernel) rfl
theorem lf_9_231 : Cond.fieldLink RX9 231 RX9 "own" "J" ∈ zw_all := zw_at 707 (by decide +kernel) rfl
theorem lf_9_26 : Cond.fieldLink RX9 26 RX9 "said" "[I" ∈ zw_all := zw_at 670 (by decide +kernel) rfl
theorem lf_9_30 : Cond.fieldLink RX9 30 RX9 "heights" "I" ∈ zw_all := zw_at 671 (by decide +kernel) rfl
theorem lf_9_33 : Cond.fieldLink RX9 33 RX9 "flock" "I" ∈ zw_all := zw_at 672 (by decide +kernel) rfl
theorem lf_9_36 : Cond.fieldLink RX9 36 RX9 "year" "I" ∈ zw_all := zw_at 674 (by decide +kernel) rfl
theorem lf_9_39 : Cond.fieldLink RX9 39 RX9 "grass" "[I" ∈ zw_all := zw_at 677 (by decide +kernel) rfl
theorem lf_9_42 : Cond.fieldLink RX9 42 RX9 "most" "[I" ∈ zw_all := zw_at 678 (by decide +kernel) rfl
theorem lf_9_45 : Cond.fieldLink RX9 45 RX9 "growth" "[I" ∈ zw_all := zw_at 679 (by decide +kernel) rfl
theorem lf_9_48 : Cond.fieldLink RX9 48 RX9 "was" "[I" ∈ zw_all := zw_at 681 (by decide +kernel) rfl
theorem lf_9_51 : Cond.fieldLink RX9 51 RX9 "way" "[I" ∈ zw_all := zw_at 682 (by decide +kernel) rfl
theorem lf_9_54 : Cond.fieldLink RX9 54 RX9 "bestWay" "[I" ∈ zw_all := zw_at 683 (by decide +kernel) rfl
theorem lf_9_57 : Cond.fieldLink RX9 57 RX9 "milkingDay" "I" ∈ zw_all := zw_at 689 (by decide +kernel) rfl
theorem lf_9_60 : Cond.fieldLink RX9 60 RX9 "owner" "[I" ∈ zw_all := zw_at 690 (by decide +kernel) rfl
theorem lf_9_63 : Cond.fieldLink RX9 63 RX9 "milk" "[I" ∈ zw_all := zw_at 691 (by decide +kernel) rfl
theorem lf_9_66 : Cond.fieldLink RX9 66 RX9 "wasDead" "[Z" ∈ zw_all := zw_at 692 (by decide +kernel) rfl
theorem lf_9_7 : Cond.fieldLink RX9 7 RX9 "tape" "[B" ∈ zw_all := zw_at 663 (by decide +kernel) rfl
theorem lf_9_70 : Cond.fieldLink RX9 70 RX9 "what" "[I" ∈ zw_all := zw_at 693 (by decide +kernel) rfl
theorem lf_9_73 : Cond.fieldLink RX9 73 RX9 "of" "[I" ∈ zw_all := zw_at 694 (by decide +kernel) rfl
theorem lf_9_76 : Cond.fieldLink RX9 76 RX9 "on" "[I" ∈ zw_all := zw_at 695 (by decide +kernel) rfl
theorem lf_9_79 : Cond.fieldLink RX9 79 RX9 "to" "[I" ∈ zw_all := zw_at 696 (by decide +kernel) rfl
theorem lf_9_82 : Cond.fieldLink RX9 82 RX9 "daysOf" "[I" ∈ zw_all := zw_at 700 (by decide +kernel) rfl
theorem lf_9_85 : Cond.fieldLink RX9 85 RX9 "parts" "[I" ∈ zw_all := zw_at 701 (by decide +kernel) rfl
theorem lf_9_88 : Cond.fieldLink RX9 88 RX9 "turn" "[I" ∈ zw_all := zw_at 702 (by decide +kernel) rfl
theorem lf_9_91 : Cond.fieldLink RX9 91 RX9 "cheeses" "[I" ∈ zw_all := zw_at 703 (by decide +kernel) rfl
theorem lf_9_94 : Cond.fieldLink RX9 94 RX9 "latest" "[I" ∈ zw_all := zw_at 704 (by decide +kernel) rfl
theorem lf_9_97 : Cond.fieldLink RX9 97 RX9 "balance" "[J" ∈ zw_all := zw_at 705 (by decide +kernel) rfl
theorem lm_0_22 : Cond.methodLink RX0 22 yA_fill ∈ zw_all := zw_at 526 (by decide +kernel) rfl
theorem lm_0_28 : Cond.methodLink RX0 28 yX7_replay ∈ zw_all := zw_at 531 (by decide +kernel) rfl
theorem lm_0_46 : Cond.methodLink RX0 46 Lib.Math.min.name ∈ zw_all := zw_at 532 (by decide +kernel) rfl
theorem lm_0_52 : Cond.methodLink RX0 52 Lib.Math.max.name ∈ zw_all := zw_at 533 (by decide +kernel) rfl
theorem lm_0_60 : Cond.methodLink RX0 60 yX0_creditOf ∈ zw_all := zw_at 527 (by decide +kernel) rfl
theorem lm_0_64 : Cond.methodLink RX0 64 yX0_divide ∈ zw_all := zw_at 534 (by decide +kernel) rfl
theorem lm_1_35 : Cond.methodLink RX1 35 yX1_shareOf ∈ zw_all := zw_at 542 (by decide +kernel) rfl
theorem lm_1_39 : Cond.methodLink RX1 39 yX1_takeTurn ∈ zw_all := zw_at 545 (by decide +kernel) rfl
theorem lm_1_60 : Cond.methodLink RX1 60 yX7_replay ∈ zw_all := zw_at 559 (by decide +kernel) rfl
theorem lm_2_42 : Cond.methodLink RX2 42 yA_fill ∈ zw_all := zw_at 101 (by decide +kernel) rfl
theorem lm_2_48 : (RX2, 48, yX8_within, RX8) ∈ zn_all := by decide +kernel
theorem lm_2_52 : Cond.methodLink RX2 52 yX2_has ∈ zw_all := zw_at 430 (by decide +kernel) rfl
theorem lm_2_56 : Cond.methodLink RX2 56 Lib.Math.abs.name ∈ zw_all := zw_at 431 (by decide +kernel) rfl
theorem lm_2_62 : Cond.methodLink RX2 62 yX2_isOpen ∈ zw_all := zw_at 434 (by decide +kernel) rfl
theorem lm_2_66 : Cond.methodLink RX2 66 Lib.Math.max.name ∈ zw_all := zw_at 453 (by decide +kernel) rfl
theorem lm_2_70 : Cond.methodLink RX2 70 yX2_gainOn ∈ zw_all := zw_at 456 (by decide +kernel) rfl
theorem lm_2_73 : Cond.methodLink RX2 73 yX2_grown ∈ zw_all := zw_at 460 (by decide +kernel) rfl
theorem lm_2_77 : Cond.methodLink RX2 77 yX2_graze ∈ zw_all := zw_at 464 (by decide +kernel) rfl
theorem lm_2_80 : Cond.methodLink RX2 80 Lib.Math.min.name ∈ zw_all := zw_at 463 (by decide +kernel) rfl
theorem lm_3_50 : Cond.methodLink RX3 50 yX2_gainOn ∈ zw_all := zw_at 606 (by decide +kernel) rfl
theorem lm_3_60 : Cond.methodLink RX3 60 yX3_explore ∈ zw_all := zw_at 608 (by decide +kernel) rfl
theorem lm_3_64 : Cond.methodLink RX3 64 yX3_judge ∈ zw_all := zw_at 611 (by decide +kernel) rfl
theorem lm_3_68 : Cond.methodLink RX3 68 Lib.Math.min.name ∈ zw_all := zw_at 616 (by decide +kernel) rfl
theorem lm_3_73 : Cond.methodLink RX3 73 Lib.Math.max.name ∈ zw_all := zw_at 617 (by decide +kernel) rfl
theorem lm_3_76 : Cond.methodLink RX3 76 yX3_passDay ∈ zw_all := zw_at 618 (by decide +kernel) rfl
theorem lm_3_79 : Cond.methodLink RX3 79 yX2_grown ∈ zw_all := zw_at 622 (by decide +kernel) rfl
theorem lm_3_83 : Cond.methodLink RX3 83 arraycopyName ∈ zw_all := zw_at 615 (by decide +kernel) rfl
theorem lm_4_41 : (RX4, 41, yX8_within, RX8) ∈ zn_all := by decide +kernel
theorem lm_4_45 : Cond.methodLink RX4 45 yX4_putInOrder ∈ zw_all := zw_at 481 (by decide +kernel) rfl
theorem lm_4_49 : Cond.methodLink RX4 49 yX7_replay ∈ zw_all := zw_at 485 (by decide +kernel) rfl
theorem lm_4_55 : Cond.methodLink RX4 55 yX4_takeBack ∈ zw_all := zw_at 506 (by decide +kernel) rfl
theorem lm_5_18 : Cond.methodLink RX5 18 yX5_setFirst ∈ zw_all := zw_at 79 (by decide +kernel) rfl
theorem lm_5_27 : Cond.methodLink RX5 27 yX5_letterOf ∈ zw_all := zw_at 374 (by decide +kernel) rfl
theorem lm_5_31 : Cond.methodLink RX5 31 yX5_fault ∈ zw_all := zw_at 377 (by decide +kernel) rfl
theorem lm_5_35 : Cond.methodLink RX5 35 yX5_digitsEnd ∈ zw_all := zw_at 380 (by decide +kernel) rfl
theorem lm_5_39 : Cond.methodLink RX5 39 yX5_numberAt ∈ zw_all := zw_at 390 (by decide +kernel) rfl
theorem lm_5_42 : Cond.methodLink RX5 42 arraycopyName ∈ zw_all := zw_at 393 (by decide +kernel) rfl
theorem lm_5_48 : Cond.methodLink RX5 48 yX5_isDigit ∈ zw_all := zw_at 386 (by decide +kernel) rfl
theorem lm_5_52 : (RX5, 52, yX8_within, RX8) ∈ zn_all := by decide +kernel
theorem lm_5_56 : Cond.methodLink RX5 56 Lib.Math.min.name ∈ zw_all := zw_at 383 (by decide +kernel) rfl
theorem lm_7_41 : Cond.methodLink RX7 41 yX7_begin ∈ zw_all := zw_at 489 (by decide +kernel) rfl
theorem lm_7_63 : Cond.methodLink RX7 63 yX7_fits ∈ zw_all := zw_at 494 (by decide +kernel) rfl
theorem lm_7_67 : Cond.methodLink RX7 67 yX7_tallyBefore ∈ zw_all := zw_at 498 (by decide +kernel) rfl
theorem lm_7_71 : Cond.methodLink RX7 71 yX7_follow ∈ zw_all := zw_at 502 (by decide +kernel) rfl
theorem lm_7_75 : Cond.methodLink RX7 75 yA_fill ∈ zw_all := zw_at 493 (by decide +kernel) rfl
theorem lm_8_111 : Cond.methodLink RX8 111 yX8_isOwner ∈ zw_all := zw_at 415 (by decide +kernel) rfl
theorem lm_8_115 : Cond.methodLink RX8 115 yX4_add ∈ zw_all := zw_at 418 (by decide +kernel) rfl
theorem lm_8_119 : Cond.methodLink RX8 119 yX2_canReach ∈ zw_all := zw_at 426 (by decide +kernel) rfl
theorem lm_8_122 : Cond.methodLink RX8 122 yX8_isWarmth ∈ zw_all := zw_at 442 (by decide +kernel) rfl
theorem lm_8_125 : Cond.methodLink RX8 125 yX4_upOn ∈ zw_all := zw_at 445 (by decide +kernel) rfl
theorem lm_8_128 : Cond.methodLink RX8 128 yX2_passDay ∈ zw_all := zw_at 449 (by decide +kernel) rfl
theorem lm_8_132 : Cond.methodLink RX8 132 yX4_has ∈ zw_all := zw_at 472 (by decide +kernel) rfl
theorem lm_8_133 : Cond.methodLink RX8 133 yX4_enter ∈ zw_all := zw_at 477 (by decide +kernel) rfl
theorem lm_8_143 : Cond.methodLink RX8 143 yX0_shareOut ∈ zw_all := zw_at 522 (by decide +kernel) rfl
theorem lm_8_150 : Cond.methodLink RX8 150 yX1_partCheeses ∈ zw_all := zw_at 538 (by decide +kernel) rfl
theorem lm_8_157 : Cond.methodLink RX8 157 yX1_oweWork ∈ zw_all := zw_at 549 (by decide +kernel) rfl
theorem lm_8_161 : Cond.methodLink RX8 161 yX1_payLosses ∈ zw_all := zw_at 555 (by decide +kernel) rfl
theorem lm_8_165 : Cond.methodLink RX8 165 yX1_payIn ∈ zw_all := zw_at 560 (by decide +kernel) rfl
theorem lm_8_169 : Cond.methodLink RX8 169 yX8_beginNextYear ∈ zw_all := zw_at 564 (by decide +kernel) rfl
theorem lm_8_176 : Cond.methodLink RX8 176 yX4_isKnowing ∈ zw_all := zw_at 584 (by decide +kernel) rfl
theorem lm_8_179 : Cond.methodLink RX8 179 yX7_replay ∈ zw_all := zw_at 588 (by decide +kernel) rfl
theorem lm_8_193 : Cond.methodLink RX8 193 yX0_creditOf ∈ zw_all := zw_at 593 (by decide +kernel) rfl
theorem lm_8_197 : Cond.methodLink RX8 197 yX3_findBest ∈ zw_all := zw_at 602 (by decide +kernel) rfl
theorem lm_8_209 : Cond.methodLink RX8 209 yX4_livingOf ∈ zw_all := zw_at 636 (by decide +kernel) rfl
theorem lm_8_222 : Cond.methodLink RX8 222 yX1_placeOf ∈ zw_all := zw_at 640 (by decide +kernel) rfl
theorem lm_8_246 : Cond.methodLink RX8 246 yX2_isOpen ∈ zw_all := zw_at 656 (by decide +kernel) rfl
theorem lm_8_257 : Cond.methodLink RX8 257 yX4_beginYear ∈ zw_all := zw_at 568 (by decide +kernel) rfl
theorem lm_8_261 : Cond.methodLink RX8 261 yX0_beginYear ∈ zw_all := zw_at 572 (by decide +kernel) rfl
theorem lm_8_75 : Cond.methodLink RX8 75 yX6_append ∈ zw_all := zw_at 359 (by decide +kernel) rfl
theorem lm_8_79 : Cond.methodLink RX8 79 yX8_within ∈ zw_all := zw_at 367 (by decide +kernel) rfl
theorem lm_8_83 : Cond.methodLink RX8 83 yX5_read ∈ zw_all := zw_at 370 (by decide +kernel) rfl
theorem lm_8_93 : Cond.methodLink RX8 93 yX2_makeHeights ∈ zw_all := zw_at 400 (by decide +kernel) rfl
theorem lm_8_96 : Cond.methodLink RX8 96 yX2_has ∈ zw_all := zw_at 405 (by decide +kernel) rfl
theorem lm_9_107 : Cond.methodLink RX9 107 yX9_types ∈ zw_all := zw_at 804 (by decide +kernel) rfl
theorem lm_9_111 : Cond.methodLink RX9 111 yX9_letterOf ∈ zw_all := zw_at 816 (by decide +kernel) rfl
theorem lm_9_115 : Cond.methodLink RX9 115 yX9_isDigit ∈ zw_all := zw_at 819 (by decide +kernel) rfl
theorem lm_9_119 : Cond.methodLink RX9 119 yX9_parse ∈ zw_all := zw_at 812 (by decide +kernel) rfl
theorem lm_9_131 : Cond.methodLink RX9 131 yX9_isHeight ∈ zw_all := zw_at 835 (by decide +kernel) rfl
theorem lm_9_139 : Cond.methodLink RX9 139 yX9_grows ∈ zw_all := zw_at 852 (by decide +kernel) rfl
theorem lm_9_142 : Cond.methodLink RX9 142 yX9_ups ∈ zw_all := zw_at 856 (by decide +kernel) rfl
theorem lm_9_145 : Cond.methodLink RX9 145 yX9_eats ∈ zw_all := zw_at 872 (by decide +kernel) rfl
theorem lm_9_159 : Cond.methodLink RX9 159 yX9_lays ∈ zw_all := zw_at 880 (by decide +kernel) rfl
theorem lm_9_165 : Cond.methodLink RX9 165 yX9_isLess ∈ zw_all := zw_at 884 (by decide +kernel) rfl
theorem lm_9_184 : Cond.methodLink RX9 184 yX9_fitsAct ∈ zw_all := zw_at 864 (by decide +kernel) rfl
theorem lm_9_187 : Cond.methodLink RX9 187 yX9_does ∈ zw_all := zw_at 868 (by decide +kernel) rfl
theorem lm_9_190 : Cond.methodLink RX9 190 yX9_asks ∈ zw_all := zw_at 860 (by decide +kernel) rfl
theorem lm_9_194 : Cond.methodLink RX9 194 yX9_isSheep ∈ zw_all := zw_at 900 (by decide +kernel) rfl
theorem lm_9_197 : Cond.methodLink RX9 197 yX9_isKnowing ∈ zw_all := zw_at 912 (by decide +kernel) rfl
theorem lm_9_200 : Cond.methodLink RX9 200 yX9_creditOf ∈ zw_all := zw_at 928 (by decide +kernel) rfl
theorem lm_9_203 : Cond.methodLink RX9 203 yX9_reckons ∈ zw_all := zw_at 936 (by decide +kernel) rfl
theorem lm_9_206 : Cond.methodLink RX9 206 yX9_all ∈ zw_all := zw_at 944 (by decide +kernel) rfl
theorem lm_9_210 : Cond.methodLink RX9 210 yX9_gives ∈ zw_all := zw_at 948 (by decide +kernel) rfl
theorem lm_9_218 : Cond.methodLink RX9 218 yX9_endsTurn ∈ zw_all := zw_at 954 (by decide +kernel) rfl
theorem lm_9_221 : Cond.methodLink RX9 221 yX9_pays ∈ zw_all := zw_at 958 (by decide +kernel) rfl
theorem lm_9_225 : Cond.methodLink RX9 225 yX9_begins ∈ zw_all := zw_at 966 (by decide +kernel) rfl
theorem lm_9_228 : Cond.methodLink RX9 228 yX9_wasUp ∈ zw_all := zw_at 962 (by decide +kernel) rfl
theorem lm_9_236 : Cond.methodLink RX9 236 yX9_herd ∈ zw_all := zw_at 979 (by decide +kernel) rfl
end
