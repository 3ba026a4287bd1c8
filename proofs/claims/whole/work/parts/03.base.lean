/-! My own layer over the kit: one list of words for all methods, a state as numbers and rows, contracts by functions that answer an Option. -/
def zw_all : List Cond := lw_tbl.filter goodWord
theorem zw_good : ∀ w ∈ zw_all, goodWord w = true := fun _ h => (List.mem_filter.mp h).2
theorem zw_tbl : ∀ w ∈ zw_all, w ∈ lw_tbl := fun _ h => (List.mem_filter.mp h).1
theorem zw_in {c0 : Cond} {w : Cond} (h : w ∈ zw_all) : w ∈ c0 :: zw_all := List.mem_cons_of_mem _ h
theorem zw_goodIn {big : List Cond} (hb : ∀ w ∈ zw_all, w ∈ big) {c1 : Cond} (h : c1 ∈ zw_all) : GoodIn big (c1 :: zw_all) := by
  intro w hw
  rcases List.mem_cons.mp hw with e | e
  · rw [e]; exact ⟨hb _ h, good_of_word (zw_good _ h)⟩
  · exact ⟨hb _ e, good_of_word (zw_good _ e)⟩
/-- the words of nest mates, which no list of good words holds -/
def zn_all : List (String × Nat × MethodName × String) := [("FlockPass", 9, ⟨"FlockPass$Tape", "<init>", "()V"⟩, "FlockPass"), ("FlockPass", 32, ⟨"FlockPass$Planner", "<init>", "()V"⟩, "FlockPass"), ("FlockPass", 39, ⟨"FlockPass$Register", "<init>", "()V"⟩, "FlockPass"), ("FlockPass", 46, ⟨"FlockPass$Trace", "<init>", "()V"⟩, "FlockPass"), ("FlockPass", 53, ⟨"FlockPass$Dairy", "<init>", "()V"⟩, "FlockPass"), ("FlockPass$RuleBook", 52, ⟨"FlockPass", "within", "(III)Z"⟩, "FlockPass"), ("FlockPass$Pasture", 48, ⟨"FlockPass", "within", "(III)Z"⟩, "FlockPass"), ("FlockPass$Register", 41, ⟨"FlockPass", "within", "(III)Z"⟩, "FlockPass")]
-- the state
abbrev zs_T : Type := (Nat → Int32) × (Nat → Int64) × (Nat → Nat → Int32) × (Nat → Nat → Int64)
def zs_i (u : zs_T) (k : Nat) : Int32 := u.1 k
def zs_l (u : zs_T) (k : Nat) : Int64 := u.2.1 k
def zs_a (u : zs_T) (k : Nat) : Nat → Int32 := u.2.2.1 k
def zs_b (u : zs_T) (k : Nat) : Nat → Int64 := u.2.2.2 k
def zs_si (u : zs_T) (k : Nat) (v : Int32) : zs_T := (upd u.1 k v, u.2)
def zs_sl (u : zs_T) (k : Nat) (v : Int64) : zs_T := (u.1, vp_updL u.2.1 k v, u.2.2)
def zs_sa (u : zs_T) (k : Nat) (f : Nat → Int32) : zs_T := (u.1, u.2.1, va_up u.2.2.1 k f, u.2.2.2)
def zs_sb (u : zs_T) (k : Nat) (f : Nat → Int64) : zs_T := (u.1, u.2.1, u.2.2.1, va_up u.2.2.2 k f)
def zs_0 : zs_T := (fun _ => 0, fun _ => 0, fun _ _ => 0, fun _ _ => 0)
-- functions that may fail
def zf_bi {ρ : Type} (x : Option (Int32 × zs_T)) (f : Int32 → zs_T → Option ρ) : Option ρ := match x with
  | none => none
  | some (r, u) => f r u
def zf_bl {ρ : Type} (x : Option (Int64 × zs_T)) (f : Int64 → zs_T → Option ρ) : Option ρ := match x with
  | none => none
  | some (r, u) => f r u
def zf_bv {ρ : Type} (x : Option zs_T) (f : zs_T → Option ρ) : Option ρ := match x with
  | none => none
  | some u => f u
theorem zf_bi_ex {ρ : Type} {x : Option (Int32 × zs_T)} {f : Int32 → zs_T → Option ρ} {z : ρ} (h : zf_bi x f = some z) : ∃ r u, x = some (r, u) ∧ f r u = some z := by
  match x, h with
  | some (r, u), h => exact ⟨r, u, rfl, h⟩
theorem zf_bl_ex {ρ : Type} {x : Option (Int64 × zs_T)} {f : Int64 → zs_T → Option ρ} {z : ρ} (h : zf_bl x f = some z) : ∃ r u, x = some (r, u) ∧ f r u = some z := by
  match x, h with
  | some (r, u), h => exact ⟨r, u, rfl, h⟩
theorem zf_bv_ex {ρ : Type} {x : Option zs_T} {f : zs_T → Option ρ} {z : ρ} (h : zf_bv x f = some z) : ∃ u, x = some u ∧ f u = some z := by
  match x, h with
  | some u, h => exact ⟨u, rfl, h⟩
theorem zf_gd {ρ : Type} {c : Prop} [Decidable c] {x : Option ρ} {z : ρ} (h : (if c then x else none) = some z) : c ∧ x = some z := by
  by_cases hc : c
  · rw [if_pos hc] at h; exact ⟨hc, h⟩
  · rw [if_neg hc] at h; cases h
theorem zf_t {ρ : Type} {c : Prop} [Decidable c] {x y z : ρ} (hc : c) (h : (if c then x else y) = z) : x = z := by rw [if_pos hc] at h; exact h
theorem zf_f {ρ : Type} {c : Prop} [Decidable c] {x y z : ρ} (hc : ¬ c) (h : (if c then x else y) = z) : y = z := by rw [if_neg hc] at h; exact h
def zf_bp {α ρ : Type} (x : Option α) (f : α → Option ρ) : Option ρ := match x with
  | none => none
  | some r => f r
theorem zf_bp_ex {α ρ : Type} {x : Option α} {f : α → Option ρ} {z : ρ} (h : zf_bp x f = some z) : ∃ r, x = some r ∧ f r = some z := by
  match x, h with
  | some r, h => exact ⟨r, rfl, h⟩
theorem zf_pr {α : Type} {a z : α} {u : zs_T} (h : some a = some z) : some (a, u) = some (z, u) := by cases h; rfl
/-- an index is in a row of n -/
def zf_in (i : Int32) (n : Nat) : Bool := decide (0 ≤ i.toInt ∧ i.toInt < n)
theorem zf_vin {i : Int32} {n : Nat} (h : zf_in i n = true) : vp_in i n := vp_in_iff.mpr (of_decide_eq_true h)
/-- a truth value -/
def zf_z (x : Int32) : Bool := x == 0 || x == 1
theorem zf_z_nar {x : Int32} (h : zf_z x = true) : narrow .boolean (.int x) = .int x := by
  simp only [zf_z, Bool.or_eq_true, beq_iff_eq] at h
  rcases h with rfl | rfl <;> rfl
theorem zf_z_fit {x : Int32} (h : zf_z x = true) : fits .boolean (.int x) = true := by
  simp only [zf_z, Bool.or_eq_true, beq_iff_eq] at h
  rcases h with rfl | rfl <;> rfl
theorem zf_z_vp {x : Int32} (h : zf_z x = true) : vp_nar .boolean x = x := by
  simp only [zf_z, Bool.or_eq_true, beq_iff_eq] at h
  rcases h with rfl | rfl <;> rfl
/-- a loop: its body is given what comes behind one turn -/
def zf_loop {σ ρ : Type} (body : (σ → Option ρ) → σ → Option ρ) : Nat → σ → Option ρ
  | 0, _ => none
  | n + 1, s => body (zf_loop body n) s
theorem zf_loop_W {σ ρ : Type} {body : (σ → Option ρ) → σ → Option ρ} {z : ρ} (Wp : σ → Prop) (hs : ∀ (again : σ → Option ρ) (s : σ), (∀ s', again s' = some z → Wp s') → body again s = some z → Wp s) : ∀ (n : Nat) (s : σ), zf_loop body n s = some z → Wp s
  | 0, _, h => by cases h
  | n + 1, s, h => hs (zf_loop body n) s (fun s' h' => zf_loop_W Wp hs n s' h') h
theorem zf_ne {x y : Int32} (h : ¬ x = y) : x.toInt ≠ y.toInt := fun e => h (Int32.toInt_inj.mp e)
-- worlds
def zg_ty (cs : Nat → ClassId) : List (ClassId × FieldType) := [(cs 0, .int), (cs 1, .long), (cs 2, .boolean), (cs 3, .byte)]
def zg_N (U : State) : Prop := ∀ q ∈ zn_all, va_Nw (.methodLinkNest q.1 q.2.1 q.2.2.1 q.2.2.2) U
def zg_W (D : va_G) (cs : Nat → ClassId) (A : Nat → Prop) (s : State) (ws : va_W) (H : Heap) (locs : List Loc) : Prop := va_P D vwCl ws H ∧ va_D A ws ∧ va_S A s.heap H locs ∧ va_K D vwCl (zg_ty cs) s ∧ zg_N s ∧ ∀ a, s.heap.size ≤ a → A a
def zg_A (Wf : zs_T → va_W) (sz : Nat) : Nat → Prop := va_A (Wf zs_0) sz
def zg_Pre (D : va_G) (cs : Nat → ClassId) (Wf : zs_T → va_W) (sz : Nat) (u : zs_T) (U : State) : Prop := U.heap.size = sz ∧ va_P D vwCl (Wf u) U.heap ∧ va_K D vwCl (zg_ty cs) U ∧ va_D (fun _ => True) (Wf u) ∧ zg_N U
def zg_Post (D : va_G) (Wf : zs_T → va_W) (A : Nat → Prop) (u : zs_T) (t : State) : Prop := va_P D vwCl (Wf u) t.heap ∧ va_D A (Wf u)
def zg_rm (n : Nat) : Room := { frames := n, cells := 0, slots := 0, locals := 40 * n }
def zg_Ad (Wf : zs_T → va_W) : Prop := ∀ u v, (Wf u).map Prod.fst = (Wf v).map Prod.fst
def zg_Ci (l : Launch) (y : MethodName) (b : ByteArray) (mL : Nat) (ret : Option FieldType) (n : Nat) (D : va_G) (cs : Nat → ClassId) (Wf : zs_T → va_W) (u : zs_T) (av : List Value) (r : Int32) (u' : zs_T) : Prop :=
  ∀ sz, Met l y (.code y b mL ret :: zw_all) (zg_rm n) (va_Pc av (zg_Pre D cs Wf sz u)) (va_Qi (fun r' v => r' = r ∧ v = u') (zg_Post D Wf (zg_A Wf sz)) (zg_A Wf sz)) 0 0 (zg_A Wf sz)
def zg_Cl (l : Launch) (y : MethodName) (b : ByteArray) (mL : Nat) (ret : Option FieldType) (n : Nat) (D : va_G) (cs : Nat → ClassId) (Wf : zs_T → va_W) (u : zs_T) (av : List Value) (r : Int64) (u' : zs_T) : Prop :=
  ∀ sz, Met l y (.code y b mL ret :: zw_all) (zg_rm n) (va_Pc av (zg_Pre D cs Wf sz u)) (va_Ql (fun r' v => r' = r ∧ v = u') (zg_Post D Wf (zg_A Wf sz)) (zg_A Wf sz)) 0 0 (zg_A Wf sz)
def zg_Cv (l : Launch) (y : MethodName) (b : ByteArray) (mL : Nat) (ret : Option FieldType) (n : Nat) (D : va_G) (cs : Nat → ClassId) (Wf : zs_T → va_W) (u : zs_T) (av : List Value) (u' : zs_T) : Prop :=
  ∀ sz, Met l y (.code y b mL ret :: zw_all) (zg_rm n) (va_Pc av (zg_Pre D cs Wf sz u)) (va_Qv (fun v => v = u') (zg_Post D Wf (zg_A Wf sz)) (zg_A Wf sz)) 0 0 (zg_A Wf sz)
theorem zg_AD {Wf : zs_T → va_W} (ha : zg_Ad Wf) {u : zs_T} {sz : Nat} {B : Nat → Prop} (h : va_D B (Wf u)) : va_D (zg_A Wf sz) (Wf u) := by
  refine ⟨h.1, fun k q hk => ?_⟩
  have h1 : ((Wf u).map Prod.fst)[k]? = some q.1 := by rw [List.getElem?_map, hk]; rfl
  rw [ha u zs_0, List.getElem?_map] at h1
  cases h2 : (Wf zs_0)[k]? with
  | none => rw [h2] at h1; cases h1
  | some p =>
    rw [h2] at h1
    have h3 : p.1 = q.1 := Option.some.inj h1
    exact Or.inl ⟨k, p.2, by rw [h2, ← h3]⟩
theorem zg_A_of {Wf : zs_T → va_W} (ha : zg_Ad Wf) {u : zs_T} {sz : Nat} {A : Nat → Prop} (h : va_D A (Wf u)) (hA : ∀ a, sz ≤ a → A a) {a : Nat} (hq : zg_A Wf sz a) : A a := by
  rcases hq with ⟨k, e, h1⟩ | h1
  · have h2 : ((Wf zs_0).map Prod.fst)[k]? = some a := by rw [List.getElem?_map, h1]; rfl
    rw [ha zs_0 u, List.getElem?_map] at h2
    cases h3 : (Wf u)[k]? with
    | none => rw [h3] at h2; cases h2
    | some p =>
      rw [h3] at h2
      have h4 : p.1 = a := Option.some.inj h2
      rw [← h4]; exact h.2 k p h3
  · exact hA a h1
