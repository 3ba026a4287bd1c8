/-! THE CLAIM OUT OF ONE WALK OF THE LAW'S BODY. Your part is whole_start (and what it stands on); all else here is the same for every law, but numbers. -/
def R_law : String := "FlockPassLaw"
def lw_P (b : Addr) (xs : List Int32) (args : Array Value) (s : State) : Prop := args = #[.ref b] ∧ s.IntsAt b xs ∧ xs.length ≤ 3072 ∧ (Jvm.Cond.and given_1 narrow_1).before args s = true
def lw_Q (_ : Array Value) (s : State) (o : Outcome) (t : State) : Prop := o = .returned (some (.int 1)) ∧ Framed s o t [] 600000 7302250
def lw_Z (below : List Frame) (a : Array Value) (s : State) : State → Prop := fun t => ∃ o, t.status = .running ∧ Ended t below o ∧ lw_Q a s o t
/-- the law's own end, with 1 on the stack, nothing written that was there before, its room as the claim has it -/
theorem lw_ret {p : Program} {l : Launch} {e : Env} {s : State} {m : MethodId} {below : List Frame} {meth : Method} {c : Code} {b : Nat} (hx : p.tables.exec = Jvm.exec) (hb : c.code = code) (hr : meth.sig.returnType = ret) (hlocks : meth.locks = false) {pc : Nat} {H : Heap} {ls : Array Slot} (hdg : decode code pc = .ok (.ireturn, 1)) : W p l e room_1 s m #[Value.ref b] below meth c H [] 600000 7302250 (lw_Z below #[Value.ref b] s) (F0 m pc ls [.int 1]) := by
  intro T hT X
  obtain ⟨fs, hret, hrun, hended, hW, hframe⟩ := X.leave (v := some (.int 1)) (hlocks := hlocks) (fun h => by rw [hr] at h; cases h)
  have hmeth' : T.vm.method? m = some meth := X.method'
  refine ⟨T.setFrames fs, ?_, .returned (some (.int 1)), hrun, hended, rfl, ⟨_, rfl⟩, hW, hframe⟩
  jvm_step X.here [X.here.top, hx, hb, hdg, hmeth', hr, ret, narrow_b1]
  (try refine ⟨rfl, ?_⟩); (try refine ⟨rfl, ?_⟩)
  first | (intro acts; rw [hret _ acts rfl rfl rfl]) | rw [hret _ _ rfl rfl rfl]
  exact Steps.refl _
/-- what holds at the law's entry: the machine, the code, the tables' words (any of lw_tbl by 'hts w (by decide +kernel)'), the script of L ints xs at the cell b, what the Statement gives of the start (any of its parts by flat_of_before) -/
def lw_At (p : Program) (s : State) (m : MethodId) (meth : Method) (c : Code) (b L : Nat) (xs : Nat → Int32) : Prop :=
  p.tables.exec = Jvm.exec ∧ c.code = code ∧ meth.sig.returnType = ret ∧ c.maxLocals = 4 ∧ s.vm.findClass R_law = some m.cls ∧ (∀ w ∈ lw_tbl, w.before #[Value.ref b] s = true) ∧ va_X b L xs s s.heap ∧ b < s.heap.size ∧ meth.locks = false ∧ (Jvm.Cond.and given_1 narrow_1).before #[Value.ref b] s = true
def zl_feed (N : Nat) (x m : zs_T) (J : zs_T → zs_T → Prop) (a1 : Int32) (a2 : Int32) (a3 : Int32) (a4 : Int32) (a5 : Int32) : Prop := ∃ (r : Int32) (x1 : zs_T) (m1 : zs_T), fX8_feed N x a1 a2 a3 a4 a5 = some (r, x1) ∧ fM9_feed N m a1 a2 a3 a4 a5 = some (r, m1) ∧ J x1 m1
def zl_rules (N : Nat) (x m : zs_T) (J : zs_T → zs_T → Prop) (a1 : Int32) : Prop := ∃ (r : Int32) (x1 : zs_T) (m1 : zs_T), fX8_rules N x a1 = some (r, x1) ∧ fM9_rules N m a1 = some (r, m1) ∧ J x1 m1
def zl_alp (N : Nat) (x m : zs_T) (J : zs_T → zs_T → Prop) (a1 : Int32) : Prop := ∃ (r : Int32) (x1 : zs_T) (m1 : zs_T), fX8_alp x a1 = some (r, x1) ∧ fM9_alp N m a1 = some (r, m1) ∧ J x1 m1
def zl_height (N : Nat) (x m : zs_T) (J : zs_T → zs_T → Prop) (a1 : Int32) (a2 : Int32) (a3 : Int32) (a4 : Int32) : Prop := ∃ (r : Int32) (x1 : zs_T) (m1 : zs_T), fX8_height x a1 a2 a3 a4 = some (r, x1) ∧ fM9_height m a1 a2 a3 a4 = some (r, m1) ∧ J x1 m1
def zl_sheep (N : Nat) (x m : zs_T) (J : zs_T → zs_T → Prop) (a1 : Int32) : Prop := ∃ (r : Int32) (x1 : zs_T) (m1 : zs_T), fX8_sheep x a1 = some (r, x1) ∧ fM9_sheep m a1 = some (r, m1) ∧ J x1 m1
def zl_move (N : Nat) (x m : zs_T) (J : zs_T → zs_T → Prop) (a1 : Int32) : Prop := ∃ (r : Int32) (x1 : zs_T) (m1 : zs_T), fX8_move x a1 = some (r, x1) ∧ fM9_move m a1 = some (r, m1) ∧ J x1 m1
def zl_day (N : Nat) (x m : zs_T) (J : zs_T → zs_T → Prop) (a1 : Int32) (a2 : Int32) : Prop := ∃ (r : Int32) (x1 : zs_T) (m1 : zs_T), fX8_day N x a1 a2 = some (r, x1) ∧ fM9_day N m a1 a2 = some (r, m1) ∧ J x1 m1
def zl_act (N : Nat) (x m : zs_T) (J : zs_T → zs_T → Prop) (a1 : Int32) (a2 : Int32) (a3 : Int32) (a4 : Int32) : Prop := ∃ (r : Int32) (x1 : zs_T) (m1 : zs_T), fX8_act N x a1 a2 a3 a4 = some (r, x1) ∧ fM9_act N m a1 a2 a3 a4 = some (r, m1) ∧ J x1 m1
def zl_milking (N : Nat) (x m : zs_T) (J : zs_T → zs_T → Prop) (a1 : Int32) : Prop := ∃ (r : Int32) (x1 : zs_T) (m1 : zs_T), fX8_milking x a1 = some (r, x1) ∧ fM9_milking m a1 = some (r, m1) ∧ J x1 m1
def zl_milk (N : Nat) (x m : zs_T) (J : zs_T → zs_T → Prop) (a1 : Int32) (a2 : Int32) : Prop := ∃ (r : Int32) (x1 : zs_T) (m1 : zs_T), fX8_milk x a1 a2 = some (r, x1) ∧ fM9_milk m a1 a2 = some (r, m1) ∧ J x1 m1
def zl_close (N : Nat) (x m : zs_T) (J : zs_T → zs_T → Prop) (a1 : Int32) : Prop := ∃ (r : Int32) (x1 : zs_T) (m1 : zs_T), fX8_close N x a1 = some (r, x1) ∧ fM9_close N m a1 = some (r, m1) ∧ J x1 m1
def zl_work (N : Nat) (x m : zs_T) (J : zs_T → zs_T → Prop) (a1 : Int32) (a2 : Int32) : Prop := ∃ (r : Int32) (x1 : zs_T) (m1 : zs_T), fX8_work x a1 a2 = some (r, x1) ∧ fM9_work m a1 a2 = some (r, m1) ∧ J x1 m1
def zl_look (N : Nat) (x m : zs_T) (J : zs_T → zs_T → Prop) (a1 : Int32) (a2 : Int32) (a3 : Int32) (a4 : Int32) : Prop := ∃ (r : Int32) (x1 : zs_T) (m1 : zs_T), fX8_look N x a1 a2 a3 a4 = some (r, x1) ∧ fM9_look N m a1 a2 a3 a4 = some (r, m1) ∧ J x1 m1
def zl_credit (N : Nat) (x m : zs_T) (J : zs_T → zs_T → Prop) (a1 : Int32) (a2 : Int32) : Prop := ∃ (r : Int32) (x1 : zs_T) (m1 : zs_T), fX8_credit N x a1 a2 = some (r, x1) ∧ fM9_credit N m a1 a2 = some (r, m1) ∧ J x1 m1
def zl_part (N : Nat) (x m : zs_T) (J : zs_T → zs_T → Prop) (a1 : Int32) (a2 : Int32) : Prop := ∃ (r : Int32) (x1 : zs_T) (m1 : zs_T), fX8_part N x a1 a2 = some (r, x1) ∧ fM9_part N m a1 a2 = some (r, m1) ∧ J x1 m1
def zl_way (N : Nat) (x m : zs_T) (J : zs_T → zs_T → Prop) (a1 : Int32) (a2 : Int32) : Prop := ∃ (r : Int32) (x1 : zs_T) (m1 : zs_T), fX8_way N x a1 a2 = some (r, x1) ∧ fM9_way N m a1 a2 = some (r, m1) ∧ J x1 m1
def zl_step (N : Nat) (x m : zs_T) (J : zs_T → zs_T → Prop) (a1 : Int32) : Prop := ∃ (r : Int32), fX8_step x a1 = some r ∧ fM9_step m a1 = some r ∧ J x m
def zl_grass (N : Nat) (x m : zs_T) (J : zs_T → zs_T → Prop) (a1 : Int32) (a2 : Int32) : Prop := ∃ (r : Int32), fX8_grass x a1 a2 = some r ∧ fM9_grass m a1 a2 = some r ∧ J x m
def zl_told (N : Nat) (x m : zs_T) (J : zs_T → zs_T → Prop) (a1 : Int32) (a2 : Int32) : Prop := ∃ (r : Int64) (x1 : zs_T) (m1 : zs_T), fX8_told N x a1 a2 = some (r, x1) ∧ fM9_told N m a1 a2 = some (r, m1) ∧ J x1 m1
def zl_entry (N : Nat) (x m : zs_T) (J : zs_T → zs_T → Prop) (a1 : Int32) (a2 : Int32) : Prop := ∃ (r : Int32), fX8_entry x a1 a2 = some r ∧ fM9_entry m a1 a2 = some r ∧ J x m
def zl_rule (N : Nat) (x m : zs_T) (J : zs_T → zs_T → Prop) (a1 : Int32) : Prop := ∃ (r : Int32), fX8_rule x a1 = some r ∧ fM9_rule m a1 = some r ∧ J x m
def zl_count (N : Nat) (x m : zs_T) (J : zs_T → zs_T → Prop) (a1 : Int32) : Prop := ∃ (r : Int64) (m1 : zs_T), fX8_count N x a1 = some r ∧ fM9_count N m a1 = some (r, m1) ∧ J x m1
/-- what is to be shown of the two systems, as functions: each call answers alike, and I is kept -/
def zl_all (N : Nat) (I : Nat → zs_T → zs_T → Prop) : Prop := ∀ (k : Nat) (x m : zs_T), k < 512 → I k x m → ∀ a1 a2 a3 a4 a5 : Int32, zl_feed N x m (I (k + 1)) a1 a2 a3 a4 a5 ∧ zl_rules N x m (I (k + 1)) a1 ∧ zl_alp N x m (I (k + 1)) a1 ∧ zl_height N x m (I (k + 1)) a1 a2 a3 a4 ∧ zl_sheep N x m (I (k + 1)) a1 ∧ zl_move N x m (I (k + 1)) a1 ∧ zl_day N x m (I (k + 1)) a1 a2 ∧ zl_act N x m (I (k + 1)) a1 a2 a3 a4 ∧ zl_milking N x m (I (k + 1)) a1 ∧ zl_milk N x m (I (k + 1)) a1 a2 ∧ zl_close N x m (I (k + 1)) a1 ∧ zl_work N x m (I (k + 1)) a1 a2 ∧ zl_look N x m (I (k + 1)) a1 a2 a3 a4 ∧ zl_credit N x m (I (k + 1)) a1 a2 ∧ zl_part N x m (I (k + 1)) a1 a2 ∧ zl_way N x m (I (k + 1)) a1 a2 ∧ zl_step N x m (I (k + 1)) a1 ∧ zl_grass N x m (I (k + 1)) a1 a2 ∧ zl_told N x m (I (k + 1)) a1 a2 ∧ zl_entry N x m (I (k + 1)) a1 a2 ∧ zl_rule N x m (I (k + 1)) a1 ∧ zl_count N x m (I (k + 1)) a1
/-! a call in a world of two halves -/
theorem zl_C {w1 w2 : va_W} : (List.range w1.length).map (fun i => (w1 ++ w2)[i]?) = w1.map some := by
  apply List.ext_getElem?
  intro i
  by_cases h : i < w1.length
  · simp [h]
    rw [List.getElem?_append_left h, List.getElem?_eq_getElem h]
  · simp [h]
theorem zl_R {w1 w2 : va_W} : ((List.range w2.length).map (fun i => w1.length + i)).map (fun i => (w1 ++ w2)[i]?) = w2.map some := by
  apply List.ext_getElem?
  intro i
  by_cases h : i < w2.length
  · simp [h]
  · simp [h]
theorem zl_nd (a n : Nat) : va_nd ((List.range n).map (fun i => a + i)) = true := by
  have key : ∀ (l : List Nat), l.Nodup → va_nd l = true := by
    intro l
    induction l with
    | nil => intro _; rfl
    | cons a l ih => intro h; rw [List.nodup_cons] at h; simp [va_nd, h.1, ih h.2]
  refine key _ ?_
  rw [List.nodup_iff_pairwise_ne, List.pairwise_map]
  exact (List.nodup_iff_pairwise_ne.mp List.nodup_range).imp (fun h => by omega)
theorem zl_A {Wf : zs_T → va_W} (ha : zg_Ad Wf) {u : zs_T} {sz q : Nat} : va_A (Wf u) sz q ↔ zg_A Wf sz q := by
  have key : ∀ u v : zs_T, va_A (Wf u) sz q → va_A (Wf v) sz q := by
    intro u v h
    rcases h with ⟨k, e, h1⟩ | h1
    · have h2 : ((Wf u).map Prod.fst)[k]? = some q := by rw [List.getElem?_map, h1]; rfl
      rw [ha u v, List.getElem?_map] at h2
      cases h3 : (Wf v)[k]? with
      | none => rw [h3] at h2; cases h2
      | some p =>
        rw [h3] at h2
        have h4 : p.1 = q := Option.some.inj h2
        exact Or.inl ⟨k, p.2, by rw [h3, ← h4]⟩
    · exact Or.inr h1
  exact ⟨key _ _, key _ _⟩
section ZL
variable {p : Program} {l : Launch} {e : Env} {R : Room} {s : State} {m : MethodId} {args : Array Value} {below : List Frame} {meth : Method} {c : Code} {H : Heap} {locs : List Loc} {cells slots : Nat} {Q : State → Prop}
variable {pc : Nat} {ls : Array Slot} {rest stk : List Value} {D : va_G} {cs : Nat → ClassId} {A : Nat → Prop} {Wf : zs_T → va_W} {u u' : zs_T} {w2 : va_W}
theorem zl_w1 (w : zg_W D cs A s (Wf u ++ w2) H locs) : zg_W D cs A s (Wf u) H locs := by
  obtain ⟨hP, hD, hS, hK, hN, hA⟩ := w
  refine ⟨fun k q h => hP k q ?_, hD.sub (List.range (Wf u).length) (zk_nd _) zl_C, hS, hK, hN, hA⟩
  rw [List.getElem?_append_left (List.getElem?_eq_some_iff.mp h).1]
  exact h
theorem zl_back (ha : zg_Ad Wf) (w : zg_W D cs A s (Wf u ++ w2) H locs) {t : State} {H1 : Heap} {locs1 : List Loc} (ht : t.heap = H1) (hB : zg_Post D Wf (zg_A Wf H.size) u' t) (hk : ∀ q : Nat, q < H.size → ¬ zg_A Wf H.size q → H1[q]? = H[q]?) (hS : va_S A s.heap H1 locs1) : zg_W D cs A s (w2 ++ Wf u') H1 locs1 := by
  have hF := zc_fr ha (zl_w1 w)
  obtain ⟨hP, hD, hS0, hK, hN, hA⟩ := w
  obtain ⟨hP1, hD1⟩ := hB
  rw [ht] at hP1
  obtain ⟨hP2, hD2⟩ := va_join hP hD (List.range (Wf u).length) ((List.range w2.length).map (fun i => (Wf u).length + i)) zl_C zl_R (zl_nd _ _) (fun i hi h => by simp at hi h; omega) (fun q h1 h2 => hk q h1 (fun h3 => h2 ((zl_A ha).mpr h3))) (fun q h => hF q ((zl_A ha).mp h)) hP1 (hD1.weaken (fun _ _ _ h => (zl_A ha).mpr h))
  exact ⟨hP2, hD2, hS, hK, hN, hA⟩
theorem zl_ri (ha : zg_Ad Wf) (w : zg_W D cs A s (Wf u ++ w2) H locs) {r : Int32} {av : Array Value} (hr : va_Run p l e R s m args below meth c H locs cells slots 0 0 (F0 m pc ls stk) rest (va_Qi (fun r' v => r' = r ∧ v = u') (zg_Post D Wf (zg_A Wf H.size)) (zg_A Wf H.size) av) (zg_A Wf H.size))
    (kk : ∀ (H1 : Heap) (locs1 : List Loc), zg_W D cs A s (w2 ++ Wf u') H1 locs1 → W p l e R s m args below meth c H1 locs1 cells slots Q (F0 m (pc + 3) ls (.int r :: rest))) : W p l e R s m args below meth c H locs cells slots Q (F0 m pc ls stk) := by
  refine va_calli hr w.2.2.1 (fun q _ h => zc_fr ha (zl_w1 w) q h) (zc_fr ha (zl_w1 w)) fun r' v t H1 locs1 ht _ hw hB _ hk hS => ?_
  obtain ⟨rfl, rfl⟩ := hw
  exact kk H1 locs1 (zl_back ha w ht hB hk hS)
theorem zl_rl (ha : zg_Ad Wf) (w : zg_W D cs A s (Wf u ++ w2) H locs) {r : Int64} {av : Array Value} (hr : va_Run p l e R s m args below meth c H locs cells slots 0 0 (F0 m pc ls stk) rest (va_Ql (fun r' v => r' = r ∧ v = u') (zg_Post D Wf (zg_A Wf H.size)) (zg_A Wf H.size) av) (zg_A Wf H.size))
    (kk : ∀ (H1 : Heap) (locs1 : List Loc), zg_W D cs A s (w2 ++ Wf u') H1 locs1 → W p l e R s m args below meth c H1 locs1 cells slots Q (F0 m (pc + 3) ls (.long r :: rest))) : W p l e R s m args below meth c H locs cells slots Q (F0 m pc ls stk) := by
  refine va_calll hr w.2.2.1 (fun q _ h => zc_fr ha (zl_w1 w) q h) (zc_fr ha (zl_w1 w)) fun r' v t H1 locs1 ht _ hw hB _ hk hS => ?_
  obtain ⟨rfl, rfl⟩ := hw
  exact kk H1 locs1 (zl_back ha w ht hB hk hS)
end ZL
theorem zl_cmp (r : Int64) : lg_cmp r r = 0 := by
  have h : ¬ r > r := by
    intro h
    have := Int64.lt_iff_toInt_lt.mp h
    omega
  simp [lg_cmp, h]
