section ZE
variable {l : Launch} {y : MethodName} {b : ByteArray} {mL n : Nat} {D : va_G} {cs : Nat → ClassId} {Wf : zs_T → va_W} {u u' : zs_T} {av : List Value} {own : String}
theorem zg_start {ret : Option FieldType} {Qc : Nat → Array Value → State → Outcome → State → Prop} {fr : Nat → Addr → Prop} (hy : plainName y.cls = true) (ho : y.cls = own) (ha : zg_Ad Wf)
    (body : ∀ (p : Program) (e : Env) (s : State) (m : MethodId) (below : List Frame) (meth : Method) (c : Code), CallFix p m c b mL s av.toArray (.code y b mL ret :: zw_all) own → meth.sig.returnType = ret → meth.locks = false → zg_W D cs (zg_A Wf s.heap.size) s (Wf u) s.heap [] → W p l e (zg_rm n) s m av.toArray below meth c s.heap [] 0 0 (MQ below (Qc s.heap.size) av.toArray s 0 0 (fr s.heap.size)) (entryFrame m av.toArray mL)) :
    ∀ sz, Met l y (.code y b mL ret :: zw_all) (zg_rm n) (va_Pc av (zg_Pre D cs Wf sz u)) (Qc sz) 0 0 (fr sz) := by
  intro sz
  refine Met.ofW (cc := b) (maxL := mL) (ret := ret) hy rfl ?_
  intro p e s m args below meth c s₁ B hml hv
  obtain ⟨rfl, hsz, hP, hK, hD, hN⟩ := hv
  subst hsz
  refine body p e s m below meth c ⟨B.exec, B.bytes, hml, ?_, atoms_spec (ws := .code y b mL ret :: zw_all) B.pre⟩ B.returns B.notSynchronized ⟨hP, zg_AD ha hD, va_S.rf, hK, hN, fun a h => Or.inr h⟩
  rw [← ho]
  exact findClass_of_methodNamed B.named
theorem zg_Ci_of {r : Int32} (hy : plainName y.cls = true) (ho : y.cls = own) (ha : zg_Ad Wf) (hlv : (lg_sl av).length ≤ mL)
    (body : ∀ (p : Program) (e : Env) (s : State) (m : MethodId) (args : Array Value) (below : List Frame) (meth : Method) (c : Code) (A : Nat → Prop) (Q : State → Prop), CallFix p m c b mL s args (.code y b mL (some .int) :: zw_all) own →
      (∀ (H : Heap) (locs : List Loc) (pc : Nat) (ls : Array Slot) (a : Int32) (v : zs_T), some (a, v) = some (r, u') → zg_W D cs A s (Wf v) H locs → decode b pc = .ok (.ireturn, 1) → W p l e (zg_rm n) s m args below meth c H locs 0 0 Q (F0 m pc ls [.int a])) →
      zg_W D cs A s (Wf u) s.heap [] → ∀ ls, lv_has ls mL (lv_args 0 av) → W p l e (zg_rm n) s m args below meth c s.heap [] 0 0 Q (F0 m 0 ls [])) : zg_Ci l y b mL (some .int) n D cs Wf u av r u' := by
  refine zg_start hy ho ha fun p e s m below meth c C hr hlocks w => ?_
  rw [lg_entry_eq]
  refine body p e s m _ below meth c _ _ C ?_ w _ (lv_entry av hlv)
  intro H locs pc ls a v hf w hd
  cases hf
  exact W.iret C.1 C.2.1 hr (fun t ht _ => ⟨⟨_, _, rfl, ⟨rfl, rfl⟩, by rw [ht]; exact w.1, w.2.1⟩, w.2.2.1.F ht⟩) w.2.2.1.2.2 hd hlocks
theorem zg_Cz_of {r : Int32} (hy : plainName y.cls = true) (ho : y.cls = own) (ha : zg_Ad Wf) (hlv : (lg_sl av).length ≤ mL)
    (body : ∀ (p : Program) (e : Env) (s : State) (m : MethodId) (args : Array Value) (below : List Frame) (meth : Method) (c : Code) (A : Nat → Prop) (Q : State → Prop), CallFix p m c b mL s args (.code y b mL (some .boolean) :: zw_all) own →
      (∀ (H : Heap) (locs : List Loc) (pc : Nat) (ls : Array Slot) (a : Int32) (v : zs_T), zf_z a = true → some (a, v) = some (r, u') → zg_W D cs A s (Wf v) H locs → decode b pc = .ok (.ireturn, 1) → W p l e (zg_rm n) s m args below meth c H locs 0 0 Q (F0 m pc ls [.int a])) →
      zg_W D cs A s (Wf u) s.heap [] → ∀ ls, lv_has ls mL (lv_args 0 av) → W p l e (zg_rm n) s m args below meth c s.heap [] 0 0 Q (F0 m 0 ls [])) : zg_Ci l y b mL (some .boolean) n D cs Wf u av r u' := by
  refine zg_start hy ho ha fun p e s m below meth c C hr hlocks w => ?_
  rw [lg_entry_eq]
  refine body p e s m _ below meth c _ _ C ?_ w _ (lv_entry av hlv)
  intro H locs pc ls a v hz hf w hd
  cases hf
  exact W.zret C.1 C.2.1 hr (zf_z_nar hz) (fun t ht _ => ⟨⟨_, _, rfl, ⟨rfl, rfl⟩, by rw [ht]; exact w.1, w.2.1⟩, w.2.2.1.F ht⟩) w.2.2.1.2.2 hd hlocks
theorem zg_Cl_of {r : Int64} (hy : plainName y.cls = true) (ho : y.cls = own) (ha : zg_Ad Wf) (hlv : (lg_sl av).length ≤ mL)
    (body : ∀ (p : Program) (e : Env) (s : State) (m : MethodId) (args : Array Value) (below : List Frame) (meth : Method) (c : Code) (A : Nat → Prop) (Q : State → Prop), CallFix p m c b mL s args (.code y b mL (some .long) :: zw_all) own →
      (∀ (H : Heap) (locs : List Loc) (pc : Nat) (ls : Array Slot) (a : Int64) (v : zs_T), some (a, v) = some (r, u') → zg_W D cs A s (Wf v) H locs → decode b pc = .ok (.lreturn, 1) → W p l e (zg_rm n) s m args below meth c H locs 0 0 Q (F0 m pc ls [.long a])) →
      zg_W D cs A s (Wf u) s.heap [] → ∀ ls, lv_has ls mL (lv_args 0 av) → W p l e (zg_rm n) s m args below meth c s.heap [] 0 0 Q (F0 m 0 ls [])) : zg_Cl l y b mL (some .long) n D cs Wf u av r u' := by
  refine zg_start hy ho ha fun p e s m below meth c C hr hlocks w => ?_
  rw [lg_entry_eq]
  refine body p e s m _ below meth c _ _ C ?_ w _ (lv_entry av hlv)
  intro H locs pc ls a v hf w hd
  cases hf
  exact W.lret C.1 C.2.1 hr (fun t ht _ => ⟨⟨_, _, rfl, ⟨rfl, rfl⟩, by rw [ht]; exact w.1, w.2.1⟩, w.2.2.1.F ht⟩) w.2.2.1.2.2 hd hlocks
theorem zg_Cv_of (hy : plainName y.cls = true) (ho : y.cls = own) (ha : zg_Ad Wf) (hlv : (lg_sl av).length ≤ mL)
    (body : ∀ (p : Program) (e : Env) (s : State) (m : MethodId) (args : Array Value) (below : List Frame) (meth : Method) (c : Code) (A : Nat → Prop) (Q : State → Prop), CallFix p m c b mL s args (.code y b mL none :: zw_all) own →
      (∀ (H : Heap) (locs : List Loc) (pc : Nat) (ls : Array Slot) (v : zs_T), some v = some u' → zg_W D cs A s (Wf v) H locs → decode b pc = .ok (.return_, 1) → W p l e (zg_rm n) s m args below meth c H locs 0 0 Q (F0 m pc ls [])) →
      zg_W D cs A s (Wf u) s.heap [] → ∀ ls, lv_has ls mL (lv_args 0 av) → W p l e (zg_rm n) s m args below meth c s.heap [] 0 0 Q (F0 m 0 ls [])) : zg_Cv l y b mL none n D cs Wf u av u' := by
  refine zg_start hy ho ha fun p e s m below meth c C hr hlocks w => ?_
  rw [lg_entry_eq]
  refine body p e s m _ below meth c _ _ C ?_ w _ (lv_entry av hlv)
  intro H locs pc ls v hf w hd
  cases hf
  exact W.vret C.1 C.2.1 hr (fun t ht _ => ⟨⟨_, rfl, rfl, by rw [ht]; exact w.1, w.2.1⟩, w.2.2.1.F ht⟩) w.2.2.1.2.2 hd hlocks
end ZE
/-- what a call asks of its callee's name -/
def zc_f (y : MethodName) (b : ByteArray) (mL : Nat) (ret : Option FieldType) (na : Nat) : Prop := Cond.code y b mL ret ∈ zw_all ∧ Cond.initialized y.cls ∈ zw_all ∧ y.cls ≠ "java/lang/invoke/MethodHandle" ∧ y.cls ≠ "java/lang/invoke/VarHandle" ∧ (parseMethodDescriptor y.desc).map (fun d => d.parameters.length) = some na
section ZC
variable {p : Program} {l : Launch} {e : Env} {R : Room} {s : State} {m : MethodId} {args : Array Value} {below : List Frame} {meth : Method} {c : Code} {H : Heap} {locs : List Loc} {cells slots : Nat} {Q : State → Prop}
variable {cc : ByteArray} {nL pc index : Nat} {ls : Array Slot} {rest stk : List Value} {c0 : Cond} {own : String}
variable {y : MethodName} {b : ByteArray} {mL k : Nat} {D : va_G} {cs : Nat → ClassId} {A : Nat → Prop} {Wf : zs_T → va_W} {u u' : zs_T} {As : List Value} {ret : Option FieldType}
theorem zc_B (C : CallFix p m c cc nL s args (c0 :: zw_all) own) {na : Nat} (hf : zc_f y b mL ret na) (hl : Cond.methodLink own index y ∈ zw_all) (hR : k + 1 ≤ R.frames ∧ 8 + (mL + 11) + 40 * k ≤ R.locals) : CallB R s args own index y b mL ret (.code y b mL ret :: zw_all) (zg_rm k) 0 0 na := by
  obtain ⟨h1, h2, h3, h4, h5⟩ := hf
  exact callB_of na C.2.2.2.2 (zw_goodIn (fun _ h => zw_in h) h1) rfl rfl rfl (C.2.2.2.2 _ (zw_in h2)) (C.2.2.2.2 _ (zw_in hl)) ⟨h3, h4, h5⟩ hR
theorem zc_pre (w : zg_W D cs A s (Wf u) H locs) (av : List Value) : FrameBlind (va_Pc av (zg_Pre D cs Wf H.size u)) ∧ ∀ U : State, U.heap = H → s.WarmedH U.vm → va_Pc av (zg_Pre D cs Wf H.size u) av.toArray U := by
  obtain ⟨hP, hD, hS, hK, hN, hA⟩ := w
  refine ⟨fun a U g mk q => ?_, fun U hU hW => ⟨rfl, by rw [hU], by rw [hU]; exact hP, va_K.moved hW.alike hK, hD.weaken (fun _ _ _ _ => trivial), fun q hq => va_Nw.warmM hW (hN q hq)⟩⟩
  obtain ⟨q0, q1, qP, qK, qD, qN⟩ := q
  exact ⟨q0, q1, qP, va_K.moved (u := U) (U := U.calling g mk a) (Vm.Alike.refl U.vm) qK, qD, fun x hx => va_Nw.same rfl rfl (qN x hx)⟩
theorem zc_back (ha : zg_Ad Wf) (w : zg_W D cs A s (Wf u) H locs) {t : State} {H1 : Heap} {locs1 : List Loc} (ht : t.heap = H1) (hB : zg_Post D Wf (zg_A Wf H.size) u' t) (hS : va_S A s.heap H1 locs1) : zg_W D cs A s (Wf u') H1 locs1 := by
  obtain ⟨hP, hD, hS0, hK, hN, hA⟩ := w
  obtain ⟨hP1, hD1⟩ := hB
  rw [ht] at hP1
  exact ⟨hP1, hD1.weaken (fun _ _ _ h => zg_A_of ha hD (fun a h1 => hA a (Nat.le_trans hS0.1 h1)) h), hS, hK, hN, hA⟩
theorem zc_fr (ha : zg_Ad Wf) (w : zg_W D cs A s (Wf u) H locs) : ∀ q, zg_A Wf H.size q → A q := fun _ h => zg_A_of ha w.2.1 (fun a h1 => w.2.2.2.2.2 a (Nat.le_trans w.2.2.1.1 h1)) h
/-- the receiver's cell -/
def zc_rc (Wf : zs_T → va_W) (u : zs_T) (a : Nat) (C : String) : Prop := ∃ (q0 ci : Nat) (fs : List Value) (q : vw_C), (Wf u)[q0]? = some (a, .inr (ci, fs)) ∧ vwCl[ci]? = some q ∧ q.1 = C
theorem zc_V (C : CallFix p m c cc nL s args (c0 :: zw_all) own) (w : zg_W D cs A s (Wf u) H locs) {a : Nat} {Qc : Array Value → State → Outcome → State → Prop} {fr : Addr → Prop} (hM : Met l y (.code y b mL ret :: zw_all) (zg_rm k) (va_Pc (.ref a :: As) (zg_Pre D cs Wf H.size u)) Qc 0 0 fr) (hf : zc_f y b mL ret As.length) (hi : Cond.instanceMethod y ∈ zw_all ∧ Cond.selects y.cls y y ∈ zw_all) (hl : Cond.methodLink own index y ∈ zw_all) (hrc : zc_rc Wf u a y.cls) (hR : k + 1 ≤ R.frames ∧ 8 + (mL + 11) + 40 * k ≤ R.locals) (hsz : ls.size = nL) (hst : stk = As.reverse ++ .ref a :: rest) (hro : (rest.map fun v => v.category).sum ≤ 8) (hdg : decode cc pc = .ok (.invokevirtual index, 3)) (hcs : cells ≤ R.cells ∧ slots ≤ R.slots) :
    va_Run p l e R s m args below meth c H locs cells slots 0 0 (F0 m pc ls stk) rest (Qc (Value.ref a :: As).toArray) fr := by
  obtain ⟨q0, ci, fs, q, h1, h2, h3⟩ := hrc
  have hp := zc_pre w (.ref a :: As)
  have hrec := va_recv w.2.2.2.1 w.1 h2 h1
  rw [h3] at hrec
  exact va_runV C hM ⟨zc_B C hf hl hR, C.2.2.2.2 _ (zw_in hi.1), C.2.2.2.2 _ (zw_in hi.2)⟩ ⟨hp.1, hrec, hp.2⟩ rfl rfl hsz hst (lv_room hro) hdg hcs
theorem zc_S (C : CallFix p m c cc nL s args (c0 :: zw_all) own) (w : zg_W D cs A s (Wf u) H locs) {Qc : Array Value → State → Outcome → State → Prop} {fr : Addr → Prop} (hM : Met l y (.code y b mL ret :: zw_all) (zg_rm k) (va_Pc As (zg_Pre D cs Wf H.size u)) Qc 0 0 fr) (hf : zc_f y b mL ret As.length) (hi : Cond.static y ∈ zw_all) (hl : Cond.methodLink own index y ∈ zw_all) (hR : k + 1 ≤ R.frames ∧ 8 + (mL + 11) + 40 * k ≤ R.locals) (hsz : ls.size = nL) (hst : stk = As.reverse ++ rest) (hro : (rest.map fun v => v.category).sum ≤ 8) (hdg : decode cc pc = .ok (.invokestatic index, 3)) (hcs : cells ≤ R.cells ∧ slots ≤ R.slots) :
    va_Run p l e R s m args below meth c H locs cells slots 0 0 (F0 m pc ls stk) rest (Qc As.toArray) fr :=
  va_runS C hM ⟨zc_B C hf hl hR, C.2.2.2.2 _ (zw_in hi)⟩ (zc_pre w As) rfl rfl hsz hst (lv_room hro) hdg hcs
theorem zc_SN (C : CallFix p m c cc nL s args (c0 :: zw_all) own) (w : zg_W D cs A s (Wf u) H locs) {Qc : Array Value → State → Outcome → State → Prop} {fr : Addr → Prop} {host : String} (hM : Met l y (.code y b mL ret :: zw_all) (zg_rm k) (va_Pc As (zg_Pre D cs Wf H.size u)) Qc 0 0 fr) (hf : zc_f y b mL ret As.length) (hi : Cond.static y ∈ zw_all) (hl : (own, index, y, host) ∈ zn_all) (hR : k + 1 ≤ R.frames ∧ 8 + (mL + 11) + 40 * k ≤ R.locals) (hsz : ls.size = nL) (hst : stk = As.reverse ++ rest) (hro : (rest.map fun v => v.category).sum ≤ 8) (hdg : decode cc pc = .ok (.invokestatic index, 3)) (hcs : cells ≤ R.cells ∧ slots ≤ R.slots) :
    va_Run p l e R s m args below meth c H locs cells slots 0 0 (F0 m pc ls stk) rest (Qc As.toArray) fr := by
  obtain ⟨h1, h2, h3, h4, h5⟩ := hf
  exact va_runSN C hM ⟨va_cnB As.length C.2.2.2.2 (zw_goodIn (fun _ h => zw_in h) h1) rfl rfl rfl (w.2.2.2.2.1 _ hl) (C.2.2.2.2 _ (zw_in h2)) ⟨h3, h4, h5⟩ hR, C.2.2.2.2 _ (zw_in hi), trivial⟩ (zc_pre w As) rfl rfl hsz hst (lv_room hro) hdg hcs
theorem zc_ri (ha : zg_Ad Wf) (w : zg_W D cs A s (Wf u) H locs) {r : Int32} {av : Array Value} (hr : va_Run p l e R s m args below meth c H locs cells slots 0 0 (F0 m pc ls stk) rest (va_Qi (fun r' v => r' = r ∧ v = u') (zg_Post D Wf (zg_A Wf H.size)) (zg_A Wf H.size) av) (zg_A Wf H.size))
    (kk : ∀ (H1 : Heap) (locs1 : List Loc), zg_W D cs A s (Wf u') H1 locs1 → W p l e R s m args below meth c H1 locs1 cells slots Q (F0 m (pc + 3) ls (.int r :: rest))) : W p l e R s m args below meth c H locs cells slots Q (F0 m pc ls stk) := by
  refine va_calli hr w.2.2.1 (fun q _ h => zc_fr ha w q h) (zc_fr ha w) fun r' v t H1 locs1 ht _ hw hB _ _ hS => ?_
  obtain ⟨rfl, rfl⟩ := hw
  exact kk H1 locs1 (zc_back ha w ht hB hS)
theorem zc_rl (ha : zg_Ad Wf) (w : zg_W D cs A s (Wf u) H locs) {r : Int64} {av : Array Value} (hr : va_Run p l e R s m args below meth c H locs cells slots 0 0 (F0 m pc ls stk) rest (va_Ql (fun r' v => r' = r ∧ v = u') (zg_Post D Wf (zg_A Wf H.size)) (zg_A Wf H.size) av) (zg_A Wf H.size))
    (kk : ∀ (H1 : Heap) (locs1 : List Loc), zg_W D cs A s (Wf u') H1 locs1 → W p l e R s m args below meth c H1 locs1 cells slots Q (F0 m (pc + 3) ls (.long r :: rest))) : W p l e R s m args below meth c H locs cells slots Q (F0 m pc ls stk) := by
  refine va_calll hr w.2.2.1 (fun q _ h => zc_fr ha w q h) (zc_fr ha w) fun r' v t H1 locs1 ht _ hw hB _ _ hS => ?_
  obtain ⟨rfl, rfl⟩ := hw
  exact kk H1 locs1 (zc_back ha w ht hB hS)
theorem zc_rv (ha : zg_Ad Wf) (w : zg_W D cs A s (Wf u) H locs) {av : Array Value} (hr : va_Run p l e R s m args below meth c H locs cells slots 0 0 (F0 m pc ls stk) rest (va_Qv (fun v => v = u') (zg_Post D Wf (zg_A Wf H.size)) (zg_A Wf H.size) av) (zg_A Wf H.size))
    (kk : ∀ (H1 : Heap) (locs1 : List Loc), zg_W D cs A s (Wf u') H1 locs1 → W p l e R s m args below meth c H1 locs1 cells slots Q (F0 m (pc + 3) ls rest)) : W p l e R s m args below meth c H locs cells slots Q (F0 m pc ls stk) := by
  refine va_callv hr w.2.2.1 (fun q _ h => zc_fr ha w q h) (zc_fr ha w) fun v t H1 locs1 ht _ hw hB _ _ hS => ?_
  subst hw
  exact kk H1 locs1 (zc_back ha w ht hB hS)
end ZC
