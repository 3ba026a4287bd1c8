/-! rows for constructors: worlds that grow -/
theorem zk_ac : Cond.arrayClass .int ∈ zw_all ∧ Cond.arrayClass .long ∈ zw_all ∧ Cond.arrayClass .boolean ∈ zw_all ∧ Cond.arrayClass .byte ∈ zw_all := ⟨zw_at 72 (by decide +kernel) rfl, zw_at 323 (by decide +kernel) rfl, zw_at 232 (by decide +kernel) rfl, zw_at 799 (by decide +kernel) rfl⟩
theorem zk_oi : Cond.instanceMethod Lib.objectInit ∈ zw_all ∧ Cond.code Lib.objectInit ⟨#[0xb1]⟩ 1 none ∈ zw_all := ⟨by decide +kernel, by decide +kernel⟩
def zk_rm (n mc ms : Nat) : Room := { frames := n, cells := mc, slots := ms, locals := 40 * n }
def zk_Pre (D : va_G) (cs : Nat → ClassId) (ws : va_W) (sz : Nat) (U : State) : Prop := U.heap.size = sz ∧ va_P D vwCl ws U.heap ∧ va_K D vwCl (zg_ty cs) U ∧ va_D (fun _ => True) ws ∧ zg_N U
def zk_Post (D : va_G) (Wt : (Nat → Nat) → va_W) (A : Nat → Prop) (q : Nat → Nat) (t : State) : Prop := va_P D vwCl (Wt q) t.heap ∧ va_D A (Wt q)
/-- a constructor's contract: out of a blank object at h0 comes the world Wt -/
def zk_C (l : Launch) (y : MethodName) (b : ByteArray) (mL n mc ms : Nat) (D : va_G) (cs : Nat → ClassId) (h0 ci : Nat) (fs : List Value) (Wt : (Nat → Nat) → va_W) : Prop :=
  ∀ sz, Met l y (.code y b mL none :: zw_all) (zk_rm n mc ms) (va_Pc [.ref h0] (zk_Pre D cs [(h0, .inr (ci, fs))] sz)) (va_Qv (fun q : Nat → Nat => q 0 = h0) (zk_Post D Wt (va_A [(h0, .inr (ci, fs))] sz)) (va_A [(h0, .inr (ci, fs))] sz)) mc ms (va_A [(h0, .inr (ci, fs))] sz)
theorem zk_of {l : Launch} {y : MethodName} {b : ByteArray} {mL n mc ms : Nat} {D : va_G} {cs : Nat → ClassId} {h0 ci : Nat} {fs : List Value} {Wt : (Nat → Nat) → va_W} {own : String} (hy : plainName y.cls = true) (ho : y.cls = own) (hnm : y.name = "<init>") (hlv : 1 ≤ mL)
    (body : ∀ (p : Program) (e : Env) (s : State) (m : MethodId) (args : Array Value) (below : List Frame) (meth : Method) (c : Code) (A : Nat → Prop) (Q : State → Prop), CallFix p m c b mL s args (.code y b mL none :: zw_all) own → meth.name = "<init>" →
      (∀ (H : Heap) (locs : List Loc) (pc : Nat) (ls : Array Slot) (q : Nat → Nat), q 0 = h0 → zg_W D cs A s (Wt q) H locs → decode b pc = .ok (.return_, 1) → W p l e (zk_rm n mc ms) s m args below meth c H locs mc ms Q (F0 m pc ls [])) →
      zg_W D cs A s [(h0, .inr (ci, fs))] s.heap [] → ∀ ls, lv_has ls mL [(0, .ref h0)] → W p l e (zk_rm n mc ms) s m args below meth c s.heap [] 0 0 Q (F0 m 0 ls [])) : zk_C l y b mL n mc ms D cs h0 ci fs Wt := by
  intro sz
  refine Met.ofW (cc := b) (maxL := mL) (ret := none) hy rfl ?_
  intro p e s m args below meth c s₁ B hml hv
  obtain ⟨rfl, hsz, hP, hK, hD, hN⟩ := hv
  subst hsz
  have hr := B.returns
  have hlocks := B.notSynchronized
  have hin : meth.name = "<init>" := (name_of_methodNamed B.named B.method).1.trans hnm
  rw [lg_entry_eq]
  refine body p e s m _ below meth c (va_A [(h0, .inr (ci, fs))] s.heap.size) _ ⟨B.exec, B.bytes, hml, ?_, atoms_spec (ws := .code y b mL none :: zw_all) B.pre⟩ hin ?_ ⟨hP, hD.self, va_S.rf, hK, hN, fun a h => Or.inr h⟩ _ (lv_entry [.ref h0] hlv)
  · rw [← ho]
    exact findClass_of_methodNamed B.named
  · intro H locs pc ls q hq w hd
    exact W.vret B.exec B.bytes hr (fun t ht _ => ⟨⟨q, rfl, hq, by rw [ht]; exact w.1, w.2.1⟩, w.2.2.1.F ht⟩) w.2.2.1.2.2 hd hlocks
section ZK
variable {p : Program} {l : Launch} {e : Env} {R : Room} {s : State} {m : MethodId} {args : Array Value} {below : List Frame} {meth : Method} {c : Code} {H : Heap} {locs : List Loc} {cells slots : Nat} {Q : State → Prop}
variable {cc : ByteArray} {nL pc index : Nat} {ls : Array Slot} {rest : List Value} {c0 : Cond} {own : String}
variable {D : va_G} {cs : Nat → ClassId} {A : Nat → Prop} {ws ws' : va_W} {a q0 ci N k : Nat} {fs : List Value} {Cn : String} {T : u_T}
theorem zk_obj (C : CallFix p m c cc nL s args (c0 :: zw_all) own) (hl : Cond.methodLink own index Lib.objectInit ∈ zw_all) (hsz : ls.size = nL) (hR : 1 ≤ R.frames ∧ (rest.map fun v => v.category).sum + 12 ≤ R.locals) (hdg : decode cc pc = .ok (.invokespecial index, 3))
    (kk : W p l e R s m args below meth c H locs cells slots Q (F0 m (pc + 3) ls rest)) : W p l e R s m args below meth c H locs cells slots Q (F0 m pc ls (.ref a :: rest)) :=
  W.objInit C.1 C.2.1 C.2.2.2.1 (C.2.2.2.2 _ (zw_in hl)) (C.2.2.2.2 _ (zw_in zk_oi.1)) (C.2.2.2.2 _ (zw_in zk_oi.2)) rfl (hsz.trans C.2.2.1.symm) rfl hdg hR.1 (by show 2 * 0 + _ + 12 ≤ _; omega) kk
theorem zk_newaT (C : CallFix p m c cc nL s args (c0 :: zw_all) own) (w : zg_W D cs A s ws H locs) {atype : ArrayType} {ty : FieldType} {t0 : Nat} (hty : newarray.typeOf atype = ty) (hac : Cond.arrayClass ty ∈ zw_all) (ht : (zg_ty cs)[t0]? = some (cs t0, ty)) (hnr : ∀ U cA, va_RA U cA ty → U.vm.findClass ("[" ++ ty.toString) = some cA) {a0 : vp_A} {n : Int32} {N : Nat} (ha : ∀ cA : ClassId, vp_cell cA a0 = arrV cA N (fun _ => defaultValue ty)) (hn : ¬ n < 0) (hN : n.toNatClampNeg = N) (hby : N * componentBytes ty ≤ 536870912) (hcs : cells + 1 ≤ R.cells ∧ slots + N ≤ R.slots) (hdg : decode cc pc = .ok (.newarray atype, 2))
    (kk : ∀ (q : Nat) (H1 : Heap), zg_W D cs A s (ws ++ [(q, .inl (cs t0, a0))]) H1 locs → W p l e R s m args below meth c H1 locs (cells + 1) (slots + N) Q (F0 m (pc + 2) ls (.ref q :: rest))) : W p l e R s m args below meth c H locs cells slots Q (F0 m pc ls (.int n :: rest)) := by
  obtain ⟨hP, hD, hS, hK, hNn, hA⟩ := w
  refine va_newa C.1 C.2.1 (by rw [hty]; exact C.2.2.2.2 _ (zw_in hac)) hty hK hP hD hS hA ha hn hN hby hcs.1 hcs.2 hdg fun q cA H1 hK1 hP1 hD1 hS1 => ?_
  have h1 := hnr _ _ (hK.2 t0 _ ht).2
  have h2 := hnr _ _ (hK1.2 4 (cA, ty) rfl).2
  have h3 : cA = cs t0 := Option.some.inj (h2.symm.trans h1)
  subst h3
  exact kk q H1 ⟨hP1, hD1, hS1, hK, hNn, hA⟩
theorem zk_newi (C : CallFix p m c cc nL s args (c0 :: zw_all) own) (w : zg_W D cs A s ws H locs) {n : Int32} {N : Nat} (hn : ¬ n < 0) (hN : n.toNatClampNeg = N) (hby : N * componentBytes .int ≤ 536870912) (hcs : cells + 1 ≤ R.cells ∧ slots + N ≤ R.slots) (hdg : decode cc pc = .ok (.newarray .int, 2))
    (kk : ∀ (q : Nat) (H1 : Heap), zg_W D cs A s (ws ++ [(q, .inl (cs 0, N, .inl (fun _ => 0)))]) H1 locs → W p l e R s m args below meth c H1 locs (cells + 1) (slots + N) Q (F0 m (pc + 2) ls (.ref q :: rest))) : W p l e R s m args below meth c H locs cells slots Q (F0 m pc ls (.int n :: rest)) :=
  zk_newaT (atype := .int) (ty := .int) C w rfl zk_ac.1 (t0 := 0) rfl (fun _ _ h => h) (fun _ => rfl) hn hN hby hcs hdg kk
theorem zk_newl (C : CallFix p m c cc nL s args (c0 :: zw_all) own) (w : zg_W D cs A s ws H locs) {n : Int32} {N : Nat} (hn : ¬ n < 0) (hN : n.toNatClampNeg = N) (hby : N * componentBytes .long ≤ 536870912) (hcs : cells + 1 ≤ R.cells ∧ slots + N ≤ R.slots) (hdg : decode cc pc = .ok (.newarray .long, 2))
    (kk : ∀ (q : Nat) (H1 : Heap), zg_W D cs A s (ws ++ [(q, .inl (cs 1, N, .inr (.inl (fun _ => 0))))]) H1 locs → W p l e R s m args below meth c H1 locs (cells + 1) (slots + N) Q (F0 m (pc + 2) ls (.ref q :: rest))) : W p l e R s m args below meth c H locs cells slots Q (F0 m pc ls (.int n :: rest)) :=
  zk_newaT (atype := .long) (ty := .long) C w rfl zk_ac.2.1 (t0 := 1) rfl (fun _ _ h => h) (fun _ => rfl) hn hN hby hcs hdg kk
theorem zk_newz (C : CallFix p m c cc nL s args (c0 :: zw_all) own) (w : zg_W D cs A s ws H locs) {n : Int32} {N : Nat} (hn : ¬ n < 0) (hN : n.toNatClampNeg = N) (hby : N * componentBytes .boolean ≤ 536870912) (hcs : cells + 1 ≤ R.cells ∧ slots + N ≤ R.slots) (hdg : decode cc pc = .ok (.newarray .boolean, 2))
    (kk : ∀ (q : Nat) (H1 : Heap), zg_W D cs A s (ws ++ [(q, .inl (cs 2, N, .inl (fun _ => 0)))]) H1 locs → W p l e R s m args below meth c H1 locs (cells + 1) (slots + N) Q (F0 m (pc + 2) ls (.ref q :: rest))) : W p l e R s m args below meth c H locs cells slots Q (F0 m pc ls (.int n :: rest)) :=
  zk_newaT (atype := .boolean) (ty := .boolean) C w rfl zk_ac.2.2.1 (t0 := 2) rfl (fun _ _ h => h) (fun _ => rfl) hn hN hby hcs hdg kk
theorem zk_newb (C : CallFix p m c cc nL s args (c0 :: zw_all) own) (w : zg_W D cs A s ws H locs) {n : Int32} {N : Nat} (hn : ¬ n < 0) (hN : n.toNatClampNeg = N) (hby : N * componentBytes .byte ≤ 536870912) (hcs : cells + 1 ≤ R.cells ∧ slots + N ≤ R.slots) (hdg : decode cc pc = .ok (.newarray .byte, 2))
    (kk : ∀ (q : Nat) (H1 : Heap), zg_W D cs A s (ws ++ [(q, .inl (cs 3, N, .inl (fun _ => 0)))]) H1 locs → W p l e R s m args below meth c H1 locs (cells + 1) (slots + N) Q (F0 m (pc + 2) ls (.ref q :: rest))) : W p l e R s m args below meth c H locs cells slots Q (F0 m pc ls (.int n :: rest)) :=
  zk_newaT (atype := .byte) (ty := .byte) C w rfl zk_ac.2.2.2 (t0 := 3) rfl (fun _ _ h => h) (fun _ => rfl) hn hN hby hcs hdg kk
theorem zk_putF (C : CallFix p m c cc nL s args (c0 :: zw_all) own) (w : zg_W D cs A s ws H locs) (he : ws[q0]? = some (a, .inr (ci, fs))) (hc : vwCl[ci]? = some (Cn, T, N)) (hin : ∀ w ∈ u_ws Cn T N, w ∈ zw_all) (ty0 : Nat → FieldType) (hty : ∀ k, k < N → parseFieldDescriptor (T k).2.2.1 = some (ty0 k)) (hnm : ∀ a, a < N → ∀ b, b < N → a ≠ b → (T a).2.1 ≠ (T b).2.1) (hk : k < N) (hl : Cond.fieldLink own index Cn (T k).2.1 (T k).2.2.1 ∈ zw_all) (hd : (T k).1 = Cn) (hfin : (T k).2.2.2 = true) (hini : meth.name = "<init>") (hdo : (T k).1 = own) {ty : FieldType} {v : Value} (hpd : parseFieldDescriptor (T k).2.2.1 = some ty) (hn : narrow ty v = v) (hfit : fits ty v = true) (hlen : k < fs.length) (hset : ws.set q0 (a, .inr (ci, fs.set k v)) = ws') (hdg : decode cc pc = .ok (.putfield index, 3))
    (kk : ∀ (H1 : Heap) (locs1 : List Loc), zg_W D cs A s ws' H1 locs1 → W p l e R s m args below meth c H1 locs1 cells slots Q (F0 m (pc + 3) ls rest)) : W p l e R s m args below meth c H locs cells slots Q (F0 m pc ls (v :: .ref a :: rest)) := by
  refine va_putF C.1 C.2.1 C.2.2.2.2 (fun w h => zw_in (hin w h)) ty0 hty hnm C.2.2.2.1 w.2.2.2.1 w.1 w.2.1 w.2.2.1 q0 he hc k hk (C.2.2.2.2 _ (zw_in hl)) (fun x h => by rw [hd] at h; exact h) hfin hini hdo hpd hn hfit hlen hdg fun H1 locs1 hP hD hS => ?_
  rw [hset] at hP hD
  exact kk H1 locs1 ⟨hP, hD, hS, w.2.2.2⟩
theorem zk_new (C : CallFix p m c cc nL s args (c0 :: zw_all) own) (w : zg_W D cs A s ws H locs) (hc : vwCl[ci]? = some (Cn, T, N)) (hin : ∀ w ∈ u_ws Cn T N, w ∈ zw_all) (ty0 : Nat → FieldType) (hty : ∀ k, k < N → parseFieldDescriptor (T k).2.2.1 = some (ty0 k)) (hcl : Cond.classLink own index Cn ∈ zw_all) (hinst : Cond.instantiable Cn N ∈ zw_all) (hini : Cond.initialized Cn ∈ zw_all) (hfs : ∀ j, j < N → defaultValue (ty0 j) = vp_V fs j) (hcs : cells + 1 ≤ R.cells ∧ slots + N ≤ R.slots) (hdg : decode cc pc = .ok (.new index, 3))
    (kk : ∀ (q : Nat) (H1 : Heap), zg_W D cs A s (ws ++ [(q, .inr (ci, fs))]) H1 locs → W p l e R s m args below meth c H1 locs (cells + 1) (slots + N) Q (F0 m (pc + 3) ls (.ref q :: rest))) : W p l e R s m args below meth c H locs cells slots Q (F0 m pc ls rest) := by
  refine va_new C.1 C.2.1 C.2.2.2.2 (fun w h => zw_in (hin w h)) ty0 hty C.2.2.2.1 (C.2.2.2.2 _ (zw_in hcl)) (C.2.2.2.2 _ (zw_in hinst)) (C.2.2.2.2 _ (zw_in hini)) w.2.2.2.1 w.1 w.2.1 w.2.2.1 w.2.2.2.2.2 hc hfs hcs.1 hcs.2 hdg fun q H1 hP hD hS => ?_
  exact kk q H1 ⟨hP, hD, hS, w.2.2.2⟩
theorem zk_range {ws : va_W} {x : Nat × va_E} : (List.range ws.length).map (fun i => (ws ++ [x])[i]?) = ws.map some := by
  apply List.ext_getElem?
  intro i
  by_cases h : i < ws.length
  · simp [h]
    rw [List.getElem?_append_left h, List.getElem?_eq_getElem h]
  · simp [h]
theorem zk_nd : ∀ n, va_nd (List.range n) = true := by
  have key : ∀ (l : List Nat), l.Nodup → va_nd l = true := by
    intro l
    induction l with
    | nil => intro _; rfl
    | cons a l ih => intro h; rw [List.nodup_cons] at h; simp [va_nd, h.1, ih h.2]
  exact fun n => key _ List.nodup_range
/-- a constructor is called on the newest cell -/
theorem zk_back (w : zg_W D cs A s (ws ++ [(a, .inr (ci, fs))]) H locs) {Wt : (Nat → Nat) → va_W} {y : MethodName} {mc ms : Nat} {av : Array Value} {stk : List Value} (hr : va_Run p l e R s m args below meth c H locs cells slots mc ms (F0 m pc ls stk) rest (va_Qv (fun q : Nat → Nat => q 0 = a) (zk_Post D Wt (va_A [(a, .inr (ci, fs))] H.size)) (va_A [(a, .inr (ci, fs))] H.size) av) (va_A [(a, .inr (ci, fs))] H.size))
    (kk : ∀ (q : Nat → Nat) (H1 : Heap) (locs1 : List Loc), q 0 = a → zg_W D cs A s (ws ++ Wt q) H1 locs1 → W p l e R s m args below meth c H1 locs1 (cells + mc) (slots + ms) Q (F0 m (pc + 3) ls rest)) : W p l e R s m args below meth c H locs cells slots Q (F0 m pc ls stk) := by
  obtain ⟨hP, hD, hS, hK, hN, hA⟩ := w
  have hC : [ws.length].map (fun i => (ws ++ [(a, Sum.inr (ci, fs))])[i]?) = [((a, Sum.inr (ci, fs)) : Nat × va_E)].map some := by simp
  have hFc := va_free hD hS hA [ws.length] hC
  refine va_callv hr hS (fun q _ h => hFc q h) hFc fun q t H1 locs1 ht _ hq hB _ hk1 hS1 => ?_
  obtain ⟨hP1, hD1⟩ := hB
  rw [ht] at hP1
  obtain ⟨hP2, hD2⟩ := va_join hP hD [ws.length] (List.range ws.length) hC zk_range (zk_nd _) (fun i hi h => by simp at hi h; omega) hk1 hFc hP1 hD1
  exact kk q H1 locs1 hq ⟨hP2, hD2, hS1, hK, hN, hA⟩
theorem zk_pre (w : zg_W D cs A s (ws ++ [(a, .inr (ci, fs))]) H locs) : FrameBlind (va_Pc [.ref a] (zk_Pre D cs [(a, .inr (ci, fs))] H.size)) ∧ ∀ U : State, U.heap = H → s.WarmedH U.vm → va_Pc [.ref a] (zk_Pre D cs [(a, .inr (ci, fs))] H.size) ([.ref a] : List Value).toArray U := by
  obtain ⟨hP, hD, hS, hK, hN, hA⟩ := w
  have hP0 : va_P D vwCl [(a, .inr (ci, fs))] H := hP.sub [ws.length] (by simp)
  have hD0 : va_D A [(a, .inr (ci, fs))] := hD.sub [ws.length] (by rfl) (by simp)
  refine ⟨fun a' U g mk q => ?_, fun U hU hW => ⟨rfl, by rw [hU], by rw [hU]; exact hP0, va_K.moved hW.alike hK, hD0.weaken (fun _ _ _ _ => trivial), fun q hq => va_Nw.warmM hW (hN q hq)⟩⟩
  obtain ⟨q0, q1, qP, qK, qD, qN⟩ := q
  exact ⟨q0, q1, qP, va_K.moved (u := U) (U := U.calling g mk a') (Vm.Alike.refl U.vm) qK, qD, fun x hx => va_Nw.same rfl rfl (qN x hx)⟩
theorem zk_I (C : CallFix p m c cc nL s args (c0 :: zw_all) own) (w : zg_W D cs A s (ws ++ [(a, .inr (ci, fs))]) H locs) {Wt : (Nat → Nat) → va_W} {y : MethodName} {b : ByteArray} {mL n mc ms : Nat} (hM : zk_C l y b mL n mc ms D cs a ci fs Wt) (hf : zc_f y b mL none 0) (hi : Cond.instanceMethod y ∈ zw_all) (hl : Cond.methodLink own index y ∈ zw_all) (hnm : y.name = "<init>") (hR : n + 1 ≤ R.frames ∧ 8 + (mL + 11) + 40 * n ≤ R.locals) (hsz : ls.size = nL) (hro : (rest.map fun v => v.category).sum ≤ 8) (hdg : decode cc pc = .ok (.invokespecial index, 3)) (hcs : cells + mc ≤ R.cells ∧ slots + ms ≤ R.slots)
    (kk : ∀ (q : Nat → Nat) (H1 : Heap) (locs1 : List Loc), q 0 = a → zg_W D cs A s (ws ++ Wt q) H1 locs1 → W p l e R s m args below meth c H1 locs1 (cells + mc) (slots + ms) Q (F0 m (pc + 3) ls rest)) : W p l e R s m args below meth c H locs cells slots Q (F0 m pc ls (.ref a :: rest)) := by
  obtain ⟨h1, h2, h3, h4, h5⟩ := hf
  refine zk_back (y := y) w (va_runI C (hM H.size) ⟨callB_of 0 C.2.2.2.2 (zw_goodIn (fun _ h => zw_in h) h1) rfl rfl rfl (C.2.2.2.2 _ (zw_in h2)) (C.2.2.2.2 _ (zw_in hl)) ⟨h3, h4, h5⟩ hR, hnm, C.2.2.2.2 _ (zw_in hi)⟩ (zk_pre w) rfl rfl hsz rfl (lv_room hro) hdg hcs) kk
theorem zk_IN (C : CallFix p m c cc nL s args (c0 :: zw_all) own) (w : zg_W D cs A s (ws ++ [(a, .inr (ci, fs))]) H locs) {Wt : (Nat → Nat) → va_W} {y : MethodName} {b : ByteArray} {host : String} {mL n mc ms : Nat} (hM : zk_C l y b mL n mc ms D cs a ci fs Wt) (hf : zc_f y b mL none 0) (hi : Cond.instanceMethod y ∈ zw_all) (hl : (own, index, y, host) ∈ zn_all) (hnm : y.name = "<init>") (hR : n + 1 ≤ R.frames ∧ 8 + (mL + 11) + 40 * n ≤ R.locals) (hsz : ls.size = nL) (hro : (rest.map fun v => v.category).sum ≤ 8) (hdg : decode cc pc = .ok (.invokespecial index, 3)) (hcs : cells + mc ≤ R.cells ∧ slots + ms ≤ R.slots)
    (kk : ∀ (q : Nat → Nat) (H1 : Heap) (locs1 : List Loc), q 0 = a → zg_W D cs A s (ws ++ Wt q) H1 locs1 → W p l e R s m args below meth c H1 locs1 (cells + mc) (slots + ms) Q (F0 m (pc + 3) ls rest)) : W p l e R s m args below meth c H locs cells slots Q (F0 m pc ls (.ref a :: rest)) := by
  obtain ⟨h1, h2, h3, h4, h5⟩ := hf
  refine zk_back (y := y) w (va_runIN C (hM H.size) ⟨va_cnB 0 C.2.2.2.2 (zw_goodIn (fun _ h => zw_in h) h1) rfl rfl rfl (w.2.2.2.2.1 _ hl) (C.2.2.2.2 _ (zw_in h2)) ⟨h3, h4, h5⟩ hR, hnm, C.2.2.2.2 _ (zw_in hi)⟩ (zk_pre w) rfl rfl hsz rfl (lv_room hro) hdg hcs) kk
end ZK
