section ZR
variable {p : Program} {l : Launch} {e : Env} {R : Room} {s : State} {m : MethodId} {args : Array Value} {below : List Frame} {meth : Method} {c : Code} {H : Heap} {locs : List Loc} {cells slots : Nat} {Q : State → Prop}
variable {cc : ByteArray} {nL pc index : Nat} {ls : Array Slot} {rest : List Value} {c0 : Cond} {own : String}
variable {D : va_G} {cs : Nat → ClassId} {A : Nat → Prop} {ws ws' : va_W} {a q0 ci N k : Nat} {fs : List Value} {Cn : String} {T : u_T}
theorem zr_get (C : CallFix p m c cc nL s args (c0 :: zw_all) own) (w : zg_W D cs A s ws H locs) (he : ws[q0]? = some (a, .inr (ci, fs))) (hc : vwCl[ci]? = some (Cn, T, N)) (hin : ∀ w ∈ u_ws Cn T N, w ∈ zw_all) (hk : k < N) (hl : Cond.fieldLink own index Cn (T k).2.1 (T k).2.2.1 ∈ zw_all) (hd : (T k).1 = Cn) {v : Value} (hv : fs[k]? = some v) (hdg : decode cc pc = .ok (.getfield index, 3))
    (kk : W p l e R s m args below meth c H locs cells slots Q (F0 m (pc + 3) ls (v :: rest))) : W p l e R s m args below meth c H locs cells slots Q (F0 m pc ls (.ref a :: rest)) :=
  va_get C.1 C.2.1 C.2.2.2.2 (fun w h => zw_in (hin w h)) C.2.2.2.1 w.2.2.2.1 w.1 q0 he hc k hk (C.2.2.2.2 _ (zw_in hl)) (fun x h => by rw [hd] at h; exact h) hv hdg kk
theorem zr_put (C : CallFix p m c cc nL s args (c0 :: zw_all) own) (w : zg_W D cs A s ws H locs) (he : ws[q0]? = some (a, .inr (ci, fs))) (hc : vwCl[ci]? = some (Cn, T, N)) (hin : ∀ w ∈ u_ws Cn T N, w ∈ zw_all) (ty0 : Nat → FieldType) (hty : ∀ k, k < N → parseFieldDescriptor (T k).2.2.1 = some (ty0 k)) (hnm : ∀ a, a < N → ∀ b, b < N → a ≠ b → (T a).2.1 ≠ (T b).2.1) (hk : k < N) (hl : Cond.fieldLink own index Cn (T k).2.1 (T k).2.2.1 ∈ zw_all) (hd : (T k).1 = Cn) (hfin : (T k).2.2.2 = false) {ty : FieldType} {v : Value} (hpd : parseFieldDescriptor (T k).2.2.1 = some ty) (hn : narrow ty v = v) (hfit : fits ty v = true) (hlen : k < fs.length) (hset : ws.set q0 (a, .inr (ci, fs.set k v)) = ws') (hdg : decode cc pc = .ok (.putfield index, 3))
    (kk : ∀ (H1 : Heap) (locs1 : List Loc), zg_W D cs A s ws' H1 locs1 → W p l e R s m args below meth c H1 locs1 cells slots Q (F0 m (pc + 3) ls rest)) : W p l e R s m args below meth c H locs cells slots Q (F0 m pc ls (v :: .ref a :: rest)) := by
  refine va_put C.1 C.2.1 C.2.2.2.2 (fun w h => zw_in (hin w h)) ty0 hty hnm C.2.2.2.1 w.2.2.2.1 w.1 w.2.1 w.2.2.1 q0 he hc k hk (C.2.2.2.2 _ (zw_in hl)) (fun x h => by rw [hd] at h; exact h) hfin hpd hn hfit hlen hdg fun H1 locs1 hP hD hS => ?_
  rw [hset] at hP hD
  exact kk H1 locs1 ⟨hP, hD, hS, w.2.2.2⟩
theorem zr_iald (C : CallFix p m c cc nL s args (c0 :: zw_all) own) (w : zg_W D cs A s ws H locs) {n : Nat} {f : Nat → Int32} (he : ws[q0]? = some (a, .inl (cs 0, n, .inl f))) {i : Int32} (hi : zf_in i n = true) (hdg : decode cc pc = .ok (.iaload, 1))
    (kk : W p l e R s m args below meth c H locs cells slots Q (F0 m (pc + 1) ls (.int (f i.toNatClampNeg) :: rest))) : W p l e R s m args below meth c H locs cells slots Q (F0 m pc ls (.int i :: .ref a :: rest)) := va_iald C.1 C.2.1 w.2.2.2.1 w.1 q0 0 he rfl (zf_vin hi) hdg kk
theorem zr_bald (C : CallFix p m c cc nL s args (c0 :: zw_all) own) (w : zg_W D cs A s ws H locs) {n : Nat} {f : Nat → Int32} (he : ws[q0]? = some (a, .inl (cs 3, n, .inl f))) {i : Int32} (hi : zf_in i n = true) (hdg : decode cc pc = .ok (.baload, 1))
    (kk : W p l e R s m args below meth c H locs cells slots Q (F0 m (pc + 1) ls (.int (f i.toNatClampNeg) :: rest))) : W p l e R s m args below meth c H locs cells slots Q (F0 m pc ls (.int i :: .ref a :: rest)) := va_bald C.1 C.2.1 w.2.2.2.1 w.1 q0 3 he rfl (zf_vin hi) hdg kk
theorem zr_zald (C : CallFix p m c cc nL s args (c0 :: zw_all) own) (w : zg_W D cs A s ws H locs) {n : Nat} {f : Nat → Int32} (he : ws[q0]? = some (a, .inl (cs 2, n, .inl f))) {i : Int32} (hi : zf_in i n = true) (hdg : decode cc pc = .ok (.baload, 1))
    (kk : W p l e R s m args below meth c H locs cells slots Q (F0 m (pc + 1) ls (.int (f i.toNatClampNeg) :: rest))) : W p l e R s m args below meth c H locs cells slots Q (F0 m pc ls (.int i :: .ref a :: rest)) := va_zald C.1 C.2.1 w.2.2.2.1 w.1 q0 2 he rfl (zf_vin hi) hdg kk
theorem zr_lald (C : CallFix p m c cc nL s args (c0 :: zw_all) own) (w : zg_W D cs A s ws H locs) {n : Nat} {f : Nat → Int64} (he : ws[q0]? = some (a, .inl (cs 1, n, .inr (.inl f)))) {i : Int32} (hi : zf_in i n = true) (hdg : decode cc pc = .ok (.laload, 1))
    (kk : W p l e R s m args below meth c H locs cells slots Q (F0 m (pc + 1) ls (.long (f i.toNatClampNeg) :: rest))) : W p l e R s m args below meth c H locs cells slots Q (F0 m pc ls (.int i :: .ref a :: rest)) := va_lald C.1 C.2.1 w.2.2.2.1 w.1 q0 1 he rfl (zf_vin hi) hdg kk
theorem zr_iast (C : CallFix p m c cc nL s args (c0 :: zw_all) own) (w : zg_W D cs A s ws H locs) {n : Nat} {f : Nat → Int32} (he : ws[q0]? = some (a, .inl (cs 0, n, .inl f))) {i x : Int32} (hi : zf_in i n = true) (hset : ws.set q0 (a, .inl (cs 0, n, .inl (upd f i.toNatClampNeg x))) = ws') (hdg : decode cc pc = .ok (.iastore, 1))
    (kk : ∀ (H1 : Heap) (locs1 : List Loc), zg_W D cs A s ws' H1 locs1 → W p l e R s m args below meth c H1 locs1 cells slots Q (F0 m (pc + 1) ls rest)) : W p l e R s m args below meth c H locs cells slots Q (F0 m pc ls (.int x :: .int i :: .ref a :: rest)) := by
  refine va_iast C.1 C.2.1 w.2.2.2.1 w.1 w.2.1 w.2.2.1 q0 0 he rfl (zf_vin hi) hdg fun H1 locs1 hP hD hS => ?_
  first | rw [hset] at hP hD | (simp only [vp_nar, vp_nar_int] at hP hD; rw [hset] at hP hD)
  exact kk H1 locs1 ⟨hP, hD, hS, w.2.2.2⟩
theorem zr_bast (C : CallFix p m c cc nL s args (c0 :: zw_all) own) (w : zg_W D cs A s ws H locs) {n : Nat} {f : Nat → Int32} (he : ws[q0]? = some (a, .inl (cs 3, n, .inl f))) {i x : Int32} (hi : zf_in i n = true) (hset : ws.set q0 (a, .inl (cs 3, n, .inl (upd f i.toNatClampNeg (vp_nar .byte x)))) = ws') (hdg : decode cc pc = .ok (.bastore, 1))
    (kk : ∀ (H1 : Heap) (locs1 : List Loc), zg_W D cs A s ws' H1 locs1 → W p l e R s m args below meth c H1 locs1 cells slots Q (F0 m (pc + 1) ls rest)) : W p l e R s m args below meth c H locs cells slots Q (F0 m pc ls (.int x :: .int i :: .ref a :: rest)) := by
  refine va_bast C.1 C.2.1 w.2.2.2.1 w.1 w.2.1 w.2.2.1 q0 3 he rfl (zf_vin hi) hdg fun H1 locs1 hP hD hS => ?_
  rw [hset] at hP hD
  exact kk H1 locs1 ⟨hP, hD, hS, w.2.2.2⟩
theorem zr_zast (C : CallFix p m c cc nL s args (c0 :: zw_all) own) (w : zg_W D cs A s ws H locs) {n : Nat} {f : Nat → Int32} (he : ws[q0]? = some (a, .inl (cs 2, n, .inl f))) {i x : Int32} (hi : zf_in i n = true) (hz : zf_z x = true) (hset : ws.set q0 (a, .inl (cs 2, n, .inl (upd f i.toNatClampNeg x))) = ws') (hdg : decode cc pc = .ok (.bastore, 1))
    (kk : ∀ (H1 : Heap) (locs1 : List Loc), zg_W D cs A s ws' H1 locs1 → W p l e R s m args below meth c H1 locs1 cells slots Q (F0 m (pc + 1) ls rest)) : W p l e R s m args below meth c H locs cells slots Q (F0 m pc ls (.int x :: .int i :: .ref a :: rest)) := by
  refine va_zast C.1 C.2.1 w.2.2.2.1 w.1 w.2.1 w.2.2.1 q0 2 he rfl (zf_vin hi) hdg fun H1 locs1 hP hD hS => ?_
  rw [zf_z_vp hz, hset] at hP hD
  exact kk H1 locs1 ⟨hP, hD, hS, w.2.2.2⟩
theorem zr_last (C : CallFix p m c cc nL s args (c0 :: zw_all) own) (w : zg_W D cs A s ws H locs) {n : Nat} {f : Nat → Int64} (he : ws[q0]? = some (a, .inl (cs 1, n, .inr (.inl f)))) {i : Int32} {x : Int64} (hi : zf_in i n = true) (hset : ws.set q0 (a, .inl (cs 1, n, .inr (.inl (vp_updL f i.toNatClampNeg x)))) = ws') (hdg : decode cc pc = .ok (.lastore, 1))
    (kk : ∀ (H1 : Heap) (locs1 : List Loc), zg_W D cs A s ws' H1 locs1 → W p l e R s m args below meth c H1 locs1 cells slots Q (F0 m (pc + 1) ls rest)) : W p l e R s m args below meth c H locs cells slots Q (F0 m pc ls (.long x :: .int i :: .ref a :: rest)) := by
  refine va_last C.1 C.2.1 w.2.2.2.1 w.1 w.2.1 w.2.2.1 q0 1 he rfl (zf_vin hi) hdg fun H1 locs1 hP hD hS => ?_
  rw [hset] at hP hD
  exact kk H1 locs1 ⟨hP, hD, hS, w.2.2.2⟩
theorem zr_alen (C : CallFix p m c cc nL s args (c0 :: zw_all) own) (w : zg_W D cs A s ws H locs) {n : Nat} {f : Nat → Int32} (he : ws[q0]? = some (a, .inl (cs 0, n, .inl f))) (hdg : decode cc pc = .ok (.arraylength, 1))
    (kk : W p l e R s m args below meth c H locs cells slots Q (F0 m (pc + 1) ls (.int (Int32.ofNat n) :: rest))) : W p l e R s m args below meth c H locs cells slots Q (F0 m pc ls (.ref a :: rest)) := va_alen C.1 C.2.1 w.2.2.2.1 w.1 q0 0 he (ty := .int) rfl rfl hdg kk
def zr_imax (x y : Int32) : Int32 := if x < y then y else x
def zr_imin (x y : Int32) : Int32 := if y < x then y else x
def zr_iabs (x : Int32) : Int32 := if 0 ≤ x then x else 0 - x
/-- Math's own methods are among the words -/
theorem zr_mw : (Cond.static Lib.Math.max.name ∈ zw_all ∧ Cond.static Lib.Math.min.name ∈ zw_all ∧ Cond.static Lib.Math.abs.name ∈ zw_all) ∧ Cond.initialized "java/lang/Math" ∈ zw_all ∧ Cond.code Lib.Math.max.name Lib.Math.max.code 2 (some .int) ∈ zw_all ∧ Cond.code Lib.Math.min.name Lib.Math.min.code 2 (some .int) ∈ zw_all ∧ Cond.code Lib.Math.abs.name Lib.Math.abs.code 1 (some .int) ∈ zw_all := by
  refine ⟨⟨?_, ?_, ?_⟩, ?_, ?_, ?_, ?_⟩ <;> decide +kernel
theorem zr_max (C : CallFix p m c cc nL s args (c0 :: zw_all) own) (hsz : ls.size = nL) (hl : Cond.methodLink own index Lib.Math.max.name ∈ zw_all) (hR : 1 ≤ R.frames ∧ (rest.map fun v => v.category).sum + 13 ≤ R.locals) (hcs : cells ≤ R.cells ∧ slots ≤ R.slots) {x y : Int32} (hdg : decode cc pc = .ok (.invokestatic index, 3))
    (kk : W p l e R s m args below meth c H locs cells slots Q (F0 m (pc + 3) ls (.int (zr_imax x y) :: rest))) : W p l e R s m args below meth c H locs cells slots Q (F0 m pc ls (.int y :: .int x :: rest)) :=
  va_mmax C.1 C.2.1 (C.2.2.1.trans hsz.symm) C.2.2.2.1 (C.2.2.2.2 _ (zw_in hl)) (C.2.2.2.2 _ (zw_in zr_mw.1.1)) (C.2.2.2.2 _ (zw_in zr_mw.2.1)) (C.2.2.2.2 _ (zw_in zr_mw.2.2.1)) hR.1 hR.2 hcs.1 hcs.2 hdg kk
theorem zr_min (C : CallFix p m c cc nL s args (c0 :: zw_all) own) (hsz : ls.size = nL) (hl : Cond.methodLink own index Lib.Math.min.name ∈ zw_all) (hR : 1 ≤ R.frames ∧ (rest.map fun v => v.category).sum + 13 ≤ R.locals) (hcs : cells ≤ R.cells ∧ slots ≤ R.slots) {x y : Int32} (hdg : decode cc pc = .ok (.invokestatic index, 3))
    (kk : W p l e R s m args below meth c H locs cells slots Q (F0 m (pc + 3) ls (.int (zr_imin x y) :: rest))) : W p l e R s m args below meth c H locs cells slots Q (F0 m pc ls (.int y :: .int x :: rest)) :=
  va_mmin C.1 C.2.1 (C.2.2.1.trans hsz.symm) C.2.2.2.1 (C.2.2.2.2 _ (zw_in hl)) (C.2.2.2.2 _ (zw_in zr_mw.1.2.1)) (C.2.2.2.2 _ (zw_in zr_mw.2.1)) (C.2.2.2.2 _ (zw_in zr_mw.2.2.2.1)) hR.1 hR.2 hcs.1 hcs.2 hdg kk
theorem zr_abs (C : CallFix p m c cc nL s args (c0 :: zw_all) own) (hsz : ls.size = nL) (hl : Cond.methodLink own index Lib.Math.abs.name ∈ zw_all) (hR : 1 ≤ R.frames ∧ (rest.map fun v => v.category).sum + 13 ≤ R.locals) (hcs : cells ≤ R.cells ∧ slots ≤ R.slots) {x : Int32} (hdg : decode cc pc = .ok (.invokestatic index, 3))
    (kk : W p l e R s m args below meth c H locs cells slots Q (F0 m (pc + 3) ls (.int (zr_iabs x) :: rest))) : W p l e R s m args below meth c H locs cells slots Q (F0 m pc ls (.int x :: rest)) :=
  va_mabs C.1 C.2.1 (C.2.2.1.trans hsz.symm) C.2.2.2.1 (C.2.2.2.2 _ (zw_in hl)) (C.2.2.2.2 _ (zw_in zr_mw.1.2.2)) (C.2.2.2.2 _ (zw_in zr_mw.2.1)) (C.2.2.2.2 _ (zw_in zr_mw.2.2.2.2)) hR.1 hR.2 hcs.1 hcs.2 hdg kk
/-- System.arraycopy of ints: a test of its three numbers -/
def zf_cp (sp dp n : Int32) (n0 n1 : Nat) : Bool := decide (0 ≤ sp.toInt ∧ 0 ≤ dp.toInt ∧ 0 ≤ n.toInt ∧ sp.toInt + n.toInt ≤ n0 ∧ dp.toInt + n.toInt ≤ n1)
theorem zr_cw : Cond.native arraycopyName ∈ zw_all ∧ Cond.static arraycopyName ∈ zw_all ∧ Cond.initialized "java/lang/System" ∈ zw_all := by
  refine ⟨?_, ?_, ?_⟩ <;> decide +kernel
theorem zf_nn {z : Int32} (h : 0 ≤ z.toInt) : ¬ z < 0 ∧ z.toInt = (z.toNatClampNeg : Int) := by
  refine ⟨fun q => ?_, ?_⟩
  · have := Int32.lt_iff_toInt_lt.mp q
    simp at this
    omega
  · simp only [Int32.toNatClampNeg]
    omega
theorem zr_copy (C : CallFix p m c cc nL s args (c0 :: zw_all) own) (w : zg_W D cs A s ws H locs) (hsz : ls.size = nL) {q1 a0 n0 n1 : Nat} {f g : Nat → Int32} (he0 : ws[q0]? = some (a0, .inl (cs 0, n0, .inl f))) (he1 : ws[q1]? = some (a, .inl (cs 0, n1, .inl g))) (hl : Cond.methodLink own index arraycopyName ∈ zw_all) {sp dp n : Int32} (hcp : zf_cp sp dp n n0 n1 = true) (hR : 1 ≤ R.frames ∧ (rest.map fun v => v.category).sum + (nativeFrameWords "java/lang/System" "arraycopy" 5 + 11) ≤ R.locals) (hset : ws.set q1 (a, .inl (cs 0, n1, .inl (va_cpy f g sp.toNatClampNeg dp.toNatClampNeg n.toNatClampNeg))) = ws') (hdg : decode cc pc = .ok (.invokestatic index, 3))
    (kk : ∀ (H1 : Heap) (locs1 : List Loc), zg_W D cs A s ws' H1 locs1 → W p l e R s m args below meth c H1 locs1 cells slots Q (F0 m (pc + 3) ls rest)) : W p l e R s m args below meth c H locs cells slots Q (F0 m pc ls (.int n :: .int dp :: .ref a :: .int sp :: .ref a0 :: rest)) := by
  obtain ⟨h1, h2, h3, h4, h5⟩ := of_decide_eq_true hcp
  have e1 := zf_nn h1
  have e2 := zf_nn h2
  have e3 := zf_nn h3
  refine va_copyi C.1 C.2.1 (C.2.2.1.trans hsz.symm) C.2.2.2.1 (C.2.2.2.2 _ (zw_in hl)) (C.2.2.2.2 _ (zw_in zr_cw.1)) (C.2.2.2.2 _ (zw_in zr_cw.2.1)) (C.2.2.2.2 _ (zw_in zr_cw.2.2)) w.2.2.2.1 w.1 w.2.1 w.2.2.1 q0 q1 0 0 he0 he1 rfl rfl rfl e1.1 e2.1 e3.1 (by omega) (by omega) (fun i hi => rfl) hR.1 hR.2 hdg fun H1 locs1 hP hD hS => ?_
  rw [hset] at hP hD
  exact kk H1 locs1 ⟨hP, hD, hS, w.2.2.2⟩
theorem zr_ldc (C : CallFix p m c cc nL s args (c0 :: zw_all) own) {v : Int32} (hl : Cond.constant own index v ∈ zw_all) (hdg : decode cc pc = .ok (.ldc index, 2)) (kk : W p l e R s m args below meth c H locs cells slots Q (F0 m (pc + 2) ls (.int v :: rest))) : W p l e R s m args below meth c H locs cells slots Q (F0 m pc ls rest) := lv_ldc C.1 C.2.1 C.2.2.2.1 (C.2.2.2.2 _ (zw_in hl)) hdg kk
theorem zr_ldcw (C : CallFix p m c cc nL s args (c0 :: zw_all) own) {v : Int32} (hl : Cond.constant own index v ∈ zw_all) (hdg : decode cc pc = .ok (.ldc_w index, 3)) (kk : W p l e R s m args below meth c H locs cells slots Q (F0 m (pc + 3) ls (.int v :: rest))) : W p l e R s m args below meth c H locs cells slots Q (F0 m pc ls rest) := lv_ldcw C.1 C.2.1 C.2.2.2.1 (C.2.2.2.2 _ (zw_in hl)) hdg kk
theorem zr_ldc2 (C : CallFix p m c cc nL s args (c0 :: zw_all) own) {v : Int64} (hl : Cond.constantLong own index v ∈ zw_all) (hdg : decode cc pc = .ok (.ldc2_w index, 3)) (kk : W p l e R s m args below meth c H locs cells slots Q (F0 m (pc + 3) ls (.long v :: rest))) : W p l e R s m args below meth c H locs cells slots Q (F0 m pc ls rest) := lv_ldc2 C.1 C.2.1 C.2.2.2.1 (C.2.2.2.2 _ (zw_in hl)) hdg kk
end ZR
