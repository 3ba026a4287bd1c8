/-! PART B: the two systems as functions. Getters and setters. -/
theorem zs_i_si (u : zs_T) (k : Nat) (v : Int32) (j : Nat) : zs_i (zs_si u k v) j = if j = k then v else zs_i u j := rfl
theorem zs_i_sl (u : zs_T) (k : Nat) (v : Int64) (j : Nat) : zs_i (zs_sl u k v) j = zs_i u j := rfl
theorem zs_i_sa (u : zs_T) (k : Nat) (f : Nat → Int32) (j : Nat) : zs_i (zs_sa u k f) j = zs_i u j := rfl
theorem zs_i_sb (u : zs_T) (k : Nat) (f : Nat → Int64) (j : Nat) : zs_i (zs_sb u k f) j = zs_i u j := rfl
theorem zs_l_si (u : zs_T) (k : Nat) (v : Int32) (j : Nat) : zs_l (zs_si u k v) j = zs_l u j := rfl
theorem zs_l_sl (u : zs_T) (k : Nat) (v : Int64) (j : Nat) : zs_l (zs_sl u k v) j = if j = k then v else zs_l u j := rfl
theorem zs_l_sa (u : zs_T) (k : Nat) (f : Nat → Int32) (j : Nat) : zs_l (zs_sa u k f) j = zs_l u j := rfl
theorem zs_l_sb (u : zs_T) (k : Nat) (f : Nat → Int64) (j : Nat) : zs_l (zs_sb u k f) j = zs_l u j := rfl
theorem zs_a_si (u : zs_T) (k : Nat) (v : Int32) (j : Nat) : zs_a (zs_si u k v) j = zs_a u j := rfl
theorem zs_a_sl (u : zs_T) (k : Nat) (v : Int64) (j : Nat) : zs_a (zs_sl u k v) j = zs_a u j := rfl
theorem zs_a_sa' (u : zs_T) (k : Nat) (f : Nat → Int32) (j : Nat) : zs_a (zs_sa u k f) j = if j = k then f else zs_a u j := rfl
theorem zs_a_sb (u : zs_T) (k : Nat) (f : Nat → Int64) (j : Nat) : zs_a (zs_sb u k f) j = zs_a u j := rfl
theorem zs_b_si (u : zs_T) (k : Nat) (v : Int32) (j : Nat) : zs_b (zs_si u k v) j = zs_b u j := rfl
theorem zs_b_sl (u : zs_T) (k : Nat) (v : Int64) (j : Nat) : zs_b (zs_sl u k v) j = zs_b u j := rfl
theorem zs_b_sa (u : zs_T) (k : Nat) (f : Nat → Int32) (j : Nat) : zs_b (zs_sa u k f) j = zs_b u j := rfl
theorem zs_b_sb (u : zs_T) (k : Nat) (f : Nat → Int64) (j : Nat) : zs_b (zs_sb u k f) j = if j = k then f else zs_b u j := rfl
-- numbers
theorem pz_lt {x y : Int32} : x < y ↔ x.toInt < y.toInt := Int32.lt_iff_toInt_lt
theorem pz_le {x y : Int32} : x ≤ y ↔ x.toInt ≤ y.toInt := Int32.le_iff_toInt_le
theorem pz_eq {x y : Int32} : x = y ↔ x.toInt = y.toInt := Int32.toInt_inj.symm
theorem pz_nI {n : Nat} (h : n < 2 ^ 31) : (nI n).toInt = n := nI_toInt h
theorem pz_rng (x : Int32) : -2147483648 ≤ x.toInt ∧ x.toInt < 2147483648 := by
  have h1 := Int32.le_toInt x
  have h2 := Int32.toInt_lt x
  omega
theorem pz_add {x y : Int32} (h1 : -2147483648 ≤ x.toInt + y.toInt) (h2 : x.toInt + y.toInt < 2147483648) : (x + y).toInt = x.toInt + y.toInt := by
  rw [Int32.toInt_add]; exact Int.bmod_eq_of_le (by omega) (by omega)
theorem pz_sub {x y : Int32} (h1 : -2147483648 ≤ x.toInt - y.toInt) (h2 : x.toInt - y.toInt < 2147483648) : (x - y).toInt = x.toInt - y.toInt := by
  rw [Int32.toInt_sub]; exact Int.bmod_eq_of_le (by omega) (by omega)
theorem pz_mul {x y : Int32} (h1 : -2147483648 ≤ x.toInt * y.toInt) (h2 : x.toInt * y.toInt < 2147483648) : (x * y).toInt = x.toInt * y.toInt := by
  rw [Int32.toInt_mul]; exact Int.bmod_eq_of_le (by omega) (by omega)
/-- a number that isn't negative -/
theorem pz_of {x : Int32} (h : 0 ≤ x.toInt) : ∃ n : Nat, n < 2 ^ 31 ∧ x = nI n := by
  have := pz_rng x
  exact ⟨x.toInt.toNat, by omega, pz_eq.mpr (by rw [pz_nI (by omega)]; omega)⟩
theorem pz_cl {n : Nat} (h : n < 2 ^ 31) : (nI n).toNatClampNeg = n := nI_clamp h
theorem pz_in {n N : Nat} (h : n < N) (hN : N < 2 ^ 31) : zf_in (nI n) N = true := by
  simp only [zf_in, decide_eq_true_eq]; rw [pz_nI (by omega)]; omega
theorem pz_in_iff {x : Int32} {N : Nat} : zf_in x N = true ↔ 0 ≤ x.toInt ∧ x.toInt < N := by simp [zf_in]
theorem pz_upd (f : Nat → Int32) (k : Nat) (v : Int32) (j : Nat) : upd f k v j = if j = k then v else f j := rfl
theorem pz_updL (f : Nat → Int64) (k : Nat) (v : Int64) (j : Nat) : vp_updL f k v j = if j = k then v else f j := rfl
theorem pz_succ (n : Nat) : nI n + 1 = nI (n + 1) := (nI_succ n).symm
-- binds
theorem zf_bp_s {α ρ : Type} {a : α} {f : α → Option ρ} : zf_bp (some a) f = f a := rfl
theorem zf_bv_s {ρ : Type} {a : zs_T} {f : zs_T → Option ρ} : zf_bv (some a) f = f a := rfl
theorem zf_bi_s {ρ : Type} {r : Int32} {a : zs_T} {f : Int32 → zs_T → Option ρ} : zf_bi (some (r, a)) f = f r a := rfl
theorem zf_loop_s {σ ρ : Type} (body : (σ → Option ρ) → σ → Option ρ) (n : Nat) (s : σ) : zf_loop body (n + 1) s = body (zf_loop body n) s := rfl
-- agreement but for some places
def zg_ag (I L A B : List Nat) (u v : zs_T) : Prop := (∀ k, k ∉ I → zs_i v k = zs_i u k) ∧ (∀ k, k ∉ L → zs_l v k = zs_l u k) ∧ (∀ k, k ∉ A → zs_a v k = zs_a u k) ∧ (∀ k, k ∉ B → zs_b v k = zs_b u k)
theorem zg_ag.rf {I L A B : List Nat} {u : zs_T} : zg_ag I L A B u u := ⟨fun _ _ => rfl, fun _ _ => rfl, fun _ _ => rfl, fun _ _ => rfl⟩
theorem zg_ag.tr {I L A B : List Nat} {u v w : zs_T} (h1 : zg_ag I L A B u v) (h2 : zg_ag I L A B v w) : zg_ag I L A B u w := ⟨fun k h => (h2.1 k h).trans (h1.1 k h), fun k h => (h2.2.1 k h).trans (h1.2.1 k h), fun k h => (h2.2.2.1 k h).trans (h1.2.2.1 k h), fun k h => (h2.2.2.2 k h).trans (h1.2.2.2 k h)⟩
theorem zg_ag.mono {I L A B I' L' A' B' : List Nat} {u v : zs_T} (h : zg_ag I L A B u v) (hI : ∀ k ∈ I, k ∈ I') (hL : ∀ k ∈ L, k ∈ L') (hA : ∀ k ∈ A, k ∈ A') (hB : ∀ k ∈ B, k ∈ B') : zg_ag I' L' A' B' u v := ⟨fun k q => h.1 k (fun z => q (hI k z)), fun k q => h.2.1 k (fun z => q (hL k z)), fun k q => h.2.2.1 k (fun z => q (hA k z)), fun k q => h.2.2.2 k (fun z => q (hB k z))⟩
theorem zg_ag.si {I L A B : List Nat} {u v : zs_T} {k : Nat} {x : Int32} (h : zg_ag I L A B u v) (hk : k ∈ I) : zg_ag I L A B u (zs_si v k x) := ⟨fun j hj => by rw [zs_i_si, if_neg (show ¬ j = k from fun e => hj (by rw [e]; exact hk))]; exact h.1 j hj, h.2.1, h.2.2.1, h.2.2.2⟩
theorem zg_ag.sl {I L A B : List Nat} {u v : zs_T} {k : Nat} {x : Int64} (h : zg_ag I L A B u v) (hk : k ∈ L) : zg_ag I L A B u (zs_sl v k x) := ⟨h.1, fun j hj => by rw [zs_l_sl, if_neg (show ¬ j = k from fun e => hj (by rw [e]; exact hk))]; exact h.2.1 j hj, h.2.2.1, h.2.2.2⟩
theorem zg_ag.sa {I L A B : List Nat} {u v : zs_T} {k : Nat} {x : Nat → Int32} (h : zg_ag I L A B u v) (hk : k ∈ A) : zg_ag I L A B u (zs_sa v k x) := ⟨h.1, h.2.1, fun j hj => by rw [zs_a_sa', if_neg (show ¬ j = k from fun e => hj (by rw [e]; exact hk))]; exact h.2.2.1 j hj, h.2.2.2⟩
theorem zg_ag.sb {I L A B : List Nat} {u v : zs_T} {k : Nat} {x : Nat → Int64} (h : zg_ag I L A B u v) (hk : k ∈ B) : zg_ag I L A B u (zs_sb v k x) := ⟨h.1, h.2.1, h.2.2.1, fun j hj => by rw [zs_b_sb, if_neg (show ¬ j = k from fun e => hj (by rw [e]; exact hk))]; exact h.2.2.2 j hj⟩
/-! what becomes of a sheep: up, dead, who has it -/
abbrev pz_S : Type := Int32 × Int32 × Int32
def pz_fit (W T : Nat → Int32) (s : pz_S) (e : Nat) : Bool := if W e = 0 then decide (s.1 = 0 ∧ s.2.1 = 0) else if W e = 1 ∨ W e = 2 then decide (¬ s.1 = 0) else decide (s.2.1 = 0 ∧ ¬ T e = s.2.2)
def pz_do (W T : Nat → Int32) (s : pz_S) (e : Nat) : pz_S := if W e = 3 then (s.1, s.2.1, T e) else (if W e = 0 then 1 else 0, if W e = 2 then 1 else s.2.1, s.2.2)
def pz_run (W T : Nat → Int32) (s : pz_S) (l : List Nat) : pz_S := l.foldl (pz_do W T) s
def pz_ok (W T : Nat → Int32) : pz_S → List Nat → Bool
  | _, [] => true
  | s, e :: l => pz_fit W T s e && pz_ok W T (pz_do W T s e) l
/-- the entries of one day, of sheep s, of the first k -/
def pz_day (O D : Nat → Int32) (k s d : Nat) : List Nat := (List.range k).filter (fun e => O e == nI s && D e == nI d)
def pz_evs (O D : Nat → Int32) (k s d : Nat) : List Nat := (List.range' 1 d).flatMap (pz_day O D k s)
/-- the entries by days -/
def pz_can (D : Nat → Int32) (n d : Nat) : List Nat := (List.range' 1 d).flatMap (fun d' => (List.range n).filter (fun e => D e == nI d'))
/-! THE RELATION -/
def rb_T (c : Nat) (x m : zs_T) : Prop := zs_i x 2 = nI c ∧ zs_i m 0 = nI c ∧ c ≤ 40 ∧ ∀ j, j < 40 → zs_a x 0 j = zs_a m 0 j &&& 255 ∧ (zs_a m 0 j).toInt8.toInt32 = zs_a m 0 j
def rb_R (x m : zs_T) : Prop := (zs_a x 1 0 = zs_i m 2 ∧ zs_a x 1 1 = zs_i m 3 ∧ zs_a x 1 2 = zs_i m 4 ∧ zs_a x 1 3 = zs_i m 5) ∧ ∀ j, 2 ≤ j → j < 6 → 0 ≤ (zs_i m j).toInt ∧ (zs_i m j).toInt ≤ 9999
def rb_A (k h d : Nat) (x m : zs_T) : Prop := (zs_i x 3 = nI h ∧ zs_i m 6 = nI h ∧ 1 ≤ h ∧ h ≤ 6) ∧ (zs_i x 5 = zs_i m 7 ∧ -1 ≤ (zs_i m 7).toInt ∧ (zs_i m 7).toInt < h) ∧ (zs_i x 4 = zs_i m 8 ∧ 0 ≤ (zs_i m 8).toInt ∧ (zs_i m 8).toInt ≤ 300 * k) ∧ (zs_i x 0 = zs_i m 9 ∧ 1 ≤ (zs_i m 9).toInt ∧ (zs_i m 9).toInt ≤ 1 + k) ∧ (zs_i x 1 = nI d ∧ zs_i m 10 = nI d ∧ d ≤ 150) ∧ zs_i x 6 = zs_i m 11 ∧ zs_l x 0 = zs_l m 0 ∧
  (∀ j, j < 6 → zs_a x 3 j = zs_a m 2 j ∧ 0 ≤ (zs_a m 2 j).toInt ∧ (zs_a m 2 j).toInt ≤ 60000) ∧ (∀ j, j < h → zs_a x 4 j = zs_a m 3 j ∧ 1 ≤ (zs_a m 3 j).toInt ∧ (zs_a m 3 j).toInt ≤ 60000) ∧ (∀ j, j < 6 → zs_a x 5 j = zs_a m 4 j ∧ 0 ≤ (zs_a m 4 j).toInt ∧ (zs_a m 4 j).toInt ≤ 100)
def rb_P (w : Nat) (x m : zs_T) : Prop := zs_i x 7 = nI w ∧ zs_i m 12 = nI w ∧ w ≤ 8 ∧ ∀ j, j < w → zs_a x 6 j = zs_a m 7 j
/-- one sheep of those that are there -/
def rb_E1 (x m : zs_T) (s : Nat) : Prop := (zs_a x 11 s = zs_a m 8 s ∧ 0 ≤ (zs_a m 8 s).toInt ∧ (zs_a m 8 s).toInt < 12) ∧ (zs_a x 12 s = zs_a m 10 s ∧ zf_z (zs_a m 10 s) = true) ∧ (zs_a x 19 s = zs_a m 9 s ∧ 0 ≤ (zs_a m 9 s).toInt ∧ (zs_a m 9 s).toInt ≤ 5000)
/-- one entry -/
def rb_E2 (S : Nat) (x m : zs_T) (e : Nat) : Prop := (zs_a x 13 e = zs_a m 11 e ∧ 0 ≤ (zs_a m 11 e).toInt ∧ (zs_a m 11 e).toInt < 4) ∧ (zs_a x 14 e = zs_a m 12 e ∧ 0 ≤ (zs_a m 12 e).toInt ∧ (zs_a m 12 e).toInt < S) ∧ (zs_a x 15 e = zs_a m 13 e ∧ 1 ≤ (zs_a m 13 e).toInt ∧ (zs_a m 13 e).toInt ≤ 150) ∧ (zs_a x 16 e = zs_a m 14 e ∧ (zs_a m 11 e = 3 → 0 ≤ (zs_a m 14 e).toInt ∧ (zs_a m 14 e).toInt < 12))
def rb_st (m : zs_T) (s : Nat) : pz_S := (0, zs_a m 10 s, zs_a m 8 s)
def rb_E (S n : Nat) (x m : zs_T) : Prop := (zs_i x 12 = nI S ∧ zs_i m 15 = nI S ∧ S ≤ 80) ∧ (zs_i x 13 = nI n ∧ zs_i m 16 = nI n ∧ n ≤ 100) ∧ (zs_i x 19 = zs_i m 17 ∧ (zs_i m 17 = -1 ∨ 1 ≤ (zs_i m 17).toInt ∧ (zs_i m 17).toInt ≤ 150)) ∧ (∀ s, s < S → rb_E1 x m s) ∧ (∀ s, S ≤ s → s < 80 → zs_a x 12 s = 0 ∧ zs_a x 19 s = 0) ∧ (∀ e, e < n → rb_E2 S x m e) ∧
  (∀ i e, (pz_can (zs_a m 13) n 150)[i]? = some e → zs_a x 17 i = nI e) ∧ ∀ k, k ≤ n → ∀ s, s < S → pz_ok (zs_a m 11) (zs_a m 14) (rb_st m s) (pz_evs (zs_a m 12) (zs_a m 13) k s 150) = true
def rb_L (k : Nat) (x m : zs_T) : Prop := (∀ o, o < 12 → zs_a x 22 o = zs_a m 17 o) ∧ (∃ t : List Nat, t.Perm (List.range 12) ∧ ∀ i o, t[i]? = some o → zs_a m 17 i = nI o) ∧ (∀ o, o < 12 → zs_b x 0 o = (zs_a m 18 o).toInt64 ∧ 0 ≤ (zs_a m 18 o).toInt ∧ (zs_a m 18 o).toInt ≤ 1000 * k) ∧ (∀ o, o < 12 → zs_a x 21 o = zs_a m 19 o ∧ zs_b x 1 o = zs_b m 0 o ∧ zs_b x 2 o = zs_b m 1 o) ∧ zs_l x 1 = zs_l m 1
def rb_I (k : Nat) (x m : zs_T) : Prop := ∃ c h d w S n : Nat, rb_T c x m ∧ rb_R x m ∧ rb_A k h d x m ∧ rb_P w x m ∧ rb_E S n x m ∧ rb_L k x m
theorem rb_mono (k : Nat) (x m : zs_T) (h : rb_I k x m) : rb_I (k + 1) x m := by
  obtain ⟨c, hh, d, w, S, n, h1, h2, h3, h4, h5, h6⟩ := h
  refine ⟨c, hh, d, w, S, n, h1, h2, ?_, h4, h5, ?_⟩
  · obtain ⟨a1, a2, a3, a4, a5⟩ := h3
    exact ⟨a1, a2, ⟨a3.1, a3.2.1, by omega⟩, ⟨a4.1, a4.2.1, by omega⟩, a5⟩
  · obtain ⟨a1, a2, a3, a4⟩ := h6
    exact ⟨a1, a2, fun o ho => ⟨(a3 o ho).1, (a3 o ho).2.1, by have := (a3 o ho).2.2; omega⟩, a4⟩
