/-- Arrays.fill(int[], int) -/
def yA_fill : MethodName := ⟨"java/util/Arrays", "fill", "([II)V"⟩
abbrev cA_fill : ByteArray := prog_14_method_103_code
theorem dA_fill_0 : decode cA_fill 0 = .ok (.iconst 0, 1) := by decide +kernel
theorem dA_fill_1 : decode cA_fill 1 = .ok (.istore_n 2, 1) := by decide +kernel
theorem dA_fill_2 : decode cA_fill 2 = .ok (.aload_n 0, 1) := by decide +kernel
theorem dA_fill_3 : decode cA_fill 3 = .ok (.arraylength, 1) := by decide +kernel
theorem dA_fill_4 : decode cA_fill 4 = .ok (.istore_n 3, 1) := by decide +kernel
theorem dA_fill_5 : decode cA_fill 5 = .ok (.iload_n 2, 1) := by decide +kernel
theorem dA_fill_6 : decode cA_fill 6 = .ok (.iload_n 3, 1) := by decide +kernel
theorem dA_fill_7 : decode cA_fill 7 = .ok (.if_icmp .ge 13, 3) := by decide +kernel
theorem dA_fill_10 : decode cA_fill 10 = .ok (.aload_n 0, 1) := by decide +kernel
theorem dA_fill_11 : decode cA_fill 11 = .ok (.iload_n 2, 1) := by decide +kernel
theorem dA_fill_12 : decode cA_fill 12 = .ok (.iload_n 1, 1) := by decide +kernel
theorem dA_fill_13 : decode cA_fill 13 = .ok (.iastore, 1) := by decide +kernel
theorem dA_fill_14 : decode cA_fill 14 = .ok (.iinc 2 1, 3) := by decide +kernel
theorem dA_fill_17 : decode cA_fill 17 = .ok (.goto (-12), 3) := by decide +kernel
theorem dA_fill_20 : decode cA_fill 20 = .ok (.return_, 1) := by decide +kernel
def zf_fill (n : Nat) (v : Int32) (f : Nat → Int32) : Nat → Int32 := fun i => if i < n then v else f i
theorem zs_a_sa (u : zs_T) (k : Nat) (f : Nat → Int32) : zs_a (zs_sa u k f) k = f := by simp [zs_a, zs_sa, va_up]
theorem zs_sa_sa (u : zs_T) (k : Nat) (f g : Nat → Int32) : zs_sa (zs_sa u k f) k g = zs_sa u k g := by simp [zs_sa, bx_uu]
theorem zs_sa_self (u : zs_T) (k : Nat) : zs_sa u k (zs_a u k) = u := by
  have h : va_up u.2.2.1 k (u.2.2.1 k) = u.2.2.1 := by funext j; simp only [va_up]; split <;> simp_all
  simp [zs_sa, zs_a, h]
theorem zf_fill_0 (v : Int32) (f : Nat → Int32) : zf_fill 0 v f = f := by funext j; simp [zf_fill]
theorem zf_fill_s (i : Nat) (v : Int32) (f : Nat → Int32) : upd (zf_fill i v f) i v = zf_fill (i + 1) v f := by
  funext j
  simp only [upd, zf_fill]
  by_cases h : j = i
  · subst h; simp
  · rw [if_neg h]
    by_cases h2 : j < i
    · rw [if_pos h2, if_pos (by omega)]
    · rw [if_neg h2, if_neg (by omega)]
theorem cf_A_fill : zc_f yA_fill cA_fill 4 none 2 := ⟨by decide +kernel, by decide +kernel, by decide +kernel, by decide +kernel, by decide +kernel⟩
theorem ci_A_fill : Cond.static yA_fill ∈ zw_all := by decide +kernel
set_option maxHeartbeats 4000000 in
theorem kA_fill (l : Launch) (D : va_G) (cs : Nat → ClassId) (Wf : zs_T → va_W) (ha : zg_Ad Wf) (a j k n : Nat) (hn : n < 2 ^ 31) (hget : ∀ u, (Wf u)[j]? = some (a, .inl (cs 0, n, .inl (zs_a u k)))) (hset : ∀ u f, (Wf u).set j (a, .inl (cs 0, n, .inl f)) = Wf (zs_sa u k f)) (u : zs_T) (v : Int32) : zg_Cv l yA_fill cA_fill 4 none 0 D cs Wf u [.ref a, .int v] (zs_sa u k (zf_fill n v (zs_a u k))) := by
  refine zg_Cv_of (own := "java/util/Arrays") (by decide) rfl ha (Nat.le_of_ble_eq_true rfl) ?_
  intro p e s m args below meth c A Q C hret w ls hl
  obtain ⟨hx, hb, -⟩ := id C
  have hl : lv_has ls 4 [(0, .ref a), (1, .int v)] := hl
  have lp : ∀ (d i : Nat), n - i ≤ d → i ≤ n → ∀ (H : Heap) (locs : List Loc) (ls : Array Slot), zg_W D cs A s (Wf (zs_sa u k (zf_fill i v (zs_a u k)))) H locs → lv_has ls 4 [(0, .ref a), (1, .int v), (2, .int (nI i)), (3, .int (nI n))] → W p l e (zg_rm 0) s m args below meth c H locs 0 0 Q (F0 m 5 ls []) := by
    intro d
    induction d with
    | zero =>
      intro i h1 h2 H locs ls w hl
      have hi : i = n := by omega
      subst hi
      refine lv_iload_n hx hb dA_fill_5 rfl (lv_at hl 2 rfl) ?_
      refine lv_iload_n hx hb dA_fill_6 rfl (lv_at hl 3 rfl) ?_
      refine lv_icmp_ge (tgt := 20) hx hb dA_fill_7 (by decide) (fun h => ?_) (fun h => absurd (nI_le (Nat.le_refl _) hn) h)
      exact hret _ _ _ _ _ rfl w dA_fill_20
    | succ d ih =>
      intro i h1 h2 H locs ls w hl
      refine lv_iload_n hx hb dA_fill_5 rfl (lv_at hl 2 rfl) ?_
      refine lv_iload_n hx hb dA_fill_6 rfl (lv_at hl 3 rfl) ?_
      refine lv_icmp_ge (tgt := 20) hx hb dA_fill_7 (by decide) (fun h => ?_) (fun h => ?_)
      · have hi : i = n := by
          rcases Nat.lt_or_ge i n with q | q
          · exact absurd h (nI_ge q hn)
          · omega
        subst hi
        exact hret _ _ _ _ _ rfl w dA_fill_20
      · have hi : i < n := by
          rcases Nat.lt_or_ge i n with q | q
          · exact q
          · exact absurd (nI_le q (by omega)) h
        refine lv_aload_n hx hb dA_fill_10 rfl (lv_at hl 0 rfl) ?_
        refine lv_iload_n hx hb dA_fill_11 rfl (lv_at hl 2 rfl) ?_
        refine lv_iload_n hx hb dA_fill_12 rfl (lv_at hl 1 rfl) ?_
        refine zr_iast (q0 := j) C w (hget _) (by simp only [zf_in, decide_eq_true_eq]; exact vp_in_iff.mp (vp_in_nI hi hn)) (hset _ _) dA_fill_13 (fun H locs w => ?_)
        rw [nI_clamp (by omega), zs_a_sa, zf_fill_s, zs_sa_sa] at w
        refine lv_iinc (v := nI (i + 1)) (lv' := [(2, .int (nI (i + 1))), (0, .ref a), (1, .int v), (3, .int (nI n))]) hx hb dA_fill_14 hl (k := 2) rfl (nI_succ i).symm (by decide) rfl (fun ls hl => ?_)
        refine lv_goto (tgt := 5) hx hb dA_fill_17 (by decide) ?_
        exact ih (i + 1) (by omega) (by omega) H locs ls w (lv_sub hl [1, 2, 0, 3] rfl)
  refine lv_iconst (v := 0) hx hb dA_fill_0 (by decide) ?_
  refine lv_istore_n (lv' := [(2, .int 0), (0, .ref a), (1, .int v)]) hx hb dA_fill_1 rfl hl (by decide) rfl (fun ls hl => ?_)
  refine lv_aload_n hx hb dA_fill_2 rfl (lv_at hl 1 rfl) ?_
  refine zr_alen (q0 := j) C w (hget _) dA_fill_3 ?_
  refine lv_istore_n (lv' := [(3, .int (nI n)), (2, .int (nI 0)), (0, .ref a), (1, .int v)]) hx hb dA_fill_4 rfl hl (by decide) rfl (fun ls hl => ?_)
  refine lp n 0 (by omega) (by omega) _ _ ls ?_ (lv_sub hl [2, 3, 1, 0] rfl)
  rw [zf_fill_0, zs_sa_self]
  exact w
