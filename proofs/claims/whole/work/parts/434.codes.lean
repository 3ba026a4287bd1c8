/-! the reference's search -/
theorem v_mod {c : Nat} (hc : c < 2 ^ 31) : nI c / 3 = nI (c / 3) ∧ nI c - nI c / 3 * 3 = nI (c % 3) := by
  have e1 : nI c / 3 = nI (c / 3) := pk_div (d := 3) hc (by decide) (by decide)
  have e2 : nI (c / 3) * 3 = nI (c / 3 * 3) := pk_mul (c / 3) 3
  refine ⟨e1, ?_⟩
  rw [e1, e2, pk_sub (show c / 3 * 3 ≤ c by omega)]
  congr 1
  omega
/-- what lays answers -/
def vR (o : Option (List Nat)) (i : Nat) (r : Int32) (u u' : zs_T) : Prop := zg_ag [] [] [6] [] u u' ∧ (∀ k, k < i → zs_a u' 6 k = zs_a u 6 k) ∧ match o with
  | none => r = 0
  | some p => r = 1 ∧ ∀ k a, p[k]? = some a → zs_a u' 6 (i + k) = nI a
theorem v_lays {N n H : Nat} (hn : n ≤ 8) (hH : H ≤ 6) : ∀ (r i fu c : Nat) (u : zs_T) (h : Int32), i + r = n → r < fu → c < 2 ^ 31 → zs_i u 6 = nI H → (-1 ≤ h.toInt ∧ h.toInt < 10) → (i = 0 → h = zs_i u 7) → (0 < i → 0 ≤ h.toInt) → ∃ a u', zf_loop (fun ag x => fM9_lays_b11 N (nI n) (fun u v3 v4 v5 => ag (u, v3, v4, v5)) x.1 x.2.1 x.2.2.1 x.2.2.2) fu (u, nI c, h, nI i) = some (a, u') ∧ vR (wd H r h.toInt c) i a u u' := by
  intro r
  induction r with
  | zero =>
    intro i fu c u h hi hf hc h6 hh h7 h0
    obtain ⟨fu, rfl⟩ : ∃ f', fu = f' + 1 := ⟨fu - 1, by omega⟩
    obtain rfl : i = n := by omega
    rw [zf_loop_s]
    refine ⟨1, u, ?_, zg_ag.rf, fun _ _ => rfl, ⟨rfl, fun k a h => by simp at h⟩⟩
    show fM9_lays_b11 N (nI i) _ u (nI c) h (nI i) = _
    unfold fM9_lays_b11
    rw [if_pos (nI_le (Nat.le_refl _) (by omega))]
  | succ r ih =>
    intro i fu c u h hi hf hc h6 hh h7 h0
    obtain ⟨fu, rfl⟩ : ∃ f', fu = f' + 1 := ⟨fu - 1, by omega⟩
    rw [zf_loop_s]
    obtain ⟨AG, hAG⟩ : ∃ A : zs_T → Int32 → Int32 → Int32 → Option (Int32 × zs_T), A = fun u v3 v4 v5 => zf_loop (fun ag x => fM9_lays_b11 N (nI n) (fun u v3 v4 v5 => ag (u, v3, v4, v5)) x.1 x.2.1 x.2.2.1 x.2.2.2) fu (u, v3, v4, v5) := ⟨_, rfl⟩
    show ∃ a u', fM9_lays_b11 N (nI n) (fun u v3 v4 v5 => zf_loop (fun ag x => fM9_lays_b11 N (nI n) (fun u v3 v4 v5 => ag (u, v3, v4, v5)) x.1 x.2.1 x.2.2.1 x.2.2.2) fu (u, v3, v4, v5)) u (nI c) h (nI i) = _ ∧ _
    rw [← hAG]
    obtain ⟨e1, e2⟩ := v_mod hc
    have hz : zf_in (nI i) 8 = true := pz_in (by omega) (by decide)
    have hm3 : c % 3 < 3 := Nat.mod_lt _ (by decide)
    -- the step to a height
    have go : ∀ (t : Nat), t < H → ∃ a u', fM9_lays_j68 N AG u (nI n) (nI c) (nI t) (nI i) = some (a, u') ∧ vR ((wd H r (t : Int) (c / 3)).map (fun p => t :: p)) i a u u' := by
      intro t ht
      obtain ⟨a, u', g1, g2, g3, g4⟩ := ih (i + 1) fu (c / 3) (zs_sa u 6 (upd (zs_a u 6) i (nI t))) (nI t) (by omega) (by omega) (by omega) h6 (by rw [pz_nI (by omega)]; omega) (fun z => by omega) (fun _ => by rw [pz_nI (by omega)]; omega)
      rw [pz_nI (show t < 2 ^ 31 by omega)] at g4
      refine ⟨a, u', ?_, (zg_ag.rf.sa (by decide)).tr g2, fun k hk => ?_, ?_⟩
      · unfold fM9_lays_j68
        rw [if_neg (nI_pos (by omega)), h6, if_pos (nI_lt ht (by omega)), if_pos hz, pz_cl (show i < 2 ^ 31 by omega), e1, pz_succ, hAG]
        exact g1
      · rw [g3 k (by omega)]
        show upd (zs_a u 6) i _ k = _
        rw [pz_upd, if_neg (by omega)]
      · cases hd : wd H r (t : Int) (c / 3) with
        | none =>
          rw [hd] at g4
          exact g4
        | some p =>
          rw [hd] at g4
          refine ⟨g4.1, fun k o ho => ?_⟩
          cases k with
          | zero =>
            have : t = o := Option.some.inj ho
            rw [Nat.add_zero, g3 i (by omega), ← this]
            show upd (zs_a u 6) i _ i = _
            rw [pz_upd, if_pos rfl]
          | succ k =>
            rw [List.getElem?_cons_succ] at ho
            rw [show i + (k + 1) = i + 1 + k by omega]
            exact g4.2 k o ho
    have no : ∀ (v4 : Int32), (v4.toInt < 0 ∨ (H : Int) ≤ v4.toInt) → fM9_lays_j68 N AG u (nI n) (nI c) v4 (nI i) = some (0, u) := by
      intro v4 hv
      unfold fM9_lays_j68
      by_cases z : v4 < 0
      · rw [if_pos z]
      · rw [if_neg z, h6, if_neg (by
          rw [pz_lt, pz_nI (show H < 2 ^ 31 by omega)]
          have : ¬ v4.toInt < 0 := by rw [pz_lt] at z; exact z
          omega)]
    have none' : ∃ a u', some ((0 : Int32), u) = some (a, u') ∧ vR none i a u u' := ⟨0, u, rfl, zg_ag.rf, fun _ _ => rfl, rfl⟩
    unfold fM9_lays_b11
    rw [if_neg (nI_ge (by omega) (by omega))]
    unfold wd
    by_cases q : h.toInt = -1
    · have hi0 : i = 0 := by
        rcases Nat.eq_zero_or_pos i with z | z
        · exact z
        · have := h0 z; omega
      have h7' : zs_i u 7 = -1 := by rw [← h7 hi0]; exact pz_eq.mpr q
      have ei : nI i = 0 := by rw [hi0]; rfl
      rw [if_pos ei, if_pos h7', if_pos q]
      unfold fM9_lays_j46
      rw [if_pos ei, if_pos h7', e2]
      by_cases q2 : c % 3 = 1
      · rw [if_pos (show nI (c % 3) = 1 by rw [q2]; rfl)]
        by_cases q3 : 0 < H
        · rw [if_pos ⟨q2, q3⟩]
          exact go 0 q3
        · rw [if_neg (fun z => q3 z.2), no 0 (Or.inr (by show (H : Int) ≤ 0; omega))]
          exact none'
      · rw [if_neg (show ¬ nI (c % 3) = 1 from fun z => q2 ((nI_eq (b := 1) (by omega) (by decide)).mp z)), if_neg (fun z => q2 z.1)]
        exact none'
    · rw [if_neg q]
      have j46 : ∀ v4 : Int32, fM9_lays_j46 N AG u (nI n) (nI c) v4 (nI i) = fM9_lays_j68 N AG u (nI n) (nI c) v4 (nI i) := by
        intro v4
        unfold fM9_lays_j46
        by_cases z : nI i = 0
        · have hi0 : i = 0 := (nI_eq (b := 0) (by omega) (by decide)).mp z
          rw [if_pos z, if_neg (show ¬ zs_i u 7 = -1 from fun y => q (by rw [h7 hi0, y]; rfl))]
        · rw [if_neg z]
      have hb : (if nI i = 0 then (if zs_i u 7 = -1 then fM9_lays_j46 N AG u (nI n) (nI c) 0 (nI i) else fM9_lays_j36 N AG u (nI n) (nI c) h (nI i)) else fM9_lays_j36 N AG u (nI n) (nI c) h (nI i)) = fM9_lays_j68 N AG u (nI n) (nI c) (h + nI (c % 3) - 1) (nI i) := by
        have j36 : fM9_lays_j36 N AG u (nI n) (nI c) h (nI i) = fM9_lays_j68 N AG u (nI n) (nI c) (h + nI (c % 3) - 1) (nI i) := by
          unfold fM9_lays_j36
          rw [j46, e2]
        by_cases z : nI i = 0
        · have hi0 : i = 0 := (nI_eq (b := 0) (by omega) (by decide)).mp z
          rw [if_pos z, if_neg (show ¬ zs_i u 7 = -1 from fun y => q (by rw [h7 hi0, y]; rfl)), j36]
        · rw [if_neg z, j36]
      rw [hb]
      have t1 : (h + nI (c % 3)).toInt = h.toInt + (c % 3 : Nat) := by
        rw [pz_add]
        · rw [pz_nI (by omega)]
        · rw [pz_nI (by omega)]; omega
        · rw [pz_nI (by omega)]; omega
      have t2 : (h + nI (c % 3) - 1).toInt = h.toInt + (c % 3 : Nat) - 1 := by
        rw [pz_sub]
        · rw [t1]; rfl
        · rw [t1]; show _ ≤ h.toInt + (c % 3 : Nat) - 1; omega
        · rw [t1]; show h.toInt + (c % 3 : Nat) - 1 < _; omega
      by_cases q2 : 0 ≤ h.toInt + (c % 3 : Nat) - 1 ∧ h.toInt + (c % 3 : Nat) - 1 < H
      · rw [if_pos q2]
        obtain ⟨t, ht1, ht2⟩ := pz_of (x := h + nI (c % 3) - 1) (by rw [t2]; exact q2.1)
        rw [ht2, pz_nI ht1] at t2
        rw [ht2, ← t2]
        have := go t (by omega)
        rw [show ((t : Int)).toNat = t from rfl]
        exact this
      · rw [if_neg q2, no _ (by rw [t2]; omega)]
        exact none'
/-- a walk along a way -/
theorem v_walk {N n H U : Nat} {Mo : Nat → Nat} {C : Nat → Int32} {w v4 v5 : Int32} {ag96 : zs_T → Int32 → Option (Int32 × zs_T)} (hN : 200 ≤ N) (hn : n ≤ 8) (hw : -30 ≤ w.toInt ∧ w.toInt ≤ 40) (hU : U ≤ 80) : ∀ (q : List Nat) (i fu acc : Nat) (u : zs_T) (R : Nat → Nat), gs H R Mo C → i + q.length = n → q.length < fu → zs_i u 6 = nI H → (∀ j, j < H → zs_a u 3 j = nI (Mo j) ∧ zs_a u 4 j = C j) → (∀ j, j < H → zs_a u 2 j = nI (R j)) → (∀ k a, q[k]? = some a → zs_a u 6 (i + k) = nI a ∧ a < H) → ∃ u', zf_loop (fun ag x => fM9_way_b122 N ag96 (nI n) w (nI U) v4 v5 (fun u v6 v7 => ag (u, v6, v7)) x.1 x.2.1 x.2.2) fu (u, nI acc, nI i) = fM9_way_j156 N ag96 u' (nI n) w (nI U) v4 v5 (nI (acc + wE Mo C w (10 * U) R q)) ∧ zg_ag [] [] [2] [] u u' ∧ (∀ j, j < H → zs_a u' 2 j = nI (wF Mo C w (10 * U) R q j)) ∧ ∀ j, H ≤ j → zs_a u' 2 j = zs_a u 2 j := by
  intro q
  induction q with
  | nil =>
    intro i fu acc u R hs hi hf h6 h34 h2 hq
    obtain ⟨fu, rfl⟩ : ∃ f', fu = f' + 1 := ⟨fu - 1, by omega⟩
    simp only [List.length_nil] at hi
    rw [zf_loop_s]
    refine ⟨u, ?_, zg_ag.rf, h2, fun _ _ => rfl⟩
    show fM9_way_b122 N ag96 (nI n) w (nI U) v4 v5 _ u (nI acc) (nI i) = _
    unfold fM9_way_b122
    rw [if_pos (nI_le (by omega) (by omega))]
    rfl
  | cons h q ih =>
    intro i fu acc u R hs hi hf h6 h34 h2 hq
    obtain ⟨fu, rfl⟩ : ∃ f', fu = f' + 1 := ⟨fu - 1, by omega⟩
    simp only [List.length_cons] at hi hf
    have hH := hs.1
    rw [zf_loop_s]
    obtain ⟨AG, hAG⟩ : ∃ A : zs_T → Int32 → Int32 → Option (Int32 × zs_T), A = fun u v6 v7 => zf_loop (fun ag x => fM9_way_b122 N ag96 (nI n) w (nI U) v4 v5 (fun u v6 v7 => ag (u, v6, v7)) x.1 x.2.1 x.2.2) fu (u, v6, v7) := ⟨_, rfl⟩
    show ∃ u', fM9_way_b122 N ag96 (nI n) w (nI U) v4 v5 (fun u v6 v7 => zf_loop (fun ag x => fM9_way_b122 N ag96 (nI n) w (nI U) v4 v5 (fun u v6 v7 => ag (u, v6, v7)) x.1 x.2.1 x.2.2) fu (u, v6, v7)) u (nI acc) (nI i) = _ ∧ _
    rw [← hAG]
    obtain ⟨g1, g2⟩ := hq 0 h rfl
    rw [Nat.add_zero] at g1
    have hz : zf_in (nI i) 8 = true := pz_in (by omega) (by decide)
    obtain ⟨u1, a1, a2, a3, a4⟩ := g_M (N := N) (u := u) (by omega) hs hw h6 h34 h2
    have hg := (gs_R hs w).2.1 h g2
    have e6 : zs_a u1 6 i = nI h := by rw [a2.2.2.1 6 (by decide)]; exact g1
    have heat := g_eat (u := u1) (h := h) (U := U) (by omega) hU hg (a3 h g2)
    obtain ⟨u2, hu2⟩ : ∃ u2, u2 = zs_sa u1 2 (upd (zs_a u1 2) h (nI (gR R Mo C w h - min (10 * U) (gR R Mo C w h)))) := ⟨_, rfl⟩
    rw [← hu2] at heat
    have ag2 : zg_ag [] [] [2] [] u u2 := by rw [hu2]; exact a2.sa (by decide)
    have r2 : ∀ j, zs_a u2 2 j = if j = h then nI (gR R Mo C w h - min (10 * U) (gR R Mo C w h)) else zs_a u1 2 j := by intro j; rw [hu2]; rfl
    obtain ⟨u', b1, b2, b3, b4⟩ := ih (i + 1) fu (acc + wL Mo C w (10 * U) R h) u2 (wR Mo C w (10 * U) R h) (gs_w hs w (10 * U) h) (by omega) (by omega) (by rw [ag2.1 6 (by decide)]; exact h6) (fun j hj => by rw [ag2.2.2.1 3 (by decide), ag2.2.2.1 4 (by decide)]; exact h34 j hj) (fun j hj => by
      rw [r2 j]
      unfold wR
      by_cases z : j = h
      · rw [if_pos z, if_pos z, z]
      · rw [if_neg z, if_neg z]; exact a3 j hj) (fun k a hk => by
      rw [ag2.2.2.1 6 (by decide), show i + 1 + k = i + (k + 1) by omega]
      exact hq (k + 1) a (by rw [List.getElem?_cons_succ]; exact hk))
    refine ⟨u', ?_, ag2.tr b2, b3, fun j hj => ?_⟩
    · unfold fM9_way_b122
      rw [if_neg (nI_ge (by omega) (by omega)), a1, zf_bv_s, if_pos hz, pz_cl (show i < 2 ^ 31 by omega), e6, heat, zf_bi_s, nI_add, pz_succ, hAG]
      show _ = fM9_way_j156 N ag96 u' (nI n) w (nI U) v4 v5 (nI (acc + (wL Mo C w (10 * U) R h + wE Mo C w (10 * U) (wR Mo C w (10 * U) R h) q)))
      rw [← Nat.add_assoc]
      exact b1
    · rw [b4 j hj, r2 j, if_neg (by omega), a4 j hj]
theorem v_sum {N n H : Nat} {R R0 : Nat → Nat} {w v3 v4 v5 v6 : Int32} {ag96 : zs_T → Int32 → Option (Int32 × zs_T)} (hH : H ≤ 6) : ∀ (r i fu : Nat) (u : zs_T), i + r = H → r < fu → zs_i u 6 = nI H → (∀ j, j < H → zs_a u 5 j = nI (R0 j)) → (∀ j, j < H → zs_a u 2 j = nI (if j < i then R0 j else R j)) → ∃ u', zf_loop (fun ag x => fM9_way_b162 N ag96 (nI n) w v3 v4 v5 v6 (fun u v7 v8 => ag (u, v7, v8)) x.1 x.2.1 x.2.2) fu (u, nI (qh R i), nI i) = fM9_way_j203 N ag96 u' (nI n) w v3 v4 v5 v6 (nI (qh R H)) ∧ zg_ag [] [] [2] [] u u' ∧ (∀ j, j < H → zs_a u' 2 j = nI (R0 j)) ∧ ∀ j, H ≤ j → zs_a u' 2 j = zs_a u 2 j := by
  intro r
  induction r with
  | zero =>
    intro i fu u hi hf h6 h5 h2
    obtain ⟨fu, rfl⟩ : ∃ f', fu = f' + 1 := ⟨fu - 1, by omega⟩
    obtain rfl : i = H := by omega
    rw [zf_loop_s]
    refine ⟨u, ?_, zg_ag.rf, fun j hj => by rw [h2 j hj, if_pos hj], fun _ _ => rfl⟩
    show fM9_way_b162 N ag96 (nI n) w v3 v4 v5 v6 _ u (nI (qh R i)) (nI i) = _
    unfold fM9_way_b162
    rw [h6, if_pos (nI_le (by omega) (by omega))]
  | succ r ih =>
    intro i fu u hi hf h6 h5 h2
    obtain ⟨fu, rfl⟩ : ∃ f', fu = f' + 1 := ⟨fu - 1, by omega⟩
    rw [zf_loop_s]
    obtain ⟨AG, hAG⟩ : ∃ A : zs_T → Int32 → Int32 → Option (Int32 × zs_T), A = fun u v7 v8 => zf_loop (fun ag x => fM9_way_b162 N ag96 (nI n) w v3 v4 v5 v6 (fun u v7 v8 => ag (u, v7, v8)) x.1 x.2.1 x.2.2) fu (u, v7, v8) := ⟨_, rfl⟩
    show ∃ u', fM9_way_b162 N ag96 (nI n) w v3 v4 v5 v6 (fun u v7 v8 => zf_loop (fun ag x => fM9_way_b162 N ag96 (nI n) w v3 v4 v5 v6 (fun u v7 v8 => ag (u, v7, v8)) x.1 x.2.1 x.2.2) fu (u, v7, v8)) u (nI (qh R i)) (nI i) = _ ∧ _
    rw [← hAG]
    have hz : zf_in (nI i) 6 = true := pz_in (by omega) (by decide)
    unfold fM9_way_b162
    rw [h6, if_neg (nI_ge (by omega) (by omega)), if_pos hz, if_pos hz, if_pos hz, pz_cl (show i < 2 ^ 31 by omega), h5 i (by omega), h2 i (by omega), if_neg (Nat.lt_irrefl i), nI_add, pz_succ]
    obtain ⟨u', b1, b2, b3, b4⟩ := ih (i + 1) fu (zs_sa u 2 (upd (zs_a u 2) i (nI (R0 i)))) (by omega) (by omega) h6 h5 (fun j hj => by
      show upd (zs_a u 2) i _ j = _
      rw [pz_upd]
      by_cases z : j = i
      · rw [if_pos z, if_pos (by omega), z]
      · rw [if_neg z, h2 j hj]
        by_cases z2 : j < i
        · rw [if_pos z2, if_pos (by omega)]
        · rw [if_neg z2, if_neg (by omega)])
    refine ⟨u', by rw [hAG]; exact b1, (zg_ag.rf.sa (by decide)).tr b2, b3, fun j hj => ?_⟩
    rw [b4 j hj]
    show upd (zs_a u 2) i _ j = _
    rw [pz_upd, if_neg (by omega)]
theorem v_less {N n : Nat} {u : zs_T} (hn : n ≤ 8) : ∀ (p q : List Nat) (i fu : Nat), p.length = q.length → i + p.length = n → p.length < fu → (∀ k a, p[k]? = some a → zs_a u 6 (i + k) = nI a ∧ a < 2 ^ 31) → (∀ k a, q[k]? = some a → zs_a u 7 (i + k) = nI a ∧ a < 2 ^ 31) → zf_loop (fun ag x => fM9_isLess_b2 N u (nI n) (fun v2 => ag v2) x) fu (nI i) = some (if wx p q = true then 1 else 0)
  | [], q, i, fu, hl, hi, hf, h6, h7 => by
    obtain ⟨fu, rfl⟩ : ∃ f', fu = f' + 1 := ⟨fu - 1, by omega⟩
    simp only [List.length_nil] at hi
    rw [zf_loop_s]
    show fM9_isLess_b2 N u (nI n) _ (nI i) = _
    unfold fM9_isLess_b2
    rw [if_pos (nI_le (by omega) (by omega))]
    rfl
  | a :: p, [], i, fu, hl, _, _, _, _ => by simp at hl
  | a :: p, b :: q, i, fu, hl, hi, hf, h6, h7 => by
    obtain ⟨fu, rfl⟩ : ∃ f', fu = f' + 1 := ⟨fu - 1, by omega⟩
    simp only [List.length_cons] at hi hf hl
    rw [zf_loop_s]
    obtain ⟨AG, hAG⟩ : ∃ A : Int32 → Option Int32, A = fun v2 => zf_loop (fun ag x => fM9_isLess_b2 N u (nI n) (fun v2 => ag v2) x) fu v2 := ⟨_, rfl⟩
    show fM9_isLess_b2 N u (nI n) (fun v2 => zf_loop (fun ag x => fM9_isLess_b2 N u (nI n) (fun v2 => ag v2) x) fu v2) (nI i) = _
    rw [← hAG]
    have hz : zf_in (nI i) 8 = true := pz_in (by omega) (by decide)
    obtain ⟨e1, e2⟩ := h6 0 a rfl
    obtain ⟨e3, e4⟩ := h7 0 b rfl
    rw [Nat.add_zero] at e1 e3
    unfold fM9_isLess_b2 fM9_isLess_j22
    rw [if_neg (nI_ge (by omega) (by omega)), if_pos hz, if_pos hz, pz_cl (show i < 2 ^ 31 by omega), e1, e3, pz_succ]
    by_cases z : a = b
    · subst z
      rw [if_pos rfl, hAG]
      have hw : wx (a :: p) (a :: q) = wx p q := by simp [wx]
      rw [hw]
      exact v_less hn p q (i + 1) fu (by omega) (by omega) (by omega) (fun k c hk => by
        rw [show i + 1 + k = i + (k + 1) by omega]
        exact h6 (k + 1) c (by rw [List.getElem?_cons_succ]; exact hk)) (fun k c hk => by
        rw [show i + 1 + k = i + (k + 1) by omega]
        exact h7 (k + 1) c (by rw [List.getElem?_cons_succ]; exact hk))
    · rw [if_neg (fun y => z ((nI_eq e2 e4).mp y)), if_pos hz, if_pos hz]
      by_cases z2 : b ≤ a
      · rw [if_pos (nI_le z2 e2), if_neg (by rw [wx_c]; omega)]
      · rw [if_neg (nI_ge (by omega) e4), if_pos (by rw [wx_c]; omega)]
