theorem w_snoc (pre : List Nat) (h : Nat) (q : List Nat) : pre ++ [h] ++ q = pre ++ h :: q := by simp
theorem w_tAs {A : Nat → Int32} {pre : List Nat} {h d : Nat} (hl : pre.length = d) (hA : ∀ i o, pre[i]? = some o → A i = nI o) (hd : A d = nI h) : tA A (pre ++ [h]) := by
  intro i o ho
  rcases Nat.lt_or_ge i d with z | z
  · rw [List.getElem?_append_left (by omega)] at ho
    exact hA i o ho
  · rw [List.getElem?_append_right (by omega)] at ho
    have hi : i - pre.length < [h].length := (List.getElem?_eq_some_iff.mp ho).1
    have : i = d := by simp at hi; omega
    rw [this, hl, Nat.sub_self] at ho
    have : h = o := Option.some.inj ho
    rw [‹i = d›, hd, this]
set_option maxHeartbeats 1000000 in
theorem w_exp {N n H W : Nat} {R0 Mo : Nat → Nat} {C : Nat → Int32} {w : Int32} (hN : 200 ≤ N) (hn : n ≤ 8) (hH1 : 1 ≤ H) (hs : gs H R0 Mo C) (hw : -30 ≤ w.toInt ∧ w.toInt ≤ 40) (hW : W ≤ 800) : ∀ (r d dd : Nat) (u : zs_T) (pre : List Nat) (f : Int32) (b : Option (List Nat)), d + r = n → r < dd → pre.length = d → wP n H W Mo C w u → tA (zs_a u 7) pre → (∀ j, j < H → zs_a u 8 (d * 6 + j) = nI (wF Mo C w W R0 pre j)) → (-1 ≤ f.toInt ∧ f.toInt < H) → wB (wE Mo C w W R0) (wG Mo C w W H R0) n u b → (∀ p, b = some p → ∀ q, wl H f.toInt q → q.length = r → wx p (pre ++ q) = true) → ∃ u' b', fX3_explore N dd u (nI d) f (nI (wE Mo C w W R0 pre)) = some u' ∧ zg_ag [10, 11] [] [6, 7, 8] [] u u' ∧ (∀ i, i < d → zs_a u' 7 i = zs_a u 7 i) ∧ (∀ i, i < d * 6 + 6 → zs_a u' 8 i = zs_a u 8 i) ∧ wB (wE Mo C w W R0) (wG Mo C w W H R0) n u' b' ∧ (b' = b ∨ ∃ q, wl H f.toInt q ∧ q.length = r ∧ b' = some (pre ++ q)) ∧ (∀ q, wl H f.toInt q → q.length = r → wn (wE Mo C w W R0) (wG Mo C w W H R0) (pre ++ q) b') ∧ ∀ q0, wn (wE Mo C w W R0) (wG Mo C w W H R0) q0 b → wn (wE Mo C w W R0) (wG Mo C w W H R0) q0 b' := by
  have hH := hs.1
  intro r
  induction r with
  | zero =>
    intro d dd u pre f b hr hdd hpre hP hA hR hf hB hx
    obtain ⟨dd, rfl⟩ : ∃ f', dd = f' + 1 := ⟨dd - 1, by omega⟩
    obtain rfl : d = n := by omega
    show ∃ u' b', fX3_explore_1 N (fX3_explore N dd) u (nI d) f (nI (wE Mo C w W R0 pre)) = some u' ∧ _
    have bE := wE_le Mo C w W pre R0
    have bE2 : W * pre.length ≤ 800 * 8 := Nat.mul_le_mul hW (by omega)
    unfold fX3_explore_1
    by_cases p1 : nI (wE Mo C w W R0 pre) ≤ zs_i u 10
    · rw [if_pos p1, hP.1, if_neg (nI_nlt (by omega) (by omega))]
      obtain ⟨u', b', c1, c2, c3, c4, c5, c6⟩ := w_judge hN hn hs hW hP hpre hA hR hB (fun q hq => by
        have := hx q hq [] trivial rfl
        rw [List.append_nil] at this
        exact this)
      rw [c1, zf_bv_s]
      refine ⟨u', b', rfl, c2.mono (by decide) (by decide) (by decide) (by decide), fun i _ => by rw [c2.2.2.1 7 (by decide)], fun i _ => by rw [c2.2.2.1 8 (by decide)], c3, ?_, ?_, c6⟩
      · rcases c4 with z | z
        · exact Or.inl z
        · exact Or.inr ⟨[], trivial, rfl, by rw [List.append_nil]; exact z⟩
      · intro q _ hq
        have : q = [] := List.length_eq_zero_iff.mp hq
        rw [this, List.append_nil]
        exact c5
    · rw [if_neg p1]
      refine ⟨u, b, rfl, zg_ag.rf, fun _ _ => rfl, fun _ _ => rfl, hB, Or.inl rfl, fun q hq1 hq2 => ?_, fun _ h => h⟩
      rcases hB with ⟨z1, z2⟩ | ⟨p, z1, z2, z3, z4, z5⟩
      · exfalso
        apply p1
        rw [z2, pz_le, pz_nI (by omega)]
        show (_ : Int) ≤ 2147483647
        omega
      · refine ⟨p, z1, fun h => ?_⟩
        have bp := wE_le Mo C w W p R0
        have bp2 : W * p.length ≤ 800 * 8 := Nat.mul_le_mul hW (by omega)
        have hlt : wE Mo C w W R0 p < wE Mo C w W R0 pre := by
          apply Classical.byContradiction
          intro z
          exact p1 (by rw [z3]; exact nI_le (by omega) (by omega))
        have e := wE_app Mo C w W pre q R0
        rcases h with h | ⟨h, -⟩ <;> omega
  | succ r ih =>
    intro d dd u pre f b hr hdd hpre hP hA hR hf hB hx
    obtain ⟨dd, rfl⟩ : ∃ f', dd = f' + 1 := ⟨dd - 1, by omega⟩
    show ∃ u' b', fX3_explore_1 N (fX3_explore N dd) u (nI d) f (nI (wE Mo C w W R0 pre)) = some u' ∧ _
    have bE := wE_le Mo C w W pre R0
    have bE2 : W * pre.length ≤ 800 * 8 := Nat.mul_le_mul hW (by omega)
    unfold fX3_explore_1
    by_cases p1 : nI (wE Mo C w W R0 pre) ≤ zs_i u 10
    · rw [if_pos p1, hP.1, if_pos (nI_lt (by omega) (by omega)), hP.2.1]
      -- the bounds
      obtain ⟨lo, hlo1, hlo2⟩ : ∃ lo : Nat, zr_imax 0 (f - 1) = nI lo ∧ ((lo : Int) = f.toInt - 1 ∨ (lo = 0 ∧ f.toInt - 1 ≤ 0)) := by
        have e : (f - 1).toInt = f.toInt - 1 := pz_sub (by show _ ≤ f.toInt - 1; omega) (by show f.toInt - 1 < _; omega)
        unfold zr_imax
        by_cases z : 0 < f - 1
        · rw [if_pos z]
          have z2 : 0 < f.toInt - 1 := by rw [pz_lt, e] at z; exact z
          obtain ⟨n', h1, h2⟩ := pz_of (x := f - 1) (by omega)
          refine ⟨n', h2, Or.inl ?_⟩
          rw [h2, pz_nI h1] at e
          exact e
        · rw [if_neg z]
          have z2 : ¬ 0 < f.toInt - 1 := by rw [pz_lt, e] at z; exact z
          exact ⟨0, rfl, Or.inr ⟨rfl, by omega⟩⟩
      obtain ⟨hi, hhi1, hhi2, hhi3, hhi4⟩ : ∃ hi : Nat, zr_imin (nI H - 1) (f + 1) = nI hi ∧ hi < H ∧ (hi : Int) ≤ f.toInt + 1 ∧ ∀ a : Nat, a < H → (a : Int) ≤ f.toInt + 1 → a ≤ hi := by
        have e : (f + 1).toInt = f.toInt + 1 := pz_add (by show _ ≤ f.toInt + 1; omega) (by show f.toInt + 1 < _; omega)
        obtain ⟨n', h1, h2⟩ := pz_of (x := f + 1) (by omega)
        rw [h2, pz_nI h1] at e
        obtain ⟨H', rfl⟩ : ∃ H', H = H' + 1 := ⟨H - 1, by omega⟩
        rw [nI_pred, h2, w_min (by omega) h1]
        exact ⟨min H' n', rfl, by omega, by omega, fun a h3 h4 => by omega⟩
      rw [hlo1, hhi1]
      have inner : ∀ (k h fu : Nat) (u : zs_T) (b : Option (List Nat)), h + k = hi + 1 → lo ≤ h → k < fu → wP n H W Mo C w u → tA (zs_a u 7) pre → (∀ j, j < H → zs_a u 8 (d * 6 + j) = nI (wF Mo C w W R0 pre j)) → wB (wE Mo C w W R0) (wG Mo C w W H R0) n u b → (∀ p, b = some p → ∀ a q, h ≤ a → wl H f.toInt (a :: q) → q.length = r → wx p (pre ++ a :: q) = true) → ∃ u' b', zf_loop (fun ag x => fX3_explore_b46 N (fX3_explore N dd) (nI d) (nI (wE Mo C w W R0 pre)) (nI hi) (fun u v5 => ag (u, v5)) x.1 x.2) fu (u, nI h) = some u' ∧ zg_ag [10, 11] [] [6, 7, 8] [] u u' ∧ (∀ i, i < d → zs_a u' 7 i = zs_a u 7 i) ∧ (∀ i, i < d * 6 + 6 → zs_a u' 8 i = zs_a u 8 i) ∧ wB (wE Mo C w W R0) (wG Mo C w W H R0) n u' b' ∧ (b' = b ∨ ∃ a q, wl H f.toInt (a :: q) ∧ q.length = r ∧ b' = some (pre ++ a :: q)) ∧ (∀ a q, h ≤ a → wl H f.toInt (a :: q) → q.length = r → wn (wE Mo C w W R0) (wG Mo C w W H R0) (pre ++ a :: q) b') ∧ ∀ q0, wn (wE Mo C w W R0) (wG Mo C w W H R0) q0 b → wn (wE Mo C w W R0) (wG Mo C w W H R0) q0 b' := by
        intro k
        induction k with
        | zero =>
          intro h fu u b hk hl hfu hP hA hR hB hx
          obtain ⟨fu, rfl⟩ : ∃ f', fu = f' + 1 := ⟨fu - 1, by omega⟩
          obtain rfl : h = hi + 1 := by omega
          rw [zf_loop_s]
          refine ⟨u, b, ?_, zg_ag.rf, fun _ _ => rfl, fun _ _ => rfl, hB, Or.inl rfl, fun a q h1 h2 h3 => ?_, fun _ h => h⟩
          · show fX3_explore_b46 N (fX3_explore N dd) (nI d) (nI (wE Mo C w W R0 pre)) (nI hi) _ u (nI (hi + 1)) = _
            unfold fX3_explore_b46
            rw [if_pos (nI_lt (by omega) (by omega))]
          · have := hhi4 a h2.1.1 h2.1.2.2
            omega
        | succ k ihk =>
          intro h fu u b hk hl hfu hP hA hR hB hx
          obtain ⟨fu, rfl⟩ : ∃ f', fu = f' + 1 := ⟨fu - 1, by omega⟩
          have hstep : h < H ∧ f.toInt - 1 ≤ (h : Int) ∧ (h : Int) ≤ f.toInt + 1 := ⟨by omega, by omega, by omega⟩
          rw [zf_loop_s]
          obtain ⟨AG, hAG⟩ : ∃ A : zs_T → Int32 → Option zs_T, A = fun u v5 => zf_loop (fun ag x => fX3_explore_b46 N (fX3_explore N dd) (nI d) (nI (wE Mo C w W R0 pre)) (nI hi) (fun u v5 => ag (u, v5)) x.1 x.2) fu (u, v5) := ⟨_, rfl⟩
          show ∃ u' b', fX3_explore_b46 N (fX3_explore N dd) (nI d) (nI (wE Mo C w W R0 pre)) (nI hi) (fun u v5 => zf_loop (fun ag x => fX3_explore_b46 N (fX3_explore N dd) (nI d) (nI (wE Mo C w W R0 pre)) (nI hi) (fun u v5 => ag (u, v5)) x.1 x.2) fu (u, v5)) u (nI h) = _ ∧ _
          rw [← hAG]
          have hz : zf_in (nI d) 8 = true := pz_in (by omega) (by decide)
          obtain ⟨u1, hu1⟩ : ∃ u1, u1 = zs_sa u 7 (upd (zs_a u 7) d (nI h)) := ⟨_, rfl⟩
          have ag1 : zg_ag [] [] [7, 8] [] u u1 := by rw [hu1]; exact zg_ag.rf.sa (by decide)
          have hP1 := hP.ag (ag1.mono (by decide) (by decide) (by decide) (by decide))
          have a8 : zs_a u1 8 = zs_a u 8 := by rw [hu1]; rfl
          have a7 : ∀ i, zs_a u1 7 i = if i = d then nI h else zs_a u 7 i := by intro i; rw [hu1]; rfl
          obtain ⟨u2, c1, c2, c3, c4⟩ := w_pd (N := N) (d := d) (h := h) hN (gs_F w W pre hs) hw (by omega) hstep.1 hW hP1 (fun j hj => by rw [a8]; exact hR j hj)
          have ag2 : zg_ag [] [] [7, 8] [] u u2 := ag1.tr (c2.mono (by decide) (by decide) (by decide) (by decide))
          have hP2 := hP.ag (ag2.mono (by decide) (by decide) (by decide) (by decide))
          have a72 : ∀ i, zs_a u2 7 i = if i = d then nI h else zs_a u 7 i := by intro i; rw [c2.2.2.1 7 (by decide)]; exact a7 i
          have eE : wE Mo C w W R0 (pre ++ [h]) = wE Mo C w W R0 pre + wL Mo C w W (wF Mo C w W R0 pre) h := by
            rw [wE_app]; rfl
          have eF : wF Mo C w W R0 (pre ++ [h]) = wR Mo C w W (wF Mo C w W R0 pre) h := by
            rw [wF_app]; rfl
          have htn : (nI h).toInt = h := pz_nI (by omega)
          obtain ⟨u3, b3, d1, d2, d3, d4, d5, d6, d7, d8⟩ := ih (d + 1) dd u2 (pre ++ [h]) (nI h) b (by omega) (by omega) (by simp [hpre]) hP2 (w_tAs hpre (fun i o ho => by
            have hi : i < d := by have := (List.getElem?_eq_some_iff.mp ho).1; omega
            rw [a72 i, if_neg (by omega)]; exact hA i o ho) (by rw [a72 d, if_pos rfl])) (fun j hj => by
              rw [eF, show (d + 1) * 6 + j = d * 6 + 6 + j by omega]; exact c4 j hj) (by rw [htn]; omega) (hB.ag ag2) (fun p hp q hq1 hq2 => by
              rw [w_snoc]
              rw [htn] at hq1
              exact hx p hp h q (Nat.le_refl _) ⟨hstep, hq1⟩ hq2)
          rw [htn] at d6 d7
          have ag3 : zg_ag [10, 11] [] [6, 7, 8] [] u u3 := (ag2.mono (by decide) (by decide) (by decide) (by decide)).tr d2
          have a73 : ∀ i, i < d → zs_a u3 7 i = zs_a u 7 i := fun i hi => by rw [d3 i (by omega), a72 i, if_neg (by omega)]
          have a83 : ∀ i, i < d * 6 + 6 → zs_a u3 8 i = zs_a u 8 i := fun i hi => by rw [d4 i (by omega), c3 i hi, a8]
          obtain ⟨u4, b4, e1, e2, e3, e4, e5, e6, e7, e8⟩ := ihk (h + 1) fu u3 b3 (by omega) (by omega) (by omega) (hP.ag ag3) (fun i o ho => by
            have hi : i < d := by have := (List.getElem?_eq_some_iff.mp ho).1; omega
            rw [a73 i hi]; exact hA i o ho) (fun j hj => by rw [a83 _ (by omega)]; exact hR j hj) d5 (fun p hp a q h1 h2 h3 => by
              rcases d6 with z | ⟨q', z1, z2, z3⟩
              · rw [z] at hp
                exact hx p hp a q (by omega) h2 h3
              · rw [z3] at hp
                have : p = pre ++ h :: q' := by rw [← w_snoc]; exact (Option.some.inj hp).symm
                rw [this, wx_app, wx_c]
                exact Or.inl (by omega))
          refine ⟨u4, b4, ?_, ag3.tr e2, fun i hi => by rw [e3 i hi]; exact a73 i hi, fun i hi => by rw [e4 i hi]; exact a83 i hi, e5, ?_, ?_, fun q0 h => e8 q0 (d8 q0 h)⟩
          · unfold fX3_explore_b46
            rw [if_neg (nI_nlt (by omega) (by omega)), if_pos hz, pz_cl (show d < 2 ^ 31 by omega), ← hu1, c1, zf_bi_s, nI_add, ← eE, pz_succ, d1, zf_bv_s, pz_succ, hAG]
            exact e1
          · rcases e6 with z | z
            · rcases d6 with y | ⟨q', y1, y2, y3⟩
              · exact Or.inl (z.trans y)
              · refine Or.inr ⟨h, q', ⟨hstep, y1⟩, y2, ?_⟩
                rw [z, y3, w_snoc]
            · exact Or.inr z
          · intro a q h1 h2 h3
            rcases Nat.lt_or_ge h a with z | z
            · exact e7 a q z h2 h3
            · obtain rfl : a = h := by omega
              have := d7 q h2.2 h3
              rw [w_snoc] at this
              exact e8 _ this
      have hlh := hhi4 lo (by omega) (by omega)
      obtain ⟨u', b', e1, e2, e3, e4, e5, e6, e7, e8⟩ := inner (hi + 1 - lo) lo N u b (by omega) (Nat.le_refl _) (by omega) hP hA hR hB (fun p hp a q _ h2 h3 => hx p hp (a :: q) h2 (by simp [h3]))
      refine ⟨u', b', e1, e2, e3, e4, e5, ?_, ?_, e8⟩
      · rcases e6 with z | ⟨a, q, z1, z2, z3⟩
        · exact Or.inl z
        · exact Or.inr ⟨a :: q, z1, by simp [z2], z3⟩
      · intro q hq1 hq2
        cases q with
        | nil => simp at hq2
        | cons a q =>
          refine e7 a q ?_ hq1 (by simpa using hq2)
          have := hq1.1.2.1
          omega
    · rw [if_neg p1]
      refine ⟨u, b, rfl, zg_ag.rf, fun _ _ => rfl, fun _ _ => rfl, hB, Or.inl rfl, fun q hq1 hq2 => ?_, fun _ h => h⟩
      rcases hB with ⟨z1, z2⟩ | ⟨p, z1, z2, z3, z4, z5⟩
      · exfalso
        apply p1
        rw [z2, pz_le, pz_nI (by omega)]
        show (_ : Int) ≤ 2147483647
        omega
      · refine ⟨p, z1, fun h => ?_⟩
        have bp := wE_le Mo C w W p R0
        have bp2 : W * p.length ≤ 800 * 8 := Nat.mul_le_mul hW (by omega)
        have hlt : wE Mo C w W R0 p < wE Mo C w W R0 pre := by
          apply Classical.byContradiction
          intro z
          exact p1 (by rw [z3]; exact nI_le (by omega) (by omega))
        have e := wE_app Mo C w W pre q R0
        rcases h with h | ⟨h, -⟩ <;> omega
/-- the rows as the search begins -/
theorem w_fbl {N H : Nat} {R0 Mo : Nat → Nat} {C : Nat → Int32} {w v2 v3 : Int32} (hH : H ≤ 6) : ∀ (r i f : Nat) (u : zs_T), i + r = H → r < f → zs_i u 8 = nI H → (∀ j, j < H → zs_a u 3 j = nI (R0 j) ∧ zs_a u 4 j = nI (Mo j) ∧ zs_a u 5 j = C j) → (∀ j, j < i → zs_a u 8 j = nI (R0 j) ∧ zs_a u 9 j = nI (Mo j) ∧ zs_a u 10 j = gv (C j) w j) → ∃ u', zf_loop (fun ag x => fX3_findBest_b11 N v2 v3 w (fun u v5 => ag (u, v5)) x.1 x.2) f (u, nI i) = fX3_findBest_j69 N u' v2 v3 ∧ zg_ag [] [] [8, 9, 10] [] u u' ∧ ∀ j, j < H → zs_a u' 8 j = nI (R0 j) ∧ zs_a u' 9 j = nI (Mo j) ∧ zs_a u' 10 j = gv (C j) w j := by
  intro r
  induction r with
  | zero =>
    intro i f u hi hf h8 h3 hd
    obtain ⟨f, rfl⟩ : ∃ f', f = f' + 1 := ⟨f - 1, by omega⟩
    obtain rfl : i = H := by omega
    rw [zf_loop_s]
    refine ⟨u, ?_, zg_ag.rf, hd⟩
    show fX3_findBest_b11 N v2 v3 w _ u (nI i) = _
    unfold fX3_findBest_b11
    rw [h8, if_pos (nI_le (by omega) (by omega))]
  | succ r ih =>
    intro i f u hi hf h8 h3 hd
    obtain ⟨f, rfl⟩ : ∃ f', f = f' + 1 := ⟨f - 1, by omega⟩
    rw [zf_loop_s]
    obtain ⟨AG, hAG⟩ : ∃ A : zs_T → Int32 → Option (Int32 × zs_T), A = fun u v5 => zf_loop (fun ag x => fX3_findBest_b11 N v2 v3 w (fun u v5 => ag (u, v5)) x.1 x.2) f (u, v5) := ⟨_, rfl⟩
    show ∃ u', fX3_findBest_b11 N v2 v3 w (fun u v5 => zf_loop (fun ag x => fX3_findBest_b11 N v2 v3 w (fun u v5 => ag (u, v5)) x.1 x.2) f (u, v5)) u (nI i) = _ ∧ _
    rw [← hAG]
    have hz : zf_in (nI i) 6 = true := pz_in (by omega) (by decide)
    have hz2 : zf_in (nI i) 54 = true := pz_in (by omega) (by decide)
    obtain ⟨e1, e2, e3⟩ := h3 i (by omega)
    have e : fX3_findBest_b11 N v2 v3 w AG u (nI i) = AG (zs_sa (zs_sa (zs_sa u 8 (upd (zs_a u 8) i (nI (R0 i)))) 9 (upd (zs_a u 9) i (nI (Mo i)))) 10 (upd (zs_a u 10) i (gv (C i) w i))) (nI (i + 1)) := by
      unfold fX3_findBest_b11 fX2_gainOn
      rw [h8, if_neg (nI_ge (by omega) (by omega)), if_pos hz, if_pos hz2, if_pos hz, if_pos hz, if_pos hz, zf_bp_s, if_pos hz, pz_cl (show i < 2 ^ 31 by omega), pz_succ, ← e1, ← e2, ← e3]
      rfl
    rw [e]
    obtain ⟨u', b1, b2, b3⟩ := ih (i + 1) f (zs_sa (zs_sa (zs_sa u 8 (upd (zs_a u 8) i (nI (R0 i)))) 9 (upd (zs_a u 9) i (nI (Mo i)))) 10 (upd (zs_a u 10) i (gv (C i) w i))) (by omega) (by omega) h8 h3 (fun j hj => by
      show upd (zs_a u 8) i _ j = _ ∧ upd (zs_a u 9) i _ j = _ ∧ upd (zs_a u 10) i _ j = _
      rw [pz_upd, pz_upd, pz_upd]
      by_cases q : j = i
      · rw [if_pos q, if_pos q, if_pos q, q]; exact ⟨rfl, rfl, rfl⟩
      · rw [if_neg q, if_neg q, if_neg q]; exact hd j (by omega))
    exact ⟨u', by rw [hAG]; exact b1, (((zg_ag.rf.sa (by decide)).sa (by decide)).sa (by decide)).tr b2, b3⟩
theorem w_fb {N n H U : Nat} {R0 Mo : Nat → Nat} {C : Nat → Int32} {w : Int32} {x : zs_T} (hN : 200 ≤ N) (hn : n ≤ 8) (hH1 : 1 ≤ H) (hs : gs H R0 Mo C) (hw : -30 ≤ w.toInt ∧ w.toInt ≤ 40) (hU : U ≤ 80) (h3 : zs_i x 3 = nI H) (h5 : -1 ≤ (zs_i x 5).toInt ∧ (zs_i x 5).toInt < H) (ha : ∀ j, j < H → zs_a x 3 j = nI (R0 j) ∧ zs_a x 4 j = nI (Mo j) ∧ zs_a x 5 j = C j) : ∃ x' p, fX3_findBest N x (nI U) (nI n) w = some (nI (wE Mo C w (10 * U) R0 p), x') ∧ zg_ag [7, 8, 9, 10, 11] [] [6, 7, 8, 9, 10] [] x x' ∧ zs_i x' 7 = nI n ∧ tA (zs_a x' 6) p ∧ p.length = n ∧ wl H (zs_i x 5).toInt p ∧ ∀ q, wl H (zs_i x 5).toInt q → q.length = n → ¬ wb (wE Mo C w (10 * U) R0) (wG Mo C w (10 * U) H R0) q p := by
  have hH := hs.1
  obtain ⟨u1, a1, a2, a3⟩ := w_fbl (N := N) (v2 := nI U) (v3 := nI n) hH H 0 N (zs_si x 8 (nI H)) (by omega) (by omega) rfl ha (fun j hj => by omega)
  have a1' : fX3_findBest N x (nI U) (nI n) w = fX3_findBest_j69 N u1 (nI U) (nI n) := by
    unfold fX3_findBest
    rw [h3]
    exact a1
  obtain ⟨u2, hu2⟩ : ∃ u2, u2 = zs_si (zs_si (zs_si (zs_si u1 7 (nI n)) 9 (10 * nI U)) 10 2147483647) 11 0 := ⟨_, rfl⟩
  have e10 : (10 : Int32) * nI U = nI (10 * U) := pk_mul 10 U
  have ag2 : zg_ag [7, 8, 9, 10, 11] [] [6, 7, 8, 9, 10] [] x u2 := by
    rw [hu2]
    exact ((((((zg_ag.rf (u := x)).si (by decide)).tr (a2.mono (by decide) (by decide) (by decide) (by decide))).si (by decide)).si (by decide)).si (by decide)).si (by decide)
  have i5 : zs_i u2 5 = zs_i x 5 := ag2.1 5 (by decide)
  have hP : wP n H (10 * U) Mo C w u2 := by
    rw [hu2]
    refine ⟨rfl, a2.1 8 (by decide), e10, fun j hj => (a3 j hj).2.1, fun j hj => (a3 j hj).2.2⟩
  obtain ⟨u3, b3, c1, c2, c3, c4, c5, c6, c7, c8⟩ := w_exp (N := N) (n := n) hN hn hH1 hs hw (show 10 * U ≤ 800 by omega) n 0 9 u2 [] (zs_i x 5) none (by omega) (by omega) rfl hP (fun i o h => by simp at h) (fun j hj => by
    rw [hu2, show 0 * 6 + j = j by omega]
    exact (a3 j hj).1) h5 (Or.inl ⟨rfl, by rw [hu2]; rfl⟩) (fun p hp => by cases hp)
  obtain ⟨q, hq1, hq2⟩ := wl_ex (H := H) (by omega) n (zs_i x 5).toInt h5.1 h5.2
  obtain ⟨p, hp1, hp2⟩ := c7 q hq1 hq2
  rcases c5 with ⟨z, -⟩ | ⟨p', z1, z2, z3, z4, z5⟩
  · rw [hp1] at z; cases z
  · have : p' = p := Option.some.inj (z1.symm.trans hp1)
    subst this
    refine ⟨u3, p', ?_, ag2.tr (c2.mono (by decide) (by decide) (by decide) (by decide)), ?_, z5, z2, ?_, fun q h1 h2 => ?_⟩
    · rw [a1']
      unfold fX3_findBest_j69
      rw [← hu2, i5, show (0 : Int32) = nI 0 from rfl, show nI 0 = nI (wE Mo C w (10 * U) R0 []) from rfl]
      have c1' : fX3_explore N 9 u2 (nI (wE Mo C w (10 * U) R0 [])) (zs_i x 5) (nI (wE Mo C w (10 * U) R0 [])) = some u3 := c1
      rw [c1', zf_bv_s, z3]
    · rw [c2.1 7 (by decide)]; exact hP.1
    · rcases c6 with y | ⟨q', y1, y2, y3⟩
      · rw [z1] at y; cases y
      · have : p' = q' := Option.some.inj (z1.symm.trans y3)
        rw [this]; exact y1
    · obtain ⟨p2, g1, g2⟩ := c7 q h1 h2
      have : p2 = p' := Option.some.inj (g1.symm.trans z1)
      rw [this] at g2
      exact g2
