/-! all calls, and the start -/
theorem b_all {N : Nat} (hN : 6600 ≤ N) : zl_all N rb_I := fun k x m hk hI a1 a2 a3 a4 a5 =>
  ⟨sb_feed (by omega) hI a1 a2 a3 a4 a5, sb_rules (by omega) hI a1, sb_alp (by omega) hI a1, sb_height hI a1 a2 a3 a4, sb_sheep hI a1, sb_move hI a1, sb_day (by omega) hk hI a1 a2, sb_act (by omega) hI a1 a2 a3 a4, sb_milking hI a1, sb_milk hI a1 a2, sb_close (by omega) hk hI a1, sb_work hI a1 a2, sb_look (by omega) hI a1 a2 a3 a4, sb_credit (by omega) hI a1 a2, sb_part (by omega) hI a1 a2, sb_way hN hI a1 a2, sb_step hI a1, sb_grass hI a1 a2, sb_told (by omega) hI a1 a2, sb_entry hI a1 a2, sb_rule hI a1, sb_count (by omega) hI a1⟩
theorem st_b : ∃ zb, fXb5_init zs_0 = some zb ∧ zs_a zb 0 0 = 5 ∧ zs_a zb 0 1 = 500 ∧ zs_a zb 0 2 = 40 ∧ zs_a zb 0 3 = 90 := ⟨_, rfl, rfl, rfl, rfl, rfl⟩
theorem st_p : ∃ zp, fXp2_init ku_2 = some zp ∧ zs_i zp 0 = 1 ∧ zs_i zp 1 = 0 ∧ zs_i zp 2 = -1 ∧ zs_i zp 3 = 0 ∧ zs_l zp 0 = 0 ∧ (∀ j, zs_a zp 0 j = 0) ∧ (∀ j, j < 6 → zs_a zp 1 j = 1) ∧ ∀ j, zs_a zp 2 j = 0 := by
  refine ⟨_, rfl, rfl, rfl, rfl, rfl, rfl, fun j => ?_, fun j hj => ?_, fun j => ?_⟩
  · show (if j < 6 then (0 : Int32) else 0) = 0; exact ite_self _
  · show (if j < 6 then (1 : Int32) else 0) = 1; exact if_pos hj
  · show (if j < 6 then (0 : Int32) else 0) = 0; exact ite_self _
theorem st_gl {N : Nat} : ∀ (r i f : Nat) (u : zs_T), i + r = 12 → r < f → (∀ j, j < i → zs_a u 1 j = nI j) → ∃ u', zf_loop (fun ag x => fXg1_init_b56 N (fun u v1 => ag (u, v1)) x.1 x.2) f (u, nI i) = some u' ∧ zg_ag [] [] [1] [] u u' ∧ ∀ j, j < 12 → zs_a u' 1 j = nI j := by
  intro r
  induction r with
  | zero =>
    intro i f u hi hf h1
    obtain ⟨f, rfl⟩ : ∃ f', f = f' + 1 := ⟨f - 1, by omega⟩
    obtain rfl : i = 12 := by omega
    rw [zf_loop_s]
    exact ⟨u, rfl, zg_ag.rf, h1⟩
  | succ r ih =>
    intro i f u hi hf h1
    obtain ⟨f, rfl⟩ : ∃ f', f = f' + 1 := ⟨f - 1, by omega⟩
    rw [zf_loop_s]
    obtain ⟨AG, hAG⟩ : ∃ A : zs_T → Int32 → Option zs_T, A = fun u v1 => zf_loop (fun ag x => fXg1_init_b56 N (fun u v1 => ag (u, v1)) x.1 x.2) f (u, v1) := ⟨_, rfl⟩
    show ∃ u', fXg1_init_b56 N (fun u v1 => zf_loop (fun ag x => fXg1_init_b56 N (fun u v1 => ag (u, v1)) x.1 x.2) f (u, v1)) u (nI i) = _ ∧ _
    rw [← hAG]
    have hz : zf_in (nI i) 12 = true := pz_in (by omega) (by decide)
    unfold fXg1_init_b56
    rw [if_neg (show ¬ (12 : Int32) ≤ nI i from nI_ge (b := 12) (by omega) (by omega)), if_pos hz, pz_cl (show i < 2 ^ 31 by omega), pz_succ]
    obtain ⟨u', b1, b2, b3⟩ := ih (i + 1) f (zs_sa u 1 (upd (zs_a u 1) i (nI i))) (by omega) (by omega) (fun j hj => by
      show upd (zs_a u 1) i (nI i) j = _
      rw [pz_upd]
      by_cases q : j = i
      · rw [if_pos q, q]
      · rw [if_neg q]; exact h1 j (by omega))
    exact ⟨u', by rw [hAG]; exact b1, (zg_ag.rf.sa (by decide)).tr b2, b3⟩
theorem st_ml {N : Nat} : ∀ (r i f : Nat) (u : zs_T), i + r = 12 → r < f → (∀ j, j < i → zs_a u 17 j = nI j) → ∃ u', zf_loop (fun ag x => fM9_init_b225 N (fun u v1 => ag (u, v1)) x.1 x.2) f (u, nI i) = some (zs_sa u' 3 (upd (zs_a u' 3) 0 1)) ∧ zg_ag [] [] [17] [] u u' ∧ ∀ j, j < 12 → zs_a u' 17 j = nI j := by
  intro r
  induction r with
  | zero =>
    intro i f u hi hf h1
    obtain ⟨f, rfl⟩ : ∃ f', f = f' + 1 := ⟨f - 1, by omega⟩
    obtain rfl : i = 12 := by omega
    rw [zf_loop_s]
    exact ⟨u, rfl, zg_ag.rf, h1⟩
  | succ r ih =>
    intro i f u hi hf h1
    obtain ⟨f, rfl⟩ : ∃ f', f = f' + 1 := ⟨f - 1, by omega⟩
    rw [zf_loop_s]
    obtain ⟨AG, hAG⟩ : ∃ A : zs_T → Int32 → Option zs_T, A = fun u v1 => zf_loop (fun ag x => fM9_init_b225 N (fun u v1 => ag (u, v1)) x.1 x.2) f (u, v1) := ⟨_, rfl⟩
    show ∃ u', fM9_init_b225 N (fun u v1 => zf_loop (fun ag x => fM9_init_b225 N (fun u v1 => ag (u, v1)) x.1 x.2) f (u, v1)) u (nI i) = _ ∧ _
    rw [← hAG]
    have hz : zf_in (nI i) 12 = true := pz_in (by omega) (by decide)
    unfold fM9_init_b225
    rw [if_neg (show ¬ (12 : Int32) ≤ nI i from nI_ge (b := 12) (by omega) (by omega)), if_pos hz, pz_cl (show i < 2 ^ 31 by omega), pz_succ]
    obtain ⟨u', b1, b2, b3⟩ := ih (i + 1) f (zs_sa u 17 (upd (zs_a u 17) i (nI i))) (by omega) (by omega) (fun j hj => by
      show upd (zs_a u 17) i (nI i) j = _
      rw [pz_upd]
      by_cases q : j = i
      · rw [if_pos q, q]
      · rw [if_neg q]; exact h1 j (by omega))
    exact ⟨u', by rw [hAG]; exact b1, (zg_ag.rf.sa (by decide)).tr b2, b3⟩
theorem b_start {N : Nat} (hN : 200 ≤ N) : ∃ zb zp zg z9, fXb5_init zs_0 = some zb ∧ fXp2_init ku_2 = some zp ∧ fXg1_init N zs_0 = some zg ∧ fM9_init N ku_9 = some z9 ∧ rb_I 0 (xs_0 zb zp zg) z9 := by
  obtain ⟨zb, b1, b2, b3, b4, b5⟩ := st_b
  obtain ⟨zp, p1, p2, p3, p4, p5, p6, p7, p8, p9⟩ := st_p
  obtain ⟨zg, g1, g2, g3⟩ := st_gl (N := N) 12 0 N zs_0 (by omega) (by omega) (fun j hj => by omega)
  obtain ⟨z9, m1, m2, m3⟩ := st_ml (N := N) 12 0 N ku_9 (by omega) (by omega) (fun j hj => by omega)
  refine ⟨zb, zp, zg, zs_sa z9 3 (upd (zs_a z9 3) 0 1), b1, p1, g1, m1, ?_⟩
  have mi : ∀ j, zs_i (zs_sa z9 3 (upd (zs_a z9 3) 0 1)) j = zs_i ku_9 j := fun j => m2.1 j (by simp)
  have ml : ∀ j, zs_l (zs_sa z9 3 (upd (zs_a z9 3) 0 1)) j = 0 := fun j => m2.2.1 j (by simp)
  have mb : ∀ j, zs_b (zs_sa z9 3 (upd (zs_a z9 3) 0 1)) j = fun _ => 0 := fun j => m2.2.2.2 j (by simp)
  have ma : ∀ j, j ≠ 3 → j ≠ 17 → zs_a (zs_sa z9 3 (upd (zs_a z9 3) 0 1)) j = fun _ => 0 := fun j h1 h2 => by
    rw [zs_a_sa', if_neg h1]
    exact m2.2.2.1 j (by simp; exact h2)
  have m17 : zs_a (zs_sa z9 3 (upd (zs_a z9 3) 0 1)) 17 = zs_a z9 17 := rfl
  refine ⟨0, 1, 0, 0, 0, 0, ?_, ?_, ?_, ?_, ?_, ?_⟩
  · refine ⟨rfl, by rw [mi]; rfl, by omega, fun j hj => ?_⟩
    rw [ma 0 (by decide) (by decide)]
    exact ⟨show (0 : Int32) = 0 &&& 255 by decide, show ((0 : Int32)).toInt8.toInt32 = 0 by decide⟩
  · refine ⟨⟨?_, ?_, ?_, ?_⟩, fun j h1 h2 => ?_⟩
    · rw [mi]; exact b2
    · rw [mi]; exact b3
    · rw [mi]; exact b4
    · rw [mi]; exact b5
    · rw [mi]
      rcases (show j = 2 ∨ j = 3 ∨ j = 4 ∨ j = 5 by omega) with z | z | z | z <;> subst z <;> exact ⟨by decide, by decide⟩
  · refine ⟨⟨p2, by rw [mi]; rfl, by omega, by omega⟩, ?_, ?_, ?_, ⟨rfl, by rw [mi]; rfl, by omega⟩, ?_, ?_, fun j hj => ?_, fun j hj => ?_, fun j hj => ?_⟩
    · rw [mi]; exact ⟨p4, by decide, by decide⟩
    · rw [mi]; exact ⟨p3, by decide, by decide⟩
    · rw [mi]; exact ⟨rfl, by decide, by decide⟩
    · rw [mi]; exact p5
    · rw [ml]; exact p6
    · rw [ma 2 (by decide) (by decide)]
      exact ⟨p7 j, by show (0 : Int) ≤ 0; omega, by show (0 : Int) ≤ 60000; omega⟩
    · obtain rfl : j = 0 := by omega
      rw [show zs_a (zs_sa z9 3 (upd (zs_a z9 3) 0 1)) 3 0 = 1 from rfl]
      exact ⟨p8 0 (by omega), by decide, by decide⟩
    · rw [ma 4 (by decide) (by decide)]
      exact ⟨p9 j, by show (0 : Int) ≤ 0; omega, by show (0 : Int) ≤ 100; omega⟩
  · exact ⟨rfl, by rw [mi]; rfl, by omega, fun j hj => by omega⟩
  · refine ⟨⟨rfl, by rw [mi]; rfl, by omega⟩, ⟨rfl, by rw [mi]; rfl, by omega⟩, ⟨by rw [mi]; rfl, Or.inl (by rw [mi]; rfl)⟩, fun s hs => by omega, fun s _ _ => ⟨rfl, rfl⟩, fun e he => by omega, fun i e he => ?_, fun k hk s hs => by omega⟩
    rw [pz_can0] at he
    cases he
  · have xg : ∀ j, j ≠ 1 → zs_a zg j = fun _ => 0 := fun j hj => g2.2.2.1 j (by simp; exact hj)
    have xb : ∀ j, zs_b zg j = fun _ => 0 := fun j => g2.2.2.2 j (by simp)
    refine ⟨fun o ho => ?_, ⟨List.range 12, List.Perm.refl _, fun i o h => ?_⟩, fun o ho => ?_, fun o ho => ?_, ?_⟩
    · show zs_a zg 1 o = zs_a z9 17 o
      rw [g3 o ho, m3 o ho]
    · show zs_a z9 17 i = nI o
      obtain ⟨h1, h2⟩ := List.getElem?_eq_some_iff.mp h
      rw [List.length_range] at h1
      rw [List.getElem_range] at h2
      rw [m3 i h1, h2]
    · rw [ma 18 (by decide) (by decide)]
      refine ⟨?_, by show (0 : Int) ≤ 0; omega, by show (0 : Int) ≤ _; omega⟩
      show zs_b zg 0 o = _
      rw [xb]
      rfl
    · rw [ma 19 (by decide) (by decide), mb, mb]
      show zs_a zg 0 o = 0 ∧ zs_b zg 1 o = 0 ∧ zs_b zg 2 o = 0
      rw [xg 0 (by decide), xb, xb]
      exact ⟨rfl, rfl, rfl⟩
    · rw [ml]
      show zs_l zg 0 = 0
      exact g2.2.1 0 (by simp)
