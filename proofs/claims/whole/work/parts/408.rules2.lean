theorem pr_let {b : Int32} (hb : b.toInt8.toInt32 = b) : ∃ w, fX5_letterOf (b &&& 255) = some w ∧ fM9_letterOf b = some w ∧ (w = -1 ∨ ∃ i, i < 4 ∧ w = nI i) := by
  unfold fX5_letterOf fM9_letterOf
  have e1 : b &&& 255 = 108 ↔ b = 108 := pr_eq hb (k := 108) (by decide)
  have e2 : b &&& 255 = 109 ↔ b = 109 := pr_eq hb (k := 109) (by decide)
  have e3 : b &&& 255 = 118 ↔ b = 118 := pr_eq hb (k := 118) (by decide)
  have e4 : b &&& 255 = 119 ↔ b = 119 := pr_eq hb (k := 119) (by decide)
  simp only [e1, e2, e3, e4]
  by_cases s1 : b = 108
  · exact ⟨0, by rw [if_pos s1], by rw [if_pos s1], Or.inr ⟨0, by decide, rfl⟩⟩
  · by_cases s2 : b = 109
    · exact ⟨1, by rw [if_neg s1, if_pos s2], by rw [if_neg s1, if_pos s2], Or.inr ⟨1, by decide, rfl⟩⟩
    · by_cases s3 : b = 118
      · exact ⟨3, by rw [if_neg s1, if_neg s2, if_pos s3], by rw [if_neg s1, if_neg s2, if_neg (by rw [s3]; decide), if_pos s3], Or.inr ⟨3, by decide, rfl⟩⟩
      · by_cases s4 : b = 119
        · exact ⟨2, by rw [if_neg s1, if_neg s2, if_neg s3, if_pos s4], by rw [if_neg s1, if_neg s2, if_pos s4], Or.inr ⟨2, by decide, rfl⟩⟩
        · exact ⟨-1, by rw [if_neg s1, if_neg s2, if_neg s3, if_neg s4], by rw [if_neg s1, if_neg s2, if_neg s4, if_neg s3], Or.inl rfl⟩
/-- the reference's digits -/
theorem pr_mi {N n p : Nat} {m : zs_T} {w : Int32} (hn : n ≤ 40) (hp : p ≤ 40) (ag2 : zs_T → Int32 → Option (Int32 × zs_T)) : ∀ r f j, r < f → j + r = pr_len m n 4 p → zf_loop (fun ag x => fM9_parse_b56 N ag2 m (nI n) w (fun v2 v4 v5 => ag (v2, v4, v5)) x.1 x.2.1 x.2.2) f (nI (p + j), nI (pr_val m p j), nI j) = if pr_len m n 4 p = 4 ∧ p + 4 < n ∧ 48 ≤ (zs_a m 0 (p + 4)).toInt ∧ (zs_a m 0 (p + 4)).toInt ≤ 57 then some (300 + nI (p + 4), m) else fM9_parse_j107 N ag2 m (nI n) (nI (p + pr_len m n 4 p)) w (nI (pr_val m p (pr_len m n 4 p))) := by
  intro r
  have hle := pr_len_le m n 4 p
  have hd := pr_len_d m n 4 p
  induction r with
  | zero =>
    intro f j hf hj
    obtain ⟨g, rfl⟩ : ∃ g, f = g + 1 := ⟨f - 1, by omega⟩
    rw [zf_loop_s]
    show fM9_parse_b56 N ag2 m (nI n) w _ (nI (p + j)) (nI (pr_val m p j)) (nI j) = _
    unfold fM9_parse_b56
    rw [pr_isDm hn (by omega), pf_b01]
    have hj2 : j = pr_len m n 4 p := by omega
    by_cases q : p + j < n ∧ 48 ≤ (zs_a m 0 (p + j)).toInt ∧ (zs_a m 0 (p + j)).toInt ≤ 57
    · have h4 : pr_len m n 4 p = 4 := by
        rcases Nat.lt_or_ge (pr_len m n 4 p) 4 with z | z
        · exact absurd (by rw [← hj2]; exact q) (pr_len_e m n 4 p z)
        · omega
      have hj4 : j = 4 := by omega
      subst hj4
      rw [if_pos q, if_pos (by rfl), if_pos ⟨h4, q⟩]
    · rw [if_neg q, if_neg, ← hj2]
      intro h
      apply q
      rw [hj2, h.1]
      exact h.2
  | succ r ih =>
    intro f j hf hj
    obtain ⟨g, rfl⟩ : ∃ g, f = g + 1 := ⟨f - 1, by omega⟩
    rw [zf_loop_s]
    show fM9_parse_b56 N ag2 m (nI n) w (fun v2 v4 v5 => zf_loop _ g (v2, v4, v5)) (nI (p + j)) (nI (pr_val m p j)) (nI j) = _
    unfold fM9_parse_b56
    have q := hd j (by omega)
    have hz : zf_in (nI (p + j)) 40 = true := pz_in (by omega) (by decide)
    rw [pr_isDm hn (by omega), pf_b01, if_pos q, if_neg (fun h => by have := (nI_eq (a := j) (b := 4) (by omega) (by decide)).mp h; omega), if_pos hz, pz_cl (by omega), pr_val_s (fun j h => hd j h) (by omega) hle rfl, pz_succ, pz_succ]
    exact ih g (j + 1) (by omega) (by omega)
/-- what comes of a text: both alike -/
def pr_R (xs ms : zs_T) (r : Int32) (x' m' : zs_T) : Prop := zg_ag [] [] [1, 2] [] xs x' ∧ zg_ag [] [] [1] [] ms m' ∧ ((r = 0 ∧ ∀ i, i < 4 → zs_a x' 1 i = zs_a m' 1 i ∧ 0 ≤ (zs_a m' 1 i).toInt ∧ (zs_a m' 1 i).toInt ≤ 9999) ∨ (¬ r = 0 ∧ zs_a x' 1 = zs_a xs 1))
theorem pr_ne {a b : Nat} (ha : 0 < a) (ha2 : a ≤ 400) (hb : b ≤ 50) : ¬ nI a + nI b = 0 := by
  rw [nI_add]; exact nI_ne0 (by omega) (by omega)
set_option maxHeartbeats 1000000 in
theorem pr_join {N n : Nat} (hN : 50 ≤ N) (hn : n ≤ 40) : ∀ (D at' : Nat), 41 - at' ≤ D → at' ≤ 40 → ∀ (fx fm : Nat) (xs ms : zs_T), 41 - at' < fx → 41 - at' < fm → pr_T xs ms → (∀ i, i < 4 → zs_a xs 2 i = zs_a ms 1 i ∧ 0 ≤ (zs_a ms 1 i).toInt ∧ (zs_a ms 1 i).toInt ≤ 9999) → ∃ r x' m', zf_loop (fun ag x => fX5_read_b9 N (nI n) (fun u v3 => ag (u, v3)) x.1 x.2) fx (xs, nI at') = some (r, x') ∧ zf_loop (fun ag x => fM9_parse_b2 N (nI n) (fun u v2 => ag (u, v2)) x.1 x.2) fm (ms, nI at') = some (r, m') ∧ pr_R xs ms r x' m' := by
  intro D
  induction D with
  | zero => intro a h1 h2; omega
  | succ D ih =>
    intro a hD ha fx fm xs ms hfx hfm hT hS
    obtain ⟨gx, rfl⟩ : ∃ g, fx = g + 1 := ⟨fx - 1, by omega⟩
    obtain ⟨gm, rfl⟩ : ∃ g, fm = g + 1 := ⟨fm - 1, by omega⟩
    rw [zf_loop_s, zf_loop_s]
    obtain ⟨AX, hAX⟩ : ∃ A : zs_T → Int32 → Option (Int32 × zs_T), A = fun u v3 => zf_loop (fun ag x => fX5_read_b9 N (nI n) (fun u v3 => ag (u, v3)) x.1 x.2) gx (u, v3) := ⟨_, rfl⟩
    obtain ⟨AM, hAM⟩ : ∃ A : zs_T → Int32 → Option (Int32 × zs_T), A = fun u v2 => zf_loop (fun ag x => fM9_parse_b2 N (nI n) (fun u v2 => ag (u, v2)) x.1 x.2) gm (u, v2) := ⟨_, rfl⟩
    show ∃ r x' m', fX5_read_b9 N (nI n) (fun u v3 => zf_loop (fun ag x => fX5_read_b9 N (nI n) (fun u v3 => ag (u, v3)) x.1 x.2) gx (u, v3)) xs (nI a) = some (r, x') ∧ fM9_parse_b2 N (nI n) (fun u v2 => zf_loop (fun ag x => fM9_parse_b2 N (nI n) (fun u v2 => ag (u, v2)) x.1 x.2) gm (u, v2)) ms (nI a) = some (r, m') ∧ _
    rw [← hAX, ← hAM]
    have f1 : (zf_bp (fX5_fault 1 (nI a)) fun r => some (r, xs)) = some (100 + nI a, xs) := rfl
    have bad : pr_R xs ms (100 + nI a) xs ms := ⟨zg_ag.rf, zg_ag.rf, Or.inr ⟨pr_ne (a := 100) (by decide) (by decide) (by omega), rfl⟩⟩
    unfold fX5_read_b9 fM9_parse_b2
    by_cases q : n ≤ a
    · rw [if_pos (nI_le q (by omega)), if_pos (nI_le q (by omega))]
      exact ⟨100 + nI a, xs, ms, f1, rfl, bad⟩
    · have hz : zf_in (nI a) 40 = true := pz_in (by omega) (by decide)
      rw [if_neg (nI_ge (by omega) (by omega)), if_neg (nI_ge (by omega) (by omega)), if_pos hz, if_pos hz, pz_cl (by omega), (hT a (by omega)).1]
      obtain ⟨w, hw1, hw2, hw3⟩ := pr_let (hT a (by omega)).2
      rw [hw1, hw2, zf_bp_s, zf_bp_s]
      unfold fM9_parse_j20
      by_cases s1 : w = -1
      · rw [if_pos s1, if_pos s1]
        exact ⟨100 + nI a, xs, ms, f1, rfl, bad⟩
      · obtain ⟨i, hi, rfl⟩ := hw3.resolve_left s1
        rw [if_neg s1, if_neg s1, pz_succ, pr_dE hN hT hn (by omega), pr_isDm hn (by omega), zf_bp_s, pf_b01]
        have hle := pr_len_le ms n 4 (a + 1)
        have hd := pr_len_d ms n 4 (a + 1)
        have he := pr_len_e ms n 4 (a + 1)
        have hl0 : pr_len ms n 4 (a + 1) = 0 ↔ ¬ (a + 1 < n ∧ 48 ≤ (zs_a ms 0 (a + 1)).toInt ∧ (zs_a ms 0 (a + 1)).toInt ≤ 57) := by
          constructor
          · intro h; have := he (by omega); rw [h] at this; exact this
          · intro h; unfold pr_len; rw [if_neg h]
        generalize ht : pr_len ms n 4 (a + 1) = t at hle hd he hl0
        by_cases s2 : t = 0
        · subst s2
          rw [if_pos rfl, if_neg (hl0.mp rfl)]
          exact ⟨200 + nI (a + 1), xs, ms, rfl, rfl, zg_ag.rf, zg_ag.rf, Or.inr ⟨pr_ne (a := 200) (by decide) (by decide) (by omega), rfl⟩⟩
        · have hpos : a + 1 < n ∧ 48 ≤ (zs_a ms 0 (a + 1)).toInt ∧ (zs_a ms 0 (a + 1)).toInt ≤ 57 := Classical.not_not.mp (fun h => s2 (hl0.mpr h))
          have hlast := hd (t - 1) (by omega)
          rw [if_neg (fun h => s2 (by have := (nI_eq (a := a + 1 + t) (b := a + 1) (by omega) (by omega)).mp h; omega)), if_pos hpos, pr_nA hN hT hn hle hd (by omega), zf_bp_s]
          have hz4 : zf_in (nI i) 4 = true := pz_in hi (by decide)
          have hv := pr_val_le hd t (Nat.le_refl _)
          have hv4 : 10 ^ t ≤ 10 ^ 4 := Nat.pow_le_pow_right (by decide) hle
          have hmi := pr_mi (N := N) (m := ms) (w := nI i) hn (p := a + 1) (by omega) AM t N 0 (by omega) (by omega)
          rw [ht] at hmi
          have hS' : ∀ j, j < 4 → zs_a (zs_sa xs 2 (upd (zs_a xs 2) i (nI (pr_val ms (a + 1) t)))) 2 j = zs_a (zs_sa ms 1 (upd (zs_a ms 1) i (nI (pr_val ms (a + 1) t)))) 1 j ∧ 0 ≤ (zs_a (zs_sa ms 1 (upd (zs_a ms 1) i (nI (pr_val ms (a + 1) t)))) 1 j).toInt ∧ (zs_a (zs_sa ms 1 (upd (zs_a ms 1) i (nI (pr_val ms (a + 1) t)))) 1 j).toInt ≤ 9999 := by
            intro j hj
            show upd (zs_a xs 2) i _ j = upd (zs_a ms 1) i _ j ∧ 0 ≤ (upd (zs_a ms 1) i _ j).toInt ∧ (upd (zs_a ms 1) i _ j).toInt ≤ 9999
            simp only [pz_upd]
            by_cases e : j = i
            · simp only [if_pos e]
              rw [pz_nI (by omega)]
              exact ⟨trivial, by omega, by omega⟩
            · simp only [if_neg e]; exact hS j hj
          rw [if_pos hz4, pz_cl (show i < 2 ^ 31 by omega)]
          by_cases s3 : a + 1 + t < n
          · have hz5 : zf_in (nI (a + 1 + t)) 40 = true := pz_in (by omega) (by decide)
            rw [if_pos (nI_lt s3 (by omega)), if_pos hz5, if_pos hz5, pz_cl (show a + 1 + t < 2 ^ 31 by omega)]
            rw [show zs_a (zs_sa xs 2 (upd (zs_a xs 2) i (nI (pr_val ms (a + 1) t)))) 0 = zs_a xs 0 from rfl, (hT (a + 1 + t) (by omega)).1, pr_isDx _ (hT (a + 1 + t) (by omega)).2, pf_b01]
            by_cases s4 : 48 ≤ (zs_a ms 0 (a + 1 + t)).toInt ∧ (zs_a ms 0 (a + 1 + t)).toInt ≤ 57
            · have h4 : t = 4 := by
                rcases Nat.lt_or_ge t 4 with z | z
                · exact absurd ⟨s3, s4⟩ (he z)
                · omega
              subst h4
              rw [if_pos s4]
              refine ⟨300 + nI (a + 1 + 4), _, ms, rfl, ?_, zg_ag.rf.sa (by decide), zg_ag.rf, Or.inr ⟨pr_ne (a := 300) (by decide) (by decide) (by omega), rfl⟩⟩
              refine hmi.trans ?_
              rw [if_pos ⟨rfl, s3, s4⟩]
            · have hne : ¬ (t = 4 ∧ a + 1 + 4 < n ∧ 48 ≤ (zs_a ms 0 (a + 1 + 4)).toInt ∧ (zs_a ms 0 (a + 1 + 4)).toInt ≤ 57) := by
                rintro ⟨rfl, -, h⟩
                exact s4 h
              have e59 : zs_a ms 0 (a + 1 + t) &&& 255 = 59 ↔ zs_a ms 0 (a + 1 + t) = 59 := pr_eq (hT (a + 1 + t) (by omega)).2 (k := 59) (by decide)
              rw [if_neg s4]
              simp only [e59]
              rw [if_neg hne] at hmi
              unfold fM9_parse_j107 at hmi
              rw [if_pos hz4, if_neg (fun h => by have := (nI_eq (a := a + 1 + t) (b := n) (by omega) (by omega)).mp h; omega), if_pos hz5, pz_cl (show a + 1 + t < 2 ^ 31 by omega), pz_cl (show i < 2 ^ 31 by omega)] at hmi
              rw [show zs_a (zs_sa ms 1 (upd (zs_a ms 1) i (nI (pr_val ms (a + 1) t)))) 0 = zs_a ms 0 from rfl] at hmi
              by_cases s5 : zs_a ms 0 (a + 1 + t) = 59
              · rw [if_pos s5, pz_succ]
                rw [if_pos s5, pz_succ] at hmi
                obtain ⟨r, x', m', g1, g2, g3, g4, g5⟩ := ih (a + 1 + t + 1) (by omega) (by omega) gx gm _ _ (by omega) (by omega) (show pr_T (zs_sa xs 2 (upd (zs_a xs 2) i (nI (pr_val ms (a + 1) t)))) (zs_sa ms 1 (upd (zs_a ms 1) i (nI (pr_val ms (a + 1) t)))) from hT) hS'
                exact ⟨r, x', m', by rw [hAX]; exact g1, hmi.trans (by rw [hAM]; exact g2), (zg_ag.rf.sa (by decide)).tr g3, (zg_ag.rf.sa (by decide)).tr g4, g5⟩
              · rw [if_neg s5]
                rw [if_neg s5] at hmi
                exact ⟨400 + nI (a + 1 + t), _, _, rfl, hmi, zg_ag.rf.sa (by decide), zg_ag.rf.sa (by decide), Or.inr ⟨pr_ne (a := 400) (by decide) (by decide) (by omega), rfl⟩⟩
          · have hend : a + 1 + t = n := by omega
            have hne : ¬ (t = 4 ∧ a + 1 + 4 < n ∧ 48 ≤ (zs_a ms 0 (a + 1 + 4)).toInt ∧ (zs_a ms 0 (a + 1 + 4)).toInt ≤ 57) := by
              rintro ⟨rfl, h, -⟩
              omega
            rw [if_neg (nI_nlt (by omega) (by omega))]
            rw [if_neg hne] at hmi
            unfold fM9_parse_j107 at hmi
            rw [if_pos hz4, hend, if_pos rfl, pz_cl (show i < 2 ^ 31 by omega)] at hmi
            unfold fX5_read_j84
            rw [if_pos (by decide)]
            refine ⟨0, _, _, rfl, hmi, (zg_ag.rf.sa (by decide)).sa (by decide), zg_ag.rf.sa (by decide), Or.inl ⟨rfl, fun j hj => ?_⟩⟩
            refine ⟨?_, (hS' j hj).2⟩
            refine Eq.trans ?_ (hS' j hj).1
            show va_cpy _ _ 0 0 4 j = _
            simp [va_cpy, hj]
