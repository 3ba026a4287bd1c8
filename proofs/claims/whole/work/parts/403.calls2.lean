theorem sb_height {N k : Nat} {x m : zs_T} (hI : rb_I k x m) (a1 a2 a3 a4 : Int32) : zl_height N x m (rb_I (k + 1)) a1 a2 a3 a4 := by
  have hM := rb_mono k x m hI
  obtain ⟨c, hh, d, w, S, n, hT, hR, hA, hP, hE, hL⟩ := id hM
  obtain ⟨q1, q2, q3, q4, q5, q6, q7, q8, q9, q10⟩ := id hA
  have hh6 := q1.2.2.2
  unfold zl_height fX8_height fM9_height
  rw [pf_has2 q1.1 q1.2.2.2, pf_mh q1.2.1 q1.2.2.2, pf_within, pf_within, pf_within, pf_b01, pf_b01, pf_b01, pf_b01, pf_b01]
  simp only [pz_le, pz_lt, Int32.reduceToInt]
  by_cases p0 : (0 ≤ a1.toInt ∧ a1.toInt < hh) ∧ (0 ≤ a2.toInt ∧ a2.toInt ≤ 60000) ∧ (1 ≤ a3.toInt ∧ a3.toInt ≤ 60000) ∧ (0 ≤ a4.toInt ∧ a4.toInt ≤ 100)
  · obtain ⟨p0, p1, p2, p3⟩ := p0
    obtain ⟨j, hj, rfl⟩ := pz_of p0.1
    rw [pz_nI hj] at p0
    have hz : zf_in (nI j) 6 = true := pz_in (by omega) (by decide)
    simp only [pz_nI hj, if_pos p0, if_pos p1, if_pos p2, if_pos p3, if_neg (show ¬ a2.toInt < 0 by omega), if_neg (show ¬ 60000 < a2.toInt by omega), if_neg (show ¬ a3.toInt < 1 by omega), if_neg (show ¬ 60000 < a3.toInt by omega), if_neg (show ¬ a4.toInt < 0 by omega), if_pos hz, pz_cl hj, if_pos p3.2]
    refine ⟨1, _, _, rfl, rfl, c, hh, d, w, S, n, hT, hR, ?_, hP, hE, hL⟩
    refine ⟨q1, q2, q3, q4, q5, q6, q7, fun i hi => ?_, fun i hi => ?_, fun i hi => ?_⟩
    · show upd (zs_a x 3) j a2 i = upd (zs_a m 2) j a2 i ∧ 0 ≤ (upd (zs_a m 2) j a2 i).toInt ∧ (upd (zs_a m 2) j a2 i).toInt ≤ 60000
      simp only [pz_upd]
      by_cases e : i = j
      · simp only [if_pos e]; exact ⟨trivial, p1⟩
      · simp only [if_neg e]; exact q8 i hi
    · show upd (zs_a x 4) j a3 i = upd (zs_a m 3) j a3 i ∧ 1 ≤ (upd (zs_a m 3) j a3 i).toInt ∧ (upd (zs_a m 3) j a3 i).toInt ≤ 60000
      simp only [pz_upd]
      by_cases e : i = j
      · simp only [if_pos e]; exact ⟨trivial, p2⟩
      · simp only [if_neg e]; exact q9 i hi
    · show upd (zs_a x 5) j a4 i = upd (zs_a m 4) j a4 i ∧ 0 ≤ (upd (zs_a m 4) j a4 i).toInt ∧ (upd (zs_a m 4) j a4 i).toInt ≤ 100
      simp only [pz_upd]
      by_cases e : i = j
      · simp only [if_pos e]; exact ⟨trivial, p3⟩
      · simp only [if_neg e]; exact q10 i hi
  · refine ⟨0, x, m, ?_, ?_, hM⟩
    · repeat' split
      all_goals first | rfl | (exfalso; omega)
    · repeat' split
      all_goals first | rfl | (exfalso; omega)
theorem pz_evs0 (O D : Nat → Int32) (s d : Nat) : pz_evs O D 0 s d = [] := by
  simp [pz_evs, pz_day]
theorem pz_can0 (D : Nat → Int32) (d : Nat) : pz_can D 0 d = [] := by
  simp [pz_can]
theorem sb_sheep {N k : Nat} {x m : zs_T} (hI : rb_I k x m) (a1 : Int32) : zl_sheep N x m (rb_I (k + 1)) a1 := by
  have hM := rb_mono k x m hI
  obtain ⟨c, hh, d, w, S, n, hT, hR, hA, hP, hE, hL⟩ := id hM
  obtain ⟨q1, q2, q3, q4, q5, q6, q7, q8⟩ := id hE
  have hS := q1.2.2
  have hn := q2.2.2
  unfold zl_sheep fX8_sheep fM9_sheep fX4_add
  rw [pf_isOwner, pf_b01]
  simp only [zs_i_si, zs_i_sl, zs_i_sa, zs_i_sb, zs_l_si, zs_l_sl, zs_l_sa, zs_l_sb, zs_a_si, zs_a_sl, zs_a_sa', zs_a_sb, zs_b_si, zs_b_sl, zs_b_sa, zs_b_sb, q1.1, q1.2.1, q2.1, q2.2.1]
  simp only [pz_le, pz_lt, pz_eq, Int32.reduceToInt, pz_nI (show S < 2 ^ 31 by omega), pz_nI (show n < 2 ^ 31 by omega)]
  by_cases p0 : (0 ≤ a1.toInt ∧ a1.toInt ≤ 11) ∧ S < 80 ∧ n = 0
  · obtain ⟨p0, p1, p2⟩ := p0
    subst p2
    have hz : zf_in (nI S) 80 = true := pz_in p1 (by decide)
    simp only [if_pos p0, if_neg (show ¬ (80 : Int) ≤ S by omega), if_neg (show ¬ a1.toInt < 0 by omega), if_neg (show ¬ (12 : Int) ≤ a1.toInt by omega), if_neg (show ¬ (S : Int) = 80 by omega), if_pos (show ((0 : Nat) : Int) ≤ 0 by omega), if_pos hz, zf_bi, pz_succ, if_true, reduceIte, pz_cl (show S < 2 ^ 31 by omega)]
    refine ⟨_, _, _, rfl, rfl, c, hh, d, w, S + 1, 0, hT, rb_R_of hR rfl (fun j h1 h2 => by simp only [zs_i_si, zs_i_sl, zs_i_sa, zs_i_sb, zs_l_si, zs_l_sl, zs_l_sa, zs_l_sb, zs_a_si, zs_a_sl, zs_a_sa', zs_a_sb, zs_b_si, zs_b_sl, zs_b_sa, zs_b_sb]; rw [if_neg (by omega)]), hA, hP, ?_, hL⟩
    refine ⟨⟨rfl, rfl, by omega⟩, q2, q3, fun s hs => ?_, fun s h1 h2 => ?_, fun e he => absurd he (Nat.not_lt_zero _), fun i e he => ?_, fun k hk s hs => ?_⟩
    · show (upd (zs_a x 11) S a1 s = upd (zs_a m 8) S a1 s ∧ 0 ≤ (upd (zs_a m 8) S a1 s).toInt ∧ (upd (zs_a m 8) S a1 s).toInt < 12) ∧ (zs_a x 12 s = upd (zs_a m 10) S 0 s ∧ zf_z (upd (zs_a m 10) S 0 s) = true) ∧ (zs_a x 19 s = upd (zs_a m 9) S 0 s ∧ 0 ≤ (upd (zs_a m 9) S 0 s).toInt ∧ (upd (zs_a m 9) S 0 s).toInt ≤ 5000)
      simp only [pz_upd]
      by_cases e : s = S
      · simp only [if_pos e]
        obtain ⟨b1, b2⟩ := q5 s (by omega) (by omega)
        exact ⟨⟨trivial, by omega, by omega⟩, ⟨b1, rfl⟩, b2, by decide, by decide⟩
      · simp only [if_neg e]; exact q4 s (by omega)
    · exact q5 s (by omega) h2
    · rw [pz_can0] at he; simp at he
    · rw [show k = 0 by omega, pz_evs0]; rfl
  · refine ⟨-1, x, m, ?_, ?_, hM⟩
    · repeat' split
      all_goals first | rfl | (exfalso; omega)
    · repeat' split
      all_goals first | rfl | (exfalso; omega)
theorem pf_abs1 {v f : Int32} (h1 : -1 ≤ v.toInt ∧ v.toInt ≤ 100) (h2 : -1 ≤ f.toInt ∧ f.toInt ≤ 100) : zr_iabs (v - f) = 1 ↔ (v.toInt - f.toInt = 1 ∨ f.toInt - v.toInt = 1) := by
  have e : (v - f).toInt = v.toInt - f.toInt := pz_sub (by omega) (by omega)
  unfold zr_iabs
  simp only [pz_le, Int32.reduceToInt, e]
  by_cases p : 0 ≤ v.toInt - f.toInt
  · rw [if_pos p, pz_eq, e]; show v.toInt - f.toInt = 1 ↔ _; omega
  · rw [if_neg p, pz_eq, pz_sub]
    · rw [e]; show 0 - (v.toInt - f.toInt) = 1 ↔ _; omega
    · rw [e]; show _ ≤ 0 - (v.toInt - f.toInt); omega
    · rw [e]; show 0 - (v.toInt - f.toInt) < _; omega
theorem pf_j33 (u : zs_T) (v : Int32) : fX2_canReach_j33 u v 1 = some (if (v = -1 ∨ zs_i u 5 = -1) ∧ 20 < zs_i u 4 then 0 else 1) ∧ fX2_canReach_j33 u v 0 = some 0 := by
  unfold fX2_canReach_j33 fX2_canReach_j47 fX2_canReach_j52 fX2_isOpen
  constructor
  · by_cases s1 : v = -1
    · by_cases s4 : 20 < zs_i u 4
      · simp [s1, s4, zf_bp]
      · simp [s1, s4, zf_bp]
    · by_cases s2 : zs_i u 5 = -1
      · by_cases s4 : 20 < zs_i u 4
        · simp [s1, s2, s4, zf_bp]
        · simp [s1, s2, s4, zf_bp]
      · simp [s1, s2]
  · simp
theorem pf_move {u : zs_T} {v : Int32} {hh : Nat} (h1 : zs_i u 3 = nI hh) (h2 : hh ≤ 6) (h3 : -1 ≤ (zs_i u 5).toInt ∧ (zs_i u 5).toInt < hh) : fX8_move u v = some (if (v.toInt = -1 ∨ 0 ≤ v.toInt ∧ v.toInt < hh) ∧ (v.toInt - (zs_i u 5).toInt = 1 ∨ (zs_i u 5).toInt - v.toInt = 1) ∧ ¬ ((v.toInt = -1 ∨ (zs_i u 5).toInt = -1) ∧ 20 < (zs_i u 4).toInt) then (1, zs_si u 5 v) else (0, u)) := by
  unfold fX8_move fX2_canReach
  rw [pf_has2 h1 h2]
  have key : (v.toInt = -1 ∨ 0 ≤ v.toInt ∧ v.toInt < hh) → (zf_bp (fX2_canReach_j15 u v) fun r1 => if r1 = 0 then some ((0 : Int32), u) else some (1, zs_si u 5 v)) = some (if (v.toInt - (zs_i u 5).toInt = 1 ∨ (zs_i u 5).toInt - v.toInt = 1) ∧ ¬ ((v.toInt = -1 ∨ (zs_i u 5).toInt = -1) ∧ 20 < (zs_i u 4).toInt) then (1, zs_si u 5 v) else (0, u)) := by
    intro p0
    unfold fX2_canReach_j15
    simp only [pf_abs1 (v := v) (f := zs_i u 5) (by omega) (by omega), (pf_j33 u v).1, (pf_j33 u v).2]
    simp only [pz_eq, pz_lt, Int32.reduceToInt]
    by_cases s3 : (v.toInt - (zs_i u 5).toInt = 1 ∨ (zs_i u 5).toInt - v.toInt = 1)
    · by_cases s4 : (v.toInt = -1 ∨ (zs_i u 5).toInt = -1) ∧ 20 < (zs_i u 4).toInt
      · rw [if_pos s3, if_pos s4, if_neg (fun h => h.2 s4)]; rfl
      · rw [if_pos s3, if_neg s4, if_pos ⟨s3, s4⟩]; rfl
    · rw [if_neg s3, if_neg (fun h => s3 h.1)]; rfl
  by_cases s1 : v = -1
  · have e : v.toInt = -1 := by rw [s1]; rfl
    rw [if_pos s1, key (Or.inl e)]
    have : (v.toInt = -1 ∨ 0 ≤ v.toInt ∧ v.toInt < hh) := Or.inl e
    simp only [this, true_and]
  · have e : ¬ v.toInt = -1 := fun q => s1 (pz_eq.mpr q)
    rw [if_neg s1]
    by_cases s5 : 0 ≤ v.toInt ∧ v.toInt < hh
    · rw [if_pos s5]
      show (zf_bp (zf_bp (some 1) fun r3 => if r3 = 0 then some 0 else fX2_canReach_j15 u v) _) = _
      have : (v.toInt = -1 ∨ 0 ≤ v.toInt ∧ v.toInt < hh) := Or.inr s5
      simp only [this, true_and]
      exact key this
    · rw [if_neg s5, if_neg (fun h => h.1.elim e s5)]
      rfl
theorem pf_mj83 (u : zs_T) (v p b : Int32) : fM9_move_j83 u v p b = some (if (¬ p = 0 ∧ zs_i u 8 ≤ 20) ∨ ¬ b = 0 then (1, zs_si u 7 v) else (0, u)) := by
  unfold fM9_move_j83
  by_cases s1 : p = 0
  · by_cases s2 : b = 0 <;> simp [s1, s2]
  · by_cases s2 : b = 0 <;> by_cases s3 : zs_i u 8 ≤ 20 <;> simp [s1, s2, s3]
theorem pf_mj44 (u : zs_T) (v p : Int32) : fM9_move_j44 u v p = some (if (¬ p = 0 ∧ zs_i u 8 ≤ 20) ∨ (¬ zs_i u 7 = -1 ∧ ¬ v = -1 ∧ (v = zs_i u 7 + 1 ∨ v = zs_i u 7 - 1)) then (1, zs_si u 7 v) else (0, u)) := by
  unfold fM9_move_j44 fM9_move_j78 fM9_move_j82
  rw [pf_mj83, pf_mj83]
  by_cases s1 : zs_i u 7 = -1
  · simp [s1]
  · by_cases s2 : v = -1
    · simp [s1, s2]
    · by_cases s3 : v = zs_i u 7 + 1
      · rw [if_neg s1, if_neg s2, if_pos s3, if_pos (Or.inr (by decide)), if_pos (Or.inr ⟨s1, s2, Or.inl s3⟩)]
      · by_cases s4 : v = zs_i u 7 - 1
        · rw [if_neg s1, if_neg s2, if_neg s3, if_pos s4, if_pos (Or.inr (by decide)), if_pos (Or.inr ⟨s1, s2, Or.inr s4⟩)]
        · rw [if_neg s1, if_neg s2, if_neg s3, if_neg s4]
          have e1 : ((¬ p = 0 ∧ zs_i u 8 ≤ 20) ∨ ¬ (0 : Int32) = 0) ↔ (¬ p = 0 ∧ zs_i u 8 ≤ 20) := by simp
          have e2 : ((¬ p = 0 ∧ zs_i u 8 ≤ 20) ∨ (¬ zs_i u 7 = -1 ∧ ¬ v = -1 ∧ (v = zs_i u 7 + 1 ∨ v = zs_i u 7 - 1))) ↔ (¬ p = 0 ∧ zs_i u 8 ≤ 20) := ⟨fun h => h.elim id (fun h => absurd h.2.2 (fun h => h.elim s3 s4)), Or.inl⟩
          simp only [e2, not_true_eq_false, or_false]
theorem pf_mmove {u : zs_T} {v : Int32} {hh : Nat} (h1 : zs_i u 6 = nI hh) (h2 : hh ≤ 6) (h3 : -1 ≤ (zs_i u 7).toInt ∧ (zs_i u 7).toInt < hh) : fM9_move u v = some (if (v.toInt = -1 ∨ 0 ≤ v.toInt ∧ v.toInt < hh) ∧ (v.toInt - (zs_i u 7).toInt = 1 ∨ (zs_i u 7).toInt - v.toInt = 1) ∧ ¬ ((v.toInt = -1 ∨ (zs_i u 7).toInt = -1) ∧ 20 < (zs_i u 8).toInt) then (1, zs_si u 7 v) else (0, u)) := by
  have f1 : (zs_i u 7 + 1).toInt = (zs_i u 7).toInt + 1 := pz_add (by show _ ≤ _ + (1 : Int); omega) (by show _ + (1 : Int) < _; omega)
  have f2 : (zs_i u 7 - 1).toInt = (zs_i u 7).toInt - 1 := pz_sub (by show _ ≤ _ - (1 : Int); omega) (by show _ - (1 : Int) < _; omega)
  have key : (v.toInt = -1 ∨ 0 ≤ v.toInt ∧ v.toInt < hh) → fM9_move_j15 u v = some (if (v.toInt - (zs_i u 7).toInt = 1 ∨ (zs_i u 7).toInt - v.toInt = 1) ∧ ¬ ((v.toInt = -1 ∨ (zs_i u 7).toInt = -1) ∧ 20 < (zs_i u 8).toInt) then (1, zs_si u 7 v) else (0, u)) := by
    intro p0
    unfold fM9_move_j15 fM9_move_j27 fM9_move_j39 fM9_move_j43
    rw [pf_mj44, pf_mj44]
    simp only [pz_eq, pz_le, Int32.reduceToInt, f1, f2]
    repeat' split
    all_goals first | rfl | (exfalso; omega) | (exfalso; simp at *; omega)
  unfold fM9_move
  rw [pf_mh h1 h2]
  by_cases s1 : v = -1
  · have e : v.toInt = -1 := by rw [s1]; rfl
    rw [if_pos s1, key (Or.inl e)]
    have : (v.toInt = -1 ∨ 0 ≤ v.toInt ∧ v.toInt < hh) := Or.inl e
    simp only [this, true_and]
  · have e : ¬ v.toInt = -1 := fun q => s1 (pz_eq.mpr q)
    rw [if_neg s1]
    by_cases s5 : 0 ≤ v.toInt ∧ v.toInt < hh
    · rw [if_pos s5]
      have : (v.toInt = -1 ∨ 0 ≤ v.toInt ∧ v.toInt < hh) := Or.inr s5
      simp only [this, true_and]
      exact key this
    · rw [if_neg s5, if_neg (fun h => h.1.elim e s5)]
      rfl
theorem sb_move {N k : Nat} {x m : zs_T} (hI : rb_I k x m) (a1 : Int32) : zl_move N x m (rb_I (k + 1)) a1 := by
  have hM := rb_mono k x m hI
  obtain ⟨c, hh, d, w, S, n, hT, hR, hA, hP, hE, hL⟩ := id hM
  obtain ⟨q1, q2, q3, q4⟩ := id hA
  have hx := pf_move (u := x) (v := a1) q1.1 q1.2.2.2 (by rw [q2.1]; exact q2.2)
  have hm := pf_mmove (u := m) (v := a1) q1.2.1 q1.2.2.2 q2.2
  rw [q2.1, q3.1] at hx
  unfold zl_move
  rw [hx, hm]
  by_cases p : (a1.toInt = -1 ∨ 0 ≤ a1.toInt ∧ a1.toInt < hh) ∧ (a1.toInt - (zs_i m 7).toInt = 1 ∨ (zs_i m 7).toInt - a1.toInt = 1) ∧ ¬ ((a1.toInt = -1 ∨ (zs_i m 7).toInt = -1) ∧ 20 < (zs_i m 8).toInt)
  · rw [if_pos p, if_pos p]
    refine ⟨1, _, _, rfl, rfl, c, hh, d, w, S, n, hT, rb_R_of hR rfl (fun j h1 h2 => by rw [zs_i_si, if_neg (by omega)]), ⟨q1, ⟨rfl, ?_, ?_⟩, q3, q4⟩, hP, hE, hL⟩
    · show -1 ≤ a1.toInt; omega
    · show a1.toInt < hh; omega
  · rw [if_neg p, if_neg p]
    exact ⟨0, x, m, rfl, rfl, hM⟩
