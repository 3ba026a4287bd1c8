def px_dn (D : Nat → Int32) (e : Nat) : Nat := (D e).toInt.toNat
def px_step (W T D : Nat → Int32) (t : px_S) (e : Nat) : px_S := (pz_do W T t.1 e, (px_t t (px_dn D e)).2)
def px_run (W T D : Nat → Int32) (t : px_S) (l : List Nat) : px_S := l.foldl (px_step W T D) t
def px_rl (O D : Nat → Int32) (k s last : Nat) (l : List Nat) : List Nat := (l.takeWhile (fun e => decide (px_dn D e ≤ last))).filter (fun e => decide (e < k) && O e == nI s)
/-- the register's entries are W O D T -/
def px_E (n S : Nat) (W O D T : Nat → Int32) (u : zs_T) : Prop := zs_i u 13 = nI n ∧ n ≤ 100 ∧ ∀ e, e < n → (zs_a u 13 e = W e ∧ zs_a u 14 e = O e ∧ zs_a u 15 e = D e ∧ zs_a u 16 e = T e) ∧ (0 ≤ (W e).toInt ∧ (W e).toInt < 4) ∧ (1 ≤ (D e).toInt ∧ (D e).toInt ≤ 150) ∧ (W e = 3 → 0 ≤ (T e).toInt ∧ (T e).toInt < 12)
theorem px_E.ag {n S : Nat} {W O D T : Nat → Int32} {u v : zs_T} (h : px_E n S W O D T u) (ha : px_ag u v) : px_E n S W O D T v := by
  unfold px_E
  rw [ha.1 13 (by decide), ha.2.2.1 13 (by decide), ha.2.2.1 14 (by decide), ha.2.2.1 15 (by decide), ha.2.2.1 16 (by decide)]
  exact h
theorem px_dnI {D : Nat → Int32} {e : Nat} (h : 1 ≤ (D e).toInt ∧ (D e).toInt ≤ 150) : D e = nI (px_dn D e) ∧ 1 ≤ px_dn D e ∧ px_dn D e ≤ 150 := by
  unfold px_dn
  refine ⟨pz_eq.mpr ?_, by omega, by omega⟩
  rw [pz_nI (by omega)]
  omega
theorem px_end {N : Nat} {u : zs_T} {t : px_S} {last : Nat} (h : px_R u t) (hf : t.2.2.1 ≤ last + 1) (hl : last ≤ 150) : ∃ u', (zf_bv (fX7_tallyBefore u (nI last + 1)) fun u4 => some ((1 : Int32), u4)) = some (1, u') ∧ px_ag u u' ∧ px_R u' (px_t t (last + 1)) := by
  obtain ⟨u', a1, a2, a3⟩ := px_tally h hf (by omega)
  rw [pz_succ, a1]
  exact ⟨u', rfl, a2, a3⟩
set_option maxHeartbeats 1000000 in
theorem px_loop {N n S k s last : Nat} {W O D T : Nat → Int32} (hk : k ≤ n) (hl : last ≤ 150) (hs : s < 80) : ∀ (l : List Nat) (i f : Nat) (u : zs_T) (t : px_S), (∀ j e, l[j]? = some e → zs_a u 17 (i + j) = nI e ∧ e < n) → i + l.length = n → l.length < f → px_R u t → l.Pairwise (fun a b => px_dn D a ≤ px_dn D b) → (∀ e ∈ l, t.2.2.1 ≤ px_dn D e) → t.2.2.1 ≤ last + 1 → px_E n S W O D T u → ∃ r u', zf_loop (fun ag x => fX7_replay_b19 N (nI s) (nI k) (nI last) (fun u v5 => ag (u, v5)) x.1 x.2) f (u, nI i) = some (r, u') ∧ px_ag u u' ∧ (pz_ok W T t.1 (px_rl O D k s last l) = true → r = 1 ∧ px_R u' (px_t (px_run W T D t (px_rl O D k s last l)) (last + 1))) ∧ (pz_ok W T t.1 (px_rl O D k s last l) = false → r = 0) := by
  intro l
  induction l with
  | nil =>
    intro i f u t ho hi hf hR hsrt hge hfl hE
    obtain ⟨f, rfl⟩ : ∃ f', f = f' + 1 := ⟨f - 1, by omega⟩
    have hn := hE.2.1
    simp only [List.length_nil] at hi
    rw [zf_loop_s]
    obtain ⟨u', a1, a2, a3⟩ := px_end (N := N) hR hfl hl
    refine ⟨1, u', ?_, a2, fun _ => ⟨rfl, a3⟩, fun h => by simp [px_rl, pz_ok] at h⟩
    show fX7_replay_b19 N (nI s) (nI k) (nI last) _ u (nI i) = _
    unfold fX7_replay_b19
    rw [hE.1, if_pos (nI_le (by omega) (by omega))]
    exact a1
  | cons e l ih =>
    intro i f u t ho hi hf hR hsrt hge hfl hE
    obtain ⟨f, rfl⟩ : ∃ f', f = f' + 1 := ⟨f - 1, by omega⟩
    have hn := hE.2.1
    simp only [List.length_cons] at hi hf
    obtain ⟨o1, o2⟩ := ho 0 e rfl
    rw [Nat.add_zero] at o1
    obtain ⟨⟨w1, w2, w3, w4⟩, w5, w6, w7⟩ := hE.2.2 e o2
    obtain ⟨g1, g2, g3⟩ := px_dnI w6
    have hgf := hge e List.mem_cons_self
    rw [List.pairwise_cons] at hsrt
    rw [zf_loop_s]
    obtain ⟨AG, hAG⟩ : ∃ A : zs_T → Int32 → Option (Int32 × zs_T), A = fun u v5 => zf_loop (fun ag x => fX7_replay_b19 N (nI s) (nI k) (nI last) (fun u v5 => ag (u, v5)) x.1 x.2) f (u, v5) := ⟨_, rfl⟩
    show ∃ r u', fX7_replay_b19 N (nI s) (nI k) (nI last) (fun u v5 => zf_loop (fun ag x => fX7_replay_b19 N (nI s) (nI k) (nI last) (fun u v5 => ag (u, v5)) x.1 x.2) f (u, v5)) u (nI i) = some (r, u') ∧ _
    rw [← hAG]
    have hzi : zf_in (nI i) 100 = true := pz_in (by omega) (by decide)
    have hze : zf_in (nI e) 100 = true := pz_in (by omega) (by decide)
    have next : ∀ (u1 : zs_T) (t1 : px_S), px_ag u u1 → px_R u1 t1 → t1.2.2.1 ≤ px_dn D e ∨ t1 = t → t1.2.2.1 ≤ last + 1 → ∃ r u', AG u1 (nI (i + 1)) = some (r, u') ∧ px_ag u u' ∧ (pz_ok W T t1.1 (px_rl O D k s last l) = true → r = 1 ∧ px_R u' (px_t (px_run W T D t1 (px_rl O D k s last l)) (last + 1))) ∧ (pz_ok W T t1.1 (px_rl O D k s last l) = false → r = 0) := by
      intro u1 t1 ha hR1 hle hfl1
      obtain ⟨r, u', b1, b2, b3⟩ := ih (i + 1) f u1 t1 (fun j e' h => by
        have := ho (j + 1) e' (by rw [List.getElem?_cons_succ]; exact h)
        rw [ha.2.2.1 17 (by decide), show i + 1 + j = i + (j + 1) by omega]
        exact this) (by omega) (by omega) hR1 hsrt.2 (fun e' he' => by
          rcases hle with z | z
          · exact Nat.le_trans z (hsrt.1 e' he')
          · rw [z]; exact hge e' (List.mem_cons_of_mem _ he')) hfl1 (hE.ag ha)
      exact ⟨r, u', by rw [hAG]; exact b1, ha.tr b2, b3⟩
    unfold fX7_replay_b19
    rw [hE.1, if_neg (nI_ge (by omega) (by omega)), if_pos hzi, pz_cl (show i < 2 ^ 31 by omega), o1, if_pos hze, pz_cl (show e < 2 ^ 31 by omega), w3, g1, pz_succ]
    by_cases p1 : px_dn D e ≤ last
    · rw [if_pos (nI_le p1 (by omega))]
      by_cases p2 : k ≤ e
      · rw [if_pos (nI_le p2 (by omega))]
        have hrl : px_rl O D k s last (e :: l) = px_rl O D k s last l := by
          unfold px_rl
          rw [List.takeWhile_cons_of_pos (by simp [p1]), List.filter_cons_of_neg (by simp; intro z; omega)]
        rw [hrl]
        exact next u t zg_ag.rf hR (Or.inr rfl) hfl
      · rw [if_neg (nI_ge (by omega) (by omega)), if_pos hze, w2]
        by_cases p3 : O e = nI s
        · rw [if_pos p3, if_pos hze, if_pos hze, w1, w4, px_fits (by have := hR.2.2.2.2.2.2.1; rw [← hR.1] at this; exact this), pf_b01, if_pos hze]
          have hrl : px_rl O D k s last (e :: l) = e :: px_rl O D k s last l := by
            unfold px_rl
            rw [List.takeWhile_cons_of_pos (by simp [p1]), List.filter_cons_of_pos (by simp [p3]; omega)]
          rw [hrl, pz_ok, hR.1]
          by_cases p4 : pz_fit W T t.1 e = true
          · rw [if_pos p4, p4, Bool.true_and]
            obtain ⟨u1, c1, c2, c3⟩ := px_tally hR hgf (by omega)
            rw [c1, zf_bv_s, if_pos hze, if_pos hze, c2.2.2.1 13 (by decide), c2.2.2.1 16 (by decide), w1, w4]
            obtain ⟨u2, d1, d2, d3⟩ := px_follow (W := W) (T := T) (e := e) c3 p4 w7 w5
            rw [d1, zf_bv_s]
            exact next u2 (px_step W T D t e) (c2.tr d2) d3 (Or.inl (Nat.le_refl _)) (by show px_dn D e ≤ last + 1; omega)
          · rw [if_neg p4]
            have p5 : pz_fit W T t.1 e = false := by simpa using p4
            rw [p5]
            exact ⟨0, u, rfl, zg_ag.rf, fun h => by simp at h, fun _ => rfl⟩
        · rw [if_neg p3]
          have hrl : px_rl O D k s last (e :: l) = px_rl O D k s last l := by
            unfold px_rl
            rw [List.takeWhile_cons_of_pos (by simp [p1]), List.filter_cons_of_neg (by simp [p3])]
          rw [hrl]
          exact next u t zg_ag.rf hR (Or.inr rfl) hfl
    · rw [if_neg (nI_ge (by omega) (by omega))]
      have hrl : px_rl O D k s last (e :: l) = [] := by
        unfold px_rl
        rw [List.takeWhile_cons_of_neg (by simp [p1])]
        rfl
      rw [hrl]
      obtain ⟨u', a1, a2, a3⟩ := px_end (N := N) hR hfl hl
      exact ⟨1, u', a1, a2, fun _ => ⟨rfl, a3⟩, fun h => by simp [pz_ok] at h⟩
