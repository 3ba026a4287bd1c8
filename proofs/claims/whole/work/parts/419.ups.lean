/-! how many are up: the sum of comes less leaves -/
def pw (W : Nat → Int32) (e : Nat) : Int32 := if W e = 0 then 1 else if W e = 3 then 0 else -1
def pw_s (W : Nat → Int32) : List Nat → Int32
  | [] => 0
  | e :: l => pw W e + pw_s W l
theorem pw_run {W T : Nat → Int32} : ∀ (l : List Nat) (s : pz_S), pz_ok W T s l = true → zf_z s.1 = true → (∀ e ∈ l, 0 ≤ (W e).toInt ∧ (W e).toInt < 4) → (pz_run W T s l).1 = s.1 + pw_s W l
  | [], s, _, _, _ => by show s.1 = s.1 + 0; exact (Int32.add_zero _).symm
  | e :: l, s, hok, hz, hW => by
    rw [pz_ok, Bool.and_eq_true] at hok
    show (pz_run W T (pz_do W T s e) l).1 = s.1 + (pw W e + pw_s W l)
    have key : (pz_do W T s e).1 = s.1 + pw W e := by
      have hw := hW e List.mem_cons_self
      have hf := hok.1
      unfold pz_fit at hf
      unfold pz_do pw
      by_cases s0 : W e = 0
      · rw [if_pos s0] at hf
        have hf2 := of_decide_eq_true hf
        rw [if_neg (show ¬ W e = 3 by rw [s0]; decide), if_pos s0, if_pos s0, hf2.1]
        rfl
      · rw [if_neg s0] at hf
        by_cases s3 : W e = 3
        · rw [if_pos s3, if_neg s0, if_pos s3]
          exact (Int32.add_zero _).symm
        · have s12 : W e = 1 ∨ W e = 2 := by
            have n0 : (W e).toInt ≠ 0 := zf_ne s0
            have n3 : (W e).toInt ≠ 3 := zf_ne s3
            rcases (show (W e).toInt = 1 ∨ (W e).toInt = 2 by omega) with z | z
            · exact Or.inl (pz_eq.mpr z)
            · exact Or.inr (pz_eq.mpr z)
          rw [if_pos s12] at hf
          have hf2 := of_decide_eq_true hf
          have h1 : s.1 = 1 := by
            simp only [zf_z, Bool.or_eq_true, beq_iff_eq] at hz
            exact hz.resolve_left hf2
          rw [if_neg s3, if_neg s0, if_neg s0, if_neg s3, h1]
          rfl
    have hz2 : zf_z (pz_do W T s e).1 = true := by
      unfold pz_do
      split
      · exact hz
      · exact pf_z01 _
    rw [pw_run l _ hok.2 hz2 (fun e' h => hW e' (List.mem_cons_of_mem _ h)), key, Int32.add_assoc]
def pw_S (f : Nat → Int32) : Nat → Int32
  | 0 => 0
  | s + 1 => pw_S f s + f s
theorem pw_S_add (f g : Nat → Int32) : ∀ n, pw_S (fun s => f s + g s) n = pw_S f n + pw_S g n
  | 0 => rfl
  | n + 1 => by
    show pw_S (fun s => f s + g s) n + (f n + g n) = pw_S f n + f n + (pw_S g n + g n)
    rw [pw_S_add f g n]
    ac_rfl
theorem pw_S_one (j : Nat) (w : Int32) : ∀ n, pw_S (fun s => if j = s then w else 0) n = if j < n then w else 0
  | 0 => rfl
  | n + 1 => by
    show pw_S (fun s => if j = s then w else 0) n + (if j = n then w else 0) = _
    rw [pw_S_one j w n]
    by_cases h1 : j < n
    · rw [if_pos h1, if_neg (by omega), if_pos (by omega), Int32.add_zero]
    · rw [if_neg h1, Int32.zero_add]
      by_cases h2 : j = n
      · rw [if_pos h2, if_pos (by omega)]
      · rw [if_neg h2, if_neg (by omega)]
theorem pw_S_congr {f g : Nat → Int32} : ∀ {n : Nat}, (∀ s, s < n → f s = g s) → pw_S f n = pw_S g n
  | 0, _ => rfl
  | n + 1, h => by
    show pw_S f n + f n = pw_S g n + g n
    rw [pw_S_congr (fun s hs => h s (by omega)), h n (by omega)]
theorem pw_S_zero : ∀ n, pw_S (fun _ => 0) n = 0
  | 0 => rfl
  | n + 1 => by
    show pw_S (fun _ => 0) n + 0 = 0
    rw [pw_S_zero n]; rfl
theorem pw_sheep {W O : Nat → Int32} {S : Nat} (hS : S ≤ 80) : ∀ (l : List Nat), (∀ e ∈ l, 0 ≤ (O e).toInt ∧ (O e).toInt < S) → pw_S (fun s => pw_s W (l.filter (fun e => O e == nI s))) S = pw_s W l
  | [], _ => pw_S_zero S
  | e :: l, h => by
    obtain ⟨h1, h2⟩ := h e List.mem_cons_self
    obtain ⟨j, hj, he⟩ := pz_of h1
    rw [he, pz_nI hj] at h2
    have hc : pw_S (fun s => pw_s W ((e :: l).filter (fun e => O e == nI s))) S = pw_S (fun s => (if j = s then pw W e else 0) + pw_s W (l.filter (fun e => O e == nI s))) S := by
      refine pw_S_congr (fun s hs => ?_)
      by_cases q : j = s
      · rw [if_pos q, List.filter_cons_of_pos (by simp [he, q])]
        rfl
      · rw [if_neg q, Int32.zero_add, List.filter_cons_of_neg (by
          simp only [he, beq_iff_eq]
          exact fun z => q ((nI_eq (by omega) (by omega)).mp z))]
    rw [hc, pw_S_add, pw_S_one, if_pos (by omega), pw_sheep hS l (fun e' h' => h e' (List.mem_cons_of_mem _ h'))]
    rfl
theorem pw_evs (O D : Nat → Int32) (n s d : Nat) : pz_evs O D n s d = (pz_can D n d).filter (fun e => O e == nI s) := by
  rw [pc_can_eq, List.filter_flatMap]
  unfold pz_evs
  congr 1
  funext d
  unfold pc_all pz_day
  rw [List.filter_filter]
def pn_up (m : zs_T) (n d : Nat) : Nat → Nat
  | 0 => 0
  | s + 1 => pn_up m n d s + (if (pn_s m n d s).1 = 0 then 0 else 1)
theorem pn_up_le (m : zs_T) (n d : Nat) : ∀ s, pn_up m n d s ≤ s
  | 0 => Nat.le_refl _
  | s + 1 => by
    have := pn_up_le m n d s
    unfold pn_up
    split <;> omega
theorem pn_up_S (m : zs_T) (n d : Nat) : ∀ S, (∀ s, s < S → zf_z (pn_s m n d s).1 = true) → nI (pn_up m n d S) = pw_S (fun s => (pn_s m n d s).1) S
  | 0, _ => rfl
  | S + 1, h => by
    show nI (pn_up m n d S + (if (pn_s m n d S).1 = 0 then 0 else 1)) = pw_S (fun s => (pn_s m n d s).1) S + (pn_s m n d S).1
    rw [← pn_up_S m n d S (fun s hs => h s (by omega)), ← nI_add]
    congr 1
    have hz := h S (by omega)
    simp only [zf_z, Bool.or_eq_true, beq_iff_eq] at hz
    rcases hz with z | z <;> rw [z] <;> rfl
theorem pw_take {D : Nat → Int32} {n d : Nat} (hd : d ≤ 150) : (pz_can D n 150).takeWhile (fun e => decide (px_dn D e ≤ d)) = pz_can D n d := by
  rw [pc_split D n d hd, List.takeWhile_append_of_pos]
  · have hB : ((List.range' (d + 1) (150 - d)).flatMap (pc_all D n)).takeWhile (fun e => decide (px_dn D e ≤ d)) = [] := by
      cases hb : (List.range' (d + 1) (150 - d)).flatMap (pc_all D n) with
      | nil => rfl
      | cons e l =>
        have he : e ∈ (List.range' (d + 1) (150 - d)).flatMap (pc_all D n) := by rw [hb]; exact List.mem_cons_self
        obtain ⟨d', h1, h2⟩ := List.mem_flatMap.mp he
        rw [List.mem_range'_1] at h1
        rw [List.takeWhile_cons_of_neg]
        simp only [decide_eq_true_eq]
        rw [(pc_mem h2 (by omega)).2.2]
        omega
    rw [hB, List.append_nil]
  · intro e he
    rw [pc_can_eq] at he
    obtain ⟨d', h1, h2⟩ := List.mem_flatMap.mp he
    rw [List.mem_range'_1] at h1
    simp only [decide_eq_true_eq]
    rw [(pc_mem h2 (by omega)).2.2]
    omega
theorem pu_loop {N n S d : Nat} {W O D T : Nat → Int32} {u : zs_T} (hE : px_E n S W O D T u) (hd : d ≤ 150) : ∀ (l : List Nat) (i f : Nat) (v : Int32), (∀ j e, l[j]? = some e → zs_a u 17 (i + j) = nI e ∧ e < n) → i + l.length = n → l.length < f → zf_loop (fun ag y => fX4_upOn_b4 N u (nI d) (fun v2 v3 => ag (v2, v3)) y.1 y.2) f (v, nI i) = some (v + pw_s W (l.takeWhile (fun e => decide (px_dn D e ≤ d)))) := by
  have hn := hE.2.1
  intro l
  induction l with
  | nil =>
    intro i f v ho hi hf
    obtain ⟨f, rfl⟩ : ∃ f', f = f' + 1 := ⟨f - 1, by omega⟩
    simp only [List.length_nil] at hi
    rw [zf_loop_s]
    show fX4_upOn_b4 N u (nI d) _ v (nI i) = _
    unfold fX4_upOn_b4
    rw [hE.1, if_pos (nI_le (by omega) (by omega))]
    show some v = some (v + 0)
    rw [Int32.add_zero]
  | cons e l ih =>
    intro i f v ho hi hf
    obtain ⟨f, rfl⟩ : ∃ f', f = f' + 1 := ⟨f - 1, by omega⟩
    simp only [List.length_cons] at hi hf
    obtain ⟨o1, o2⟩ := ho 0 e rfl
    rw [Nat.add_zero] at o1
    obtain ⟨⟨w1, w2, w3, w4⟩, w5, w6, w7⟩ := hE.2.2 e o2
    obtain ⟨g1, g2, g3⟩ := px_dnI w6
    rw [zf_loop_s]
    obtain ⟨AG, hAG⟩ : ∃ A : Int32 → Int32 → Option Int32, A = fun v2 v3 => zf_loop (fun ag y => fX4_upOn_b4 N u (nI d) (fun v2 v3 => ag (v2, v3)) y.1 y.2) f (v2, v3) := ⟨_, rfl⟩
    show fX4_upOn_b4 N u (nI d) (fun v2 v3 => zf_loop (fun ag y => fX4_upOn_b4 N u (nI d) (fun v2 v3 => ag (v2, v3)) y.1 y.2) f (v2, v3)) v (nI i) = _
    rw [← hAG]
    have hzi : zf_in (nI i) 100 = true := pz_in (by omega) (by decide)
    have hze : zf_in (nI e) 100 = true := pz_in (by omega) (by decide)
    have next : ∀ v1 : Int32, AG v1 (nI (i + 1)) = some (v1 + pw_s W (l.takeWhile (fun e => decide (px_dn D e ≤ d)))) := by
      intro v1
      rw [hAG]
      exact ih (i + 1) f v1 (fun j e' h => by
        have := ho (j + 1) e' (by rw [List.getElem?_cons_succ]; exact h)
        rw [show i + 1 + j = i + (j + 1) by omega]
        exact this) (by omega) (by omega)
    unfold fX4_upOn_b4
    rw [hE.1, if_neg (nI_ge (by omega) (by omega)), if_pos hzi, pz_cl (show i < 2 ^ 31 by omega), o1, if_pos hze, pz_cl (show e < 2 ^ 31 by omega), w3, g1, w1, pz_succ, next, next, next]
    by_cases p1 : px_dn D e ≤ d
    · rw [if_pos (nI_le p1 (by omega)), if_pos hze, if_pos hze, List.takeWhile_cons_of_pos (by simp [p1])]
      show _ = some (v + (pw W e + pw_s W (l.takeWhile (fun e => decide (px_dn D e ≤ d)))))
      unfold pw
      by_cases s0 : W e = 0
      · rw [if_pos s0, if_pos s0, Int32.add_assoc]
      · rw [if_neg s0, if_neg s0]
        by_cases s3 : W e = 3
        · rw [if_pos s3, if_pos s3, Int32.zero_add]
        · rw [if_neg s3, if_neg s3, Int32.add_assoc]
    · rw [if_neg (nI_ge (by omega) (by omega)), List.takeWhile_cons_of_neg (by simp [p1])]
      show some v = some (v + 0)
      rw [Int32.add_zero]
theorem pn_z {S n : Nat} {x m : zs_T} (hE : rb_E S n x m) {s : Nat} (hs : s < S) (d : Nat) : zf_z (pn_s m n d s).1 = true ∧ zf_z (pn_s m n d s).2.1 = true := pz_run_z _ (s := rb_st m s) rfl (hE.2.2.2.1 s hs).2.1.2
/-- upOn on a related pair -/
theorem pu_upOn {N S n d : Nat} {x m : zs_T} (hN : 200 ≤ N) (hE : rb_E S n x m) (hd : d ≤ 150) : fX4_upOn N x (nI d) = some (nI (pn_up m n d S)) := by
  obtain ⟨q1, q2, q3, q4, q5, q6, q7, q8⟩ := id hE
  have hS := q1.2.2
  have hn := q2.2.2
  have hlen := pc_len (D := zs_a m 13) (n := n) (fun e he => (q6 e he).2.2.1.2)
  have h1 := pu_loop (N := N) (d := d) (pe_E hE) hd (pz_can (zs_a m 13) n 150) 0 N 0 (fun j e h => by
    rw [Nat.zero_add]
    exact ⟨q7 j e h, pc_lt (List.mem_of_getElem? h)⟩) (by omega) (by omega)
  rw [pw_take hd, Int32.zero_add] at h1
  have h2 : fX4_upOn N x (nI d) = some (pw_s (zs_a m 11) (pz_can (zs_a m 13) n d)) := h1
  rw [h2, pn_up_S m n d S (fun s hs => (pn_z hE hs d).1)]
  congr 1
  have hlt : ∀ e, e ∈ pz_can (zs_a m 13) n d → e < n := by
    intro e he
    rw [pc_can_eq] at he
    obtain ⟨d', h1, h2⟩ := List.mem_flatMap.mp he
    rw [List.mem_range'_1] at h1
    exact (pc_mem h2 (by omega)).1
  rw [← pw_sheep (W := zs_a m 11) (O := zs_a m 12) hS (pz_can (zs_a m 13) n d) (fun e he => (q6 e (hlt e he)).2.1.2)]
  refine (pw_S_congr (fun s hs => ?_)).symm
  rw [← pw_evs]
  have h3 := pw_run (W := zs_a m 11) (T := zs_a m 14) (pz_evs (zs_a m 12) (zs_a m 13) n s d) (rb_st m s) (pe_ok hE (Nat.le_refl _) hs hd) rfl (fun e he => by
    rw [pw_evs] at he
    exact (q6 e (hlt e ((List.mem_filter.mp he).1))).1.2)
  show (pz_run (zs_a m 11) (zs_a m 14) (rb_st m s) (pz_evs (zs_a m 12) (zs_a m 13) n s d)).1 = _
  rw [h3]
  show (0 : Int32) + _ = _
  rw [Int32.zero_add]
theorem pu_upsl {N S n d : Nat} {x m : zs_T} (hN : 200 ≤ N) (hE : rb_E S n x m) (hd : d ≤ 150) : ∀ (r i f : Nat) (u : zs_T), i + r = S → r < f → pa_ag m u → ∃ m', zf_loop (fun ag x => fM9_ups_b4 N (nI d) (fun u v2 v3 => ag (u, v2, v3)) x.1 x.2.1 x.2.2) f (u, nI (pn_up m n d i), nI i) = some (nI (pn_up m n d S), m') ∧ pa_ag m m' := by
  have hS := hE.1.2.2
  intro r
  induction r with
  | zero =>
    intro i f u hi hf ha
    obtain ⟨f, rfl⟩ : ∃ f', f = f' + 1 := ⟨f - 1, by omega⟩
    rw [zf_loop_s]
    refine ⟨u, ?_, ha⟩
    show fM9_ups_b4 N (nI d) _ u (nI (pn_up m n d i)) (nI i) = _
    unfold fM9_ups_b4
    rw [ha.1 15 (by decide), hE.1.2.1, if_pos (nI_le (by omega) (by omega)), show i = S by omega]
  | succ r ih =>
    intro i f u hi hf ha
    obtain ⟨f, rfl⟩ : ∃ f', f = f' + 1 := ⟨f - 1, by omega⟩
    rw [zf_loop_s]
    obtain ⟨AG, hAG⟩ : ∃ A : zs_T → Int32 → Int32 → Option (Int32 × zs_T), A = fun u v2 v3 => zf_loop (fun ag x => fM9_ups_b4 N (nI d) (fun u v2 v3 => ag (u, v2, v3)) x.1 x.2.1 x.2.2) f (u, v2, v3) := ⟨_, rfl⟩
    show ∃ m', fM9_ups_b4 N (nI d) (fun u v2 v3 => zf_loop (fun ag x => fM9_ups_b4 N (nI d) (fun u v2 v3 => ag (u, v2, v3)) x.1 x.2.1 x.2.2) f (u, v2, v3)) u (nI (pn_up m n d i)) (nI i) = _ ∧ _
    rw [← hAG]
    unfold fM9_ups_b4
    have hE' := rb_E_ag hE (zg_ag.rf (u := x)) ha
    obtain ⟨m', b1, b2, b3⟩ := pa_asks2 hN hE' (k := n) (s := i) (d := d) (Nat.le_refl _) (by omega) hd
    have b4 : pa_st m' = pn_s m n d i := b3.trans (pn_s_ag ha n d i)
    have e18 : zs_i m' 18 = (pn_s m n d i).1 := congrArg Prod.fst b4
    rw [hE'.1.2.1, if_neg (nI_ge (by omega) (by omega)), hE'.2.1.2.1, b1, zf_bi_s, e18, pz_succ, pz_succ, show nI (pn_up m n d i) + 0 = nI (pn_up m n d i + 0) from nI_add _ 0]
    obtain ⟨m2, c1, c2⟩ := ih (i + 1) f m' (by omega) (by omega) (ha.tr b2)
    have hnext : AG m' (nI (pn_up m n d (i + 1))) (nI (i + 1)) = some (nI (pn_up m n d S), m2) := by rw [hAG]; exact c1
    refine ⟨m2, ?_, c2⟩
    rw [← hnext, show pn_up m n d (i + 1) = pn_up m n d i + (if (pn_s m n d i).1 = 0 then 0 else 1) from rfl]
    by_cases p1 : (pn_s m n d i).1 = 0
    · rw [if_pos p1, if_pos p1]
    · rw [if_neg p1, if_neg p1]
theorem pu_ups {N S n d : Nat} {x m : zs_T} (hN : 200 ≤ N) (hE : rb_E S n x m) (hd : d ≤ 150) : ∃ m', fM9_ups N m (nI d) = some (nI (pn_up m n d S), m') ∧ pa_ag m m' := by
  have hS := hE.1.2.2
  exact pu_upsl hN hE hd S 0 N m (by omega) (by omega) zg_ag.rf
theorem sb_count {N k : Nat} {x m : zs_T} (hN : 200 ≤ N) (hI : rb_I k x m) (a1 : Int32) : zl_count N x m (rb_I (k + 1)) a1 := by
  have hM := rb_mono k x m hI
  obtain ⟨c, hh, d, w, S, n, hT, hR, hA, hP, hE, hL⟩ := id hM
  obtain ⟨A1, A2, A3, A4, A5, A6, A7, -⟩ := hA
  obtain ⟨m', c1, c2⟩ := pu_ups hN hE A5.2.2
  unfold zl_count fX8_count fM9_count fX2_isOpen
  rw [A1.1, A1.2.1, A2.1, A3.1, A4.1, A5.1, A5.2.1, A6, A7, hE.1.1, hE.1.2.1, hE.2.1.1, hE.2.1.2.1, hE.2.2.1.1, hT.1, hT.2.1, hL.2.2.2.2, pu_upOn hN hE A5.2.2, c1, zf_bp_s, zf_bi_s]
  by_cases s0 : a1 = 0
  · subst s0; exact ⟨_, m, rfl, rfl, hM⟩
  by_cases s1 : a1 = 1
  · subst s1; exact ⟨_, m, rfl, rfl, hM⟩
  by_cases s2 : a1 = 2
  · subst s2; exact ⟨_, m, rfl, rfl, hM⟩
  by_cases s3 : a1 = 3
  · subst s3; exact ⟨_, m, rfl, rfl, hM⟩
  by_cases s4 : a1 = 4
  · subst s4; exact ⟨_, m, rfl, rfl, hM⟩
  by_cases s5 : a1 = 5
  · subst s5; exact ⟨_, m, rfl, rfl, hM⟩
  by_cases s6 : a1 = 6
  · subst s6; exact ⟨_, m, rfl, rfl, hM⟩
  by_cases s7 : a1 = 7
  · subst s7; exact ⟨_, m', rfl, rfl, rb_I_ag hM zg_ag.rf (pa_ms c2)⟩
  by_cases s8 : a1 = 8
  · subst s8; exact ⟨_, m, rfl, rfl, hM⟩
  by_cases s9 : a1 = 9
  · subst s9
    by_cases q : 20 < zs_i m 8
    · rw [if_pos q, if_pos q]; exact ⟨_, m, rfl, rfl, hM⟩
    · rw [if_neg q, if_neg q]; exact ⟨_, m, rfl, rfl, hM⟩
  by_cases s10 : a1 = 10
  · subst s10; exact ⟨_, m, rfl, rfl, hM⟩
  by_cases s11 : a1 = 11
  · subst s11; exact ⟨_, m, rfl, rfl, hM⟩
  by_cases s12 : a1 = 12
  · subst s12; exact ⟨_, m, rfl, rfl, hM⟩
  by_cases s13 : a1 = 13
  · subst s13; exact ⟨_, m, rfl, rfl, hM⟩
  simp only [if_neg s0, if_neg s1, if_neg s2, if_neg s3, if_neg s4, if_neg s5, if_neg s6, if_neg s7, if_neg s8, if_neg s9, if_neg s10, if_neg s11, if_neg s12, if_neg s13]
  exact ⟨-1, m, rfl, rfl, hM⟩
