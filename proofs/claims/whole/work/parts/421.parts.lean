/-! parts -/
def qs (cr d : Nat) (H : Nat → Nat) : Nat → Nat
  | 0 => 0
  | i + 1 => qs cr d H i + cr * H i / d
def qh (H : Nat → Nat) : Nat → Nat
  | 0 => 0
  | i + 1 => qh H i + H i
theorem qh_mono (H : Nat → Nat) {i j : Nat} (h : i ≤ j) : qh H i ≤ qh H j := by
  induction j with
  | zero => rw [show i = 0 by omega]; exact Nat.le_refl _
  | succ j ih =>
    rcases Nat.lt_or_ge i (j + 1) with q | q
    · exact Nat.le_trans (ih (by omega)) (Nat.le_add_right _ _)
    · rw [show i = j + 1 by omega]; exact Nat.le_refl _
theorem qh_ge (H : Nat → Nat) {i j : Nat} (h : i < j) : H i ≤ qh H j := Nat.le_trans (Nat.le_add_left _ _) (qh_mono H (show i + 1 ≤ j from h))
theorem qh_add (f g : Nat → Nat) : ∀ n, qh (fun s => f s + g s) n = qh f n + qh g n
  | 0 => rfl
  | n + 1 => by
    show qh (fun s => f s + g s) n + (f n + g n) = qh f n + f n + (qh g n + g n)
    rw [qh_add f g n]
    omega
theorem qh_one (j w : Nat) : ∀ n, qh (fun s => if s = j then w else 0) n = if j < n then w else 0
  | 0 => rfl
  | n + 1 => by
    show qh (fun s => if s = j then w else 0) n + (if n = j then w else 0) = _
    rw [qh_one j w n]
    by_cases h1 : j < n
    · rw [if_pos h1, if_neg (by omega), if_pos (by omega)]
      rfl
    · rw [if_neg h1, Nat.zero_add]
      by_cases h2 : n = j
      · rw [if_pos h2, if_pos (by omega)]
      · rw [if_neg h2, if_neg (by omega)]
theorem qh_congr {f g : Nat → Nat} : ∀ {n : Nat}, (∀ s, s < n → f s = g s) → qh f n = qh g n
  | 0, _ => rfl
  | n + 1, h => by
    show qh f n + f n = qh g n + g n
    rw [qh_congr (fun s hs => h s (by omega)), h n (by omega)]
theorem qh_zero : ∀ n, qh (fun _ => 0) n = 0
  | 0 => rfl
  | n + 1 => by
    show qh (fun _ => 0) n + 0 = 0
    rw [qh_zero n]
theorem qs_mul {d : Nat} (cr : Nat) (H : Nat → Nat) : ∀ i, qs cr d H i * d ≤ cr * qh H i
  | 0 => by show 0 * d ≤ _; omega
  | i + 1 => by
    show (qs cr d H i + cr * H i / d) * d ≤ cr * (qh H i + H i)
    rw [Nat.add_mul, Nat.mul_add]
    exact Nat.add_le_add (qs_mul cr H i) (Nat.div_mul_le_self _ _)
theorem qs_le {d cr : Nat} {H : Nat → Nat} {i : Nat} (hd : 1 ≤ d) (h : qh H i ≤ d) : qs cr d H i ≤ cr := by
  have h1 := qs_mul (d := d) cr H i
  have h2 : cr * qh H i ≤ cr * d := Nat.mul_le_mul_left _ h
  exact Nat.le_of_mul_le_mul_right (Nat.le_trans h1 h2) (by omega)
/-- an owner's gain out of one credit -/
def qg (cr d : Nat) (H : Nat → Nat) (ow o : Nat) : Nat := cr * H o / d + (if o = ow then cr - qs cr d H 12 else 0)
theorem qg_sum {cr d : Nat} {H : Nat → Nat} {ow : Nat} (hd : 1 ≤ d) (h : qh H 12 ≤ d) (ho : ow < 12) : qh (qg cr d H ow) 12 = cr := by
  have e : qh (qg cr d H ow) 12 = qh (fun o => cr * H o / d) 12 + qh (fun o => if o = ow then cr - qs cr d H 12 else 0) 12 := qh_add _ _ 12
  have e2 : ∀ i, qh (fun o => cr * H o / d) i = qs cr d H i := by
    intro i
    induction i with
    | zero => rfl
    | succ i ih => show qh (fun o => cr * H o / d) i + cr * H i / d = _; rw [ih]; rfl
  have h1 := qs_le (cr := cr) hd h
  rw [e, e2, qh_one, if_pos ho]
  omega
def qp (m : zs_T) (k d : Nat) : Nat → Nat → Nat
  | 0, _ => 0
  | s + 1, o => qp m k d s o + (if qC m k d s = 0 then 0 else qg (qC m k d s) d (qH m k d s) (qm (pn_s m k d s).2.2) o)
theorem qp_ms {m m' : zs_T} (h : rb_ms m m') (k d : Nat) : ∀ s o, qp m' k d s o = qp m k d s o
  | 0, _ => rfl
  | s + 1, o => by
    show qp m' k d s o + _ = qp m k d s o + _
    rw [qp_ms h k d s o, qC_ms h, pn_s_ms h, show qH m' k d s = qH m k d s from funext (fun o => qH_ms h k d s o)]
theorem qH_sum {n S k s : Nat} {x m : zs_T} (hE : rb_E S n x m) (hk : k ≤ n) (hs : s < S) : ∀ d, d ≤ 150 → qh (qH m k d s) 12 = d
  | 0, _ => qh_zero 12
  | d + 1, hd => by
    obtain ⟨j, h1, h2⟩ := q_own hE hk hs hd
    have e : qh (qH m k (d + 1) s) 12 = qh (fun o => qH m k d s o + (if o = j then 1 else 0)) 12 := by
      refine qh_congr (fun o ho => ?_)
      rw [qH_s, h2]
      by_cases q : o = j
      · rw [if_pos (by rw [q]), if_pos q]
      · rw [if_neg (fun z => q ((nI_eq (by omega) (by omega)).mp z)), if_neg q]
    rw [e, qh_add, qh_one, if_pos h1, qH_sum hE hk hs d (by omega)]
theorem qp_bound {n S k d : Nat} {x m : zs_T} (hE : rb_E S n x m) (hk : k ≤ n) (hd : d ≤ 150) : ∀ s, s ≤ S → qh (qp m k d s) 12 ≤ 5000 * s
  | 0, _ => by rw [show qp m k d 0 = fun _ => 0 from rfl, qh_zero]; omega
  | s + 1, hs => by
    have ih := qp_bound hE hk hd s (by omega)
    have hc := qC_le hE (show s < S by omega) k d
    have e : qh (qp m k d (s + 1)) 12 = qh (qp m k d s) 12 + qh (fun o => if qC m k d s = 0 then 0 else qg (qC m k d s) d (qH m k d s) (qm (pn_s m k d s).2.2) o) 12 := qh_add _ _ 12
    rw [e]
    by_cases q : qC m k d s = 0
    · simp only [if_pos q]
      rw [qh_zero]
      omega
    · simp only [if_neg q]
      have hd1 : 1 ≤ d := by
        rcases Nat.eq_zero_or_pos d with z | z
        · exact absurd (show qC m k d s = 0 by unfold qC; rw [if_pos z]) q
        · exact z
      obtain ⟨j, h1, h2⟩ := q_own hE hk (show s < S by omega) hd
      have hj : qm (nI j) = j := by unfold qm; rw [pz_nI (by omega)]; rfl
      rw [h2, hj]
      have := qg_sum (cr := qC m k d s) (H := qH m k d s) hd1 (Nat.le_of_eq (qH_sum hE hk (show s < S by omega) d hd)) h1
      rw [show (fun o => qg (qC m k d s) d (qH m k d s) j o) = qg (qC m k d s) d (qH m k d s) j from rfl, this]
      omega
theorem q_divl {N cr d ow : Nat} {H P : Nat → Nat} (hd1 : 1 ≤ d) (hd : d ≤ 150) (hcr : cr ≤ 5000) (hs : qh H 12 ≤ d) (how : ow < 12) : ∀ (r i f : Nat) (u : zs_T), i + r = 12 → r < f → (∀ o, o < 12 → zs_a u 20 o = nI (P o + if o < i then cr * H o / d else 0)) → (∀ o, o < 12 → zs_a u 18 o = nI (H o)) → zs_i u 14 = nI ow → ∃ u', zf_loop (fun ag x => fX0_divide_b12 N (nI cr) (nI d) (fun u v4 v5 => ag (u, v4, v5)) x.1 x.2.1 x.2.2) f (u, nI (cr - qs cr d H i), nI i) = some u' ∧ zg_ag [] [] [20] [] u u' ∧ ∀ o, o < 12 → zs_a u' 20 o = nI (P o + qg cr d H ow o) := by
  intro r
  induction r with
  | zero =>
    intro i f u hi hf hP hH h14
    obtain ⟨f, rfl⟩ : ∃ f', f = f' + 1 := ⟨f - 1, by omega⟩
    obtain rfl : i = 12 := by omega
    rw [zf_loop_s]
    have hz : zf_in (nI ow) 12 = true := pz_in how (by decide)
    refine ⟨zs_sa u 20 (upd (zs_a u 20) ow (zs_a u 20 ow + nI (cr - qs cr d H 12))), ?_, zg_ag.rf.sa (by decide), ?_⟩
    · show fX0_divide_b12 N (nI cr) (nI d) _ u (nI (cr - qs cr d H 12)) (nI 12) = _
      unfold fX0_divide_b12
      rw [if_pos (show (12 : Int32) ≤ nI 12 by decide)]
      unfold fX0_divide_j57
      rw [h14, if_pos hz, if_pos hz, pz_cl (show ow < 2 ^ 31 by omega)]
    · intro o ho
      show upd (zs_a u 20) ow _ o = _
      rw [pz_upd]
      unfold qg
      by_cases q : o = ow
      · subst q
        rw [if_pos rfl, if_pos rfl, hP o ho, if_pos ho, nI_add]
        congr 1
        omega
      · rw [if_neg q, if_neg q, hP o ho, if_pos ho]
        rfl
  | succ r ih =>
    intro i f u hi hf hP hH h14
    obtain ⟨f, rfl⟩ : ∃ f', f = f' + 1 := ⟨f - 1, by omega⟩
    rw [zf_loop_s]
    obtain ⟨AG, hAG⟩ : ∃ A : zs_T → Int32 → Int32 → Option zs_T, A = fun u v4 v5 => zf_loop (fun ag x => fX0_divide_b12 N (nI cr) (nI d) (fun u v4 v5 => ag (u, v4, v5)) x.1 x.2.1 x.2.2) f (u, v4, v5) := ⟨_, rfl⟩
    show ∃ u', fX0_divide_b12 N (nI cr) (nI d) (fun u v4 v5 => zf_loop (fun ag x => fX0_divide_b12 N (nI cr) (nI d) (fun u v4 v5 => ag (u, v4, v5)) x.1 x.2.1 x.2.2) f (u, v4, v5)) u (nI (cr - qs cr d H i)) (nI i) = _ ∧ _
    rw [← hAG]
    have hz : zf_in (nI i) 12 = true := pz_in (by omega) (by decide)
    have hHi := qh_ge H (show i < 12 by omega)
    have hmul : cr * H i ≤ 5000 * 150 := Nat.mul_le_mul hcr (by omega)
    have hsum := qs_le (cr := cr) hd1 (Nat.le_trans (qh_mono H (show i + 1 ≤ 12 by omega)) hs)
    have hsum2 : qs cr d H (i + 1) = qs cr d H i + cr * H i / d := rfl
    unfold fX0_divide_b12
    rw [if_neg (show ¬ (12 : Int32) ≤ nI i from nI_ge (b := 12) (by omega) (by omega)), if_pos hz, if_pos hz, if_pos hz, if_pos (nI_ne0 (by omega) (by omega)), pz_cl (show i < 2 ^ 31 by omega), hH i (by omega), hP i (by omega), if_neg (Nat.lt_irrefl i), pk_mul, pk_div (by omega) (by omega) (by omega), pk_sub (show cr * H i / d ≤ cr - qs cr d H i by omega), nI_add, pz_succ, Nat.sub_sub, ← hsum2]
    obtain ⟨u', b1, b2, b3⟩ := ih (i + 1) f (zs_sa u 20 (upd (zs_a u 20) i (nI (P i + 0 + cr * H i / d)))) (by omega) (by omega) (fun o ho => by
      show upd (zs_a u 20) i _ o = _
      rw [pz_upd]
      by_cases q : o = i
      · subst q
        rw [if_pos rfl, if_pos (by omega), Nat.add_zero]
      · rw [if_neg q, hP o ho]
        by_cases q2 : o < i
        · rw [if_pos q2, if_pos (by omega)]
        · rw [if_neg q2, if_neg (by omega)]) hH h14
    exact ⟨u', by rw [hAG]; exact b1, (zg_ag.rf.sa (by decide)).tr b2, b3⟩
theorem q_divm {N cr d ow : Nat} {H P : Nat → Nat} {ag23 : zs_T → Int32 → Option zs_T} {v1 v2 : Int32} (hd1 : 1 ≤ d) (hd : d ≤ 150) (hcr : cr ≤ 5000) (hs : qh H 12 ≤ d) (how : ow < 12) : ∀ (r i f : Nat) (u : zs_T), i + r = 12 → r < f → (∀ o, o < 12 → zs_a u 16 o = nI (P o + if o < i then cr * H o / d else 0)) → (∀ o, o < 12 → zs_a u 15 o = nI (H o)) → zs_i u 20 = nI ow → zs_i u 10 = nI d → ∃ u', zf_loop (fun ag x => fM9_reckons_b122 N ag23 v1 v2 (nI cr) (fun u v4 v5 => ag (u, v4, v5)) x.1 x.2.1 x.2.2) f (u, nI (cr - qs cr d H i), nI i) = ag23 u' (v2 + 1) ∧ zg_ag [] [] [16] [] u u' ∧ ∀ o, o < 12 → zs_a u' 16 o = nI (P o + qg cr d H ow o) := by
  intro r
  induction r with
  | zero =>
    intro i f u hi hf hP hH h14 h10
    obtain ⟨f, rfl⟩ : ∃ f', f = f' + 1 := ⟨f - 1, by omega⟩
    obtain rfl : i = 12 := by omega
    rw [zf_loop_s]
    have hz : zf_in (nI ow) 12 = true := pz_in how (by decide)
    refine ⟨zs_sa u 16 (upd (zs_a u 16) ow (zs_a u 16 ow + nI (cr - qs cr d H 12))), ?_, zg_ag.rf.sa (by decide), ?_⟩
    · show fM9_reckons_b122 N ag23 v1 v2 (nI cr) _ u (nI (cr - qs cr d H 12)) (nI 12) = _
      unfold fM9_reckons_b122
      rw [if_pos (show (12 : Int32) ≤ nI 12 by decide)]
      unfold fM9_reckons_j175
      rw [h14, if_pos hz, if_pos hz, pz_cl (show ow < 2 ^ 31 by omega)]
    · intro o ho
      show upd (zs_a u 16) ow _ o = _
      rw [pz_upd]
      unfold qg
      by_cases q : o = ow
      · subst q
        rw [if_pos rfl, if_pos rfl, hP o ho, if_pos ho, nI_add]
        congr 1
        omega
      · rw [if_neg q, if_neg q, hP o ho, if_pos ho]
        rfl
  | succ r ih =>
    intro i f u hi hf hP hH h14 h10
    obtain ⟨f, rfl⟩ : ∃ f', f = f' + 1 := ⟨f - 1, by omega⟩
    rw [zf_loop_s]
    obtain ⟨AG, hAG⟩ : ∃ A : zs_T → Int32 → Int32 → Option zs_T, A = fun u v4 v5 => zf_loop (fun ag x => fM9_reckons_b122 N ag23 v1 v2 (nI cr) (fun u v4 v5 => ag (u, v4, v5)) x.1 x.2.1 x.2.2) f (u, v4, v5) := ⟨_, rfl⟩
    show ∃ u', fM9_reckons_b122 N ag23 v1 v2 (nI cr) (fun u v4 v5 => zf_loop (fun ag x => fM9_reckons_b122 N ag23 v1 v2 (nI cr) (fun u v4 v5 => ag (u, v4, v5)) x.1 x.2.1 x.2.2) f (u, v4, v5)) u (nI (cr - qs cr d H i)) (nI i) = _ ∧ _
    rw [← hAG]
    have hz : zf_in (nI i) 12 = true := pz_in (by omega) (by decide)
    have hHi := qh_ge H (show i < 12 by omega)
    have hmul : cr * H i ≤ 5000 * 150 := Nat.mul_le_mul hcr (by omega)
    have hsum := qs_le (cr := cr) hd1 (Nat.le_trans (qh_mono H (show i + 1 ≤ 12 by omega)) hs)
    have hsum2 : qs cr d H (i + 1) = qs cr d H i + cr * H i / d := rfl
    unfold fM9_reckons_b122
    rw [if_neg (show ¬ (12 : Int32) ≤ nI i from nI_ge (b := 12) (by omega) (by omega)), h10, if_pos hz, if_pos hz, if_pos hz, if_pos (nI_ne0 (by omega) (by omega)), pz_cl (show i < 2 ^ 31 by omega), hH i (by omega), hP i (by omega), if_neg (Nat.lt_irrefl i), pk_mul, pk_div (by omega) (by omega) (by omega), pk_sub (show cr * H i / d ≤ cr - qs cr d H i by omega), nI_add, pz_succ, Nat.sub_sub, ← hsum2]
    obtain ⟨u', b1, b2, b3⟩ := ih (i + 1) f (zs_sa u 16 (upd (zs_a u 16) i (nI (P i + 0 + cr * H i / d)))) (by omega) (by omega) (fun o ho => by
      show upd (zs_a u 16) i _ o = _
      rw [pz_upd]
      by_cases q : o = i
      · subst q
        rw [if_pos rfl, if_pos (by omega), Nat.add_zero]
      · rw [if_neg q, hP o ho]
        by_cases q2 : o < i
        · rw [if_pos q2, if_pos (by omega)]
        · rw [if_neg q2, if_neg (by omega)]) hH h14 h10
    exact ⟨u', by rw [hAG]; exact b1, (zg_ag.rf.sa (by decide)).tr b2, b3⟩
/-- the reference's days of owners -/
theorem q_daysl {N n S k s d : Nat} {x m : zs_T} {ag23 : zs_T → Int32 → Option zs_T} {v3 : Int32} (hN : 200 ≤ N) (hE : rb_E S n x m) (hk : k ≤ n) (hs : s < S) (hd : d ≤ 150) (hdm : zs_i m 10 = nI d) : ∀ (r i f : Nat) (u : zs_T), i + r = d → r < f → rb_ms m u → (1 ≤ i → zs_i u 20 = (pn_s m k i s).2.2) → (∀ o, o < 12 → zs_a u 15 o = nI (qH m k i s o)) → ∃ u', zf_loop (fun ag x => fM9_reckons_b72 N ag23 (nI k) (nI s) v3 (fun u v4 => ag (u, v4)) x.1 x.2) f (u, nI (i + 1)) = fM9_reckons_j116 N ag23 u' (nI k) (nI s) v3 ∧ zg_ag [18, 19, 20] [] [15] [] u u' ∧ (1 ≤ d → zs_i u' 20 = (pn_s m k d s).2.2) ∧ ∀ o, o < 12 → zs_a u' 15 o = nI (qH m k d s o) := by
  intro r
  induction r with
  | zero =>
    intro i f u hi hf ha h20 hH
    obtain ⟨f, rfl⟩ : ∃ f', f = f' + 1 := ⟨f - 1, by omega⟩
    obtain rfl : i = d := by omega
    rw [zf_loop_s]
    refine ⟨u, ?_, zg_ag.rf, h20, hH⟩
    show fM9_reckons_b72 N ag23 (nI k) (nI s) v3 _ u (nI (i + 1)) = _
    unfold fM9_reckons_b72
    rw [ha.1 10 (by decide), hdm, if_pos (nI_lt (by omega) (by omega))]
  | succ r ih =>
    intro i f u hi hf ha h20 hH
    obtain ⟨f, rfl⟩ : ∃ f', f = f' + 1 := ⟨f - 1, by omega⟩
    rw [zf_loop_s]
    obtain ⟨AG, hAG⟩ : ∃ A : zs_T → Int32 → Option zs_T, A = fun u v4 => zf_loop (fun ag x => fM9_reckons_b72 N ag23 (nI k) (nI s) v3 (fun u v4 => ag (u, v4)) x.1 x.2) f (u, v4) := ⟨_, rfl⟩
    show ∃ u', fM9_reckons_b72 N ag23 (nI k) (nI s) v3 (fun u v4 => zf_loop (fun ag x => fM9_reckons_b72 N ag23 (nI k) (nI s) v3 (fun u v4 => ag (u, v4)) x.1 x.2) f (u, v4)) u (nI (i + 1)) = _ ∧ _
    rw [← hAG]
    unfold fM9_reckons_b72
    obtain ⟨m', b1, b2, b3, b4, b5⟩ := q_ask hN (rb_E_sc hE (zg_ag.rf (u := x)) ha) (k := k) (s := s) (d := i + 1) hk hs (by omega)
    obtain ⟨j, g1, g2⟩ := q_own hE hk hs (show i + 1 ≤ 150 by omega)
    rw [pn_s_ms ha, g2] at b5
    have hz : zf_in (nI j) 12 = true := pz_in g1 (by decide)
    rw [ha.1 10 (by decide), hdm, if_neg (nI_nlt (by omega) (by omega)), b1, zf_bi_s, b5, if_pos hz, if_pos hz, pz_cl (show j < 2 ^ 31 by omega), b2.2.2.1 15 (by decide), pz_succ, hH j g1, pz_succ]
    obtain ⟨u', c1, c2, c3, c4⟩ := ih (i + 1) f (zs_sa m' 15 (upd (zs_a u 15) j (nI (qH m k i s j + 1)))) (by omega) (by omega) ((ha.tr (pa_ms b2)).sa (by decide)) (fun _ => by rw [g2]; exact b5) (fun o ho => by
      show upd (zs_a u 15) j _ o = _
      rw [pz_upd, qH_s, g2]
      by_cases q : o = j
      · rw [if_pos q, if_pos (by rw [q]), q]
      · rw [if_neg q, if_neg (fun z => q ((nI_eq (by omega) (by omega)).mp z)), hH o ho]
        rfl)
    refine ⟨u', by rw [hAG]; exact c1, ?_, c3, c4⟩
    exact ((b2.mono (by decide) (by decide) (by decide) (by decide)).sa (by decide)).tr c2
theorem q_zerol {N : Nat} {ag23 : zs_T → Int32 → Option zs_T} {v1 v2 v3 : Int32} : ∀ (r i f : Nat) (u : zs_T), i + r = 12 → r < f → (∀ o, o < i → zs_a u 15 o = 0) → ∃ u', zf_loop (fun ag x => fM9_reckons_b48 N ag23 v1 v2 v3 (fun u v4 => ag (u, v4)) x.1 x.2) f (u, nI i) = fM9_reckons_j69 N ag23 u' v1 v2 v3 ∧ zg_ag [] [] [15] [] u u' ∧ ∀ o, o < 12 → zs_a u' 15 o = 0 := by
  intro r
  induction r with
  | zero =>
    intro i f u hi hf h0
    obtain ⟨f, rfl⟩ : ∃ f', f = f' + 1 := ⟨f - 1, by omega⟩
    obtain rfl : i = 12 := by omega
    rw [zf_loop_s]
    refine ⟨u, ?_, zg_ag.rf, h0⟩
    show fM9_reckons_b48 N ag23 v1 v2 v3 _ u (nI 12) = _
    unfold fM9_reckons_b48
    rw [if_pos (show (12 : Int32) ≤ nI 12 by decide)]
  | succ r ih =>
    intro i f u hi hf h0
    obtain ⟨f, rfl⟩ : ∃ f', f = f' + 1 := ⟨f - 1, by omega⟩
    rw [zf_loop_s]
    obtain ⟨AG, hAG⟩ : ∃ A : zs_T → Int32 → Option zs_T, A = fun u v4 => zf_loop (fun ag x => fM9_reckons_b48 N ag23 v1 v2 v3 (fun u v4 => ag (u, v4)) x.1 x.2) f (u, v4) := ⟨_, rfl⟩
    show ∃ u', fM9_reckons_b48 N ag23 v1 v2 v3 (fun u v4 => zf_loop (fun ag x => fM9_reckons_b48 N ag23 v1 v2 v3 (fun u v4 => ag (u, v4)) x.1 x.2) f (u, v4)) u (nI i) = _ ∧ _
    rw [← hAG]
    unfold fM9_reckons_b48
    have hz : zf_in (nI i) 12 = true := pz_in (by omega) (by decide)
    rw [if_neg (show ¬ (12 : Int32) ≤ nI i from nI_ge (b := 12) (by omega) (by omega)), if_pos hz, pz_cl (show i < 2 ^ 31 by omega), pz_succ]
    obtain ⟨u', b1, b2, b3⟩ := ih (i + 1) f (zs_sa u 15 (upd (zs_a u 15) i 0)) (by omega) (by omega) (fun o ho => by
      show upd (zs_a u 15) i 0 o = 0
      rw [pz_upd]
      by_cases q : o = i
      · rw [if_pos q]
      · rw [if_neg q]; exact h0 o (by omega))
    exact ⟨u', by rw [hAG]; exact b1, (zg_ag.rf.sa (by decide)).tr b2, b3⟩
theorem q_sheepM {N n S k d : Nat} {x m : zs_T} (hN : 200 ≤ N) (hE : rb_E S n x m) (hR : rb_R x m) (hk : k ≤ n) (hd : d ≤ 150) (hdm : zs_i m 10 = nI d) : ∀ (r i f : Nat) (u : zs_T), i + r = S → r < f → rb_ms m u → (∀ o, o < 12 → zs_a u 16 o = nI (qp m k d i o)) → ∃ u', zf_loop (fun ag x => fM9_reckons_b23 N (nI k) (fun u v2 => ag (u, v2)) x.1 x.2) f (u, nI i) = some u' ∧ rb_ms m u' ∧ ∀ o, o < 12 → zs_a u' 16 o = nI (qp m k d S o) := by
  have hS := hE.1.2.2
  intro r
  induction r with
  | zero =>
    intro i f u hi hf ha hP
    obtain ⟨f, rfl⟩ : ∃ f', f = f' + 1 := ⟨f - 1, by omega⟩
    obtain rfl : i = S := by omega
    rw [zf_loop_s]
    refine ⟨u, ?_, ha, hP⟩
    show fM9_reckons_b23 N (nI k) _ u (nI i) = _
    unfold fM9_reckons_b23
    rw [ha.1 15 (by decide), hE.1.2.1, if_pos (nI_le (by omega) (by omega))]
  | succ r ih =>
    intro i f u hi hf ha hP
    obtain ⟨f, rfl⟩ : ∃ f', f = f' + 1 := ⟨f - 1, by omega⟩
    rw [zf_loop_s]
    obtain ⟨AG, hAG⟩ : ∃ A : zs_T → Int32 → Option zs_T, A = fun u v2 => zf_loop (fun ag x => fM9_reckons_b23 N (nI k) (fun u v2 => ag (u, v2)) x.1 x.2) f (u, v2) := ⟨_, rfl⟩
    show ∃ u', fM9_reckons_b23 N (nI k) (fun u v2 => zf_loop (fun ag x => fM9_reckons_b23 N (nI k) (fun u v2 => ag (u, v2)) x.1 x.2) f (u, v2)) u (nI i) = _ ∧ _
    rw [← hAG]
    unfold fM9_reckons_b23
    have hEu := rb_E_sc hE (zg_ag.rf (u := x)) ha
    obtain ⟨m1, b1, b2⟩ := q_credM hN hEu (rb_R_sc hR (zg_ag.rf (u := x)) ha) (k := k) (s := i) (d := d) hk (by omega) hd (by rw [ha.1 10 (by decide)]; exact hdm)
    rw [qC_ms ha] at b1
    rw [ha.1 15 (by decide), hE.1.2.1, if_neg (nI_ge (by omega) (by omega)), b1, zf_bi_s, pz_succ]
    have hle := qC_le hE (show i < S by omega) k d
    have ha1 : rb_ms m m1 := ha.tr (pa_ms b2)
    by_cases q : qC m k d i = 0
    · rw [if_pos (by rw [q]; rfl)]
      obtain ⟨u', c1, c2, c3⟩ := ih (i + 1) f m1 (by omega) (by omega) ha1 (fun o ho => by
        rw [b2.2.2.1 16 (by decide), hP o ho]
        show _ = nI (qp m k d i o + _)
        rw [if_pos q]
        rfl)
      exact ⟨u', by rw [hAG]; exact c1, c2, c3⟩
    · rw [if_neg (nI_ne0 (by omega) (by omega))]
      have hd1 : 1 ≤ d := by
        rcases Nat.eq_zero_or_pos d with z | z
        · exact absurd (show qC m k d i = 0 by unfold qC; rw [if_pos z]) q
        · exact z
      obtain ⟨u1, d1, d2, d3⟩ := q_zerol (N := N) (ag23 := AG) (v1 := nI k) (v2 := nI i) (v3 := nI (qC m k d i)) 12 0 N m1 (by omega) (by omega) (fun o ho => by omega)
      have d1' : zf_loop (fun ag x => fM9_reckons_b48 N AG (nI k) (nI i) (nI (qC m k d i)) (fun u v4 => ag (u, v4)) x.1 x.2) N (m1, 0) = fM9_reckons_j69 N AG u1 (nI k) (nI i) (nI (qC m k d i)) := d1
      have hau1 : rb_ms m u1 := ha1.tr (d2.mono (by decide) (by decide) (by decide) (by decide))
      obtain ⟨u2, e1, e2, e3, e4⟩ := q_daysl (N := N) (ag23 := AG) (v3 := nI (qC m k d i)) hN hE hk (show i < S by omega) hd hdm d 0 N u1 (by omega) (by omega) hau1 (fun z => by omega) (fun o ho => by rw [d3 o ho]; rfl)
      have e1' : fM9_reckons_j69 N AG u1 (nI k) (nI i) (nI (qC m k d i)) = fM9_reckons_j116 N AG u2 (nI k) (nI i) (nI (qC m k d i)) := e1
      have hau2 : rb_ms m u2 := hau1.tr (e2.mono (by decide) (by decide) (by decide) (by decide))
      obtain ⟨j, g1, g2⟩ := q_own hE hk (show i < S by omega) hd
      have hj : qm (nI j) = j := by unfold qm; rw [pz_nI (by omega)]; rfl
      obtain ⟨u3, f1, f2, f3⟩ := q_divm (N := N) (ag23 := AG) (v1 := nI k) (v2 := nI i) (P := qp m k d i) hd1 hd hle (Nat.le_of_eq (qH_sum hE hk (show i < S by omega) d hd)) g1 12 0 N u2 (by omega) (by omega) (fun o ho => by
        rw [e2.2.2.1 16 (by decide), d2.2.2.1 16 (by decide), b2.2.2.1 16 (by decide), hP o ho]
        rfl) e4 (by rw [e3 hd1, g2]) (by rw [hau2.1 10 (by decide)]; exact hdm)
      have f1' : fM9_reckons_j116 N AG u2 (nI k) (nI i) (nI (qC m k d i)) = AG u3 (nI i + 1) := f1
      rw [d1', e1', f1', pz_succ]
      obtain ⟨u', c1, c2, c3⟩ := ih (i + 1) f u3 (by omega) (by omega) (hau2.tr (f2.mono (by decide) (by decide) (by decide) (by decide))) (fun o ho => by
        rw [f3 o ho]
        show _ = nI (qp m k d i o + _)
        rw [if_neg q, g2, hj])
      exact ⟨u', by rw [hAG]; exact c1, c2, c3⟩
theorem q_zeroM {N : Nat} {v1 : Int32} : ∀ (r i f : Nat) (u : zs_T), i + r = 12 → r < f → (∀ o, o < i → zs_a u 16 o = 0) → ∃ u', zf_loop (fun ag x => fM9_reckons_b2 N v1 (fun u v4 => ag (u, v4)) x.1 x.2) f (u, nI i) = fM9_reckons_j21 N u' v1 ∧ zg_ag [] [] [16] [] u u' ∧ ∀ o, o < 12 → zs_a u' 16 o = 0 := by
  intro r
  induction r with
  | zero =>
    intro i f u hi hf h0
    obtain ⟨f, rfl⟩ : ∃ f', f = f' + 1 := ⟨f - 1, by omega⟩
    obtain rfl : i = 12 := by omega
    rw [zf_loop_s]
    refine ⟨u, ?_, zg_ag.rf, h0⟩
    show fM9_reckons_b2 N v1 _ u (nI 12) = _
    unfold fM9_reckons_b2
    rw [if_pos (show (12 : Int32) ≤ nI 12 by decide)]
  | succ r ih =>
    intro i f u hi hf h0
    obtain ⟨f, rfl⟩ : ∃ f', f = f' + 1 := ⟨f - 1, by omega⟩
    rw [zf_loop_s]
    obtain ⟨AG, hAG⟩ : ∃ A : zs_T → Int32 → Option zs_T, A = fun u v4 => zf_loop (fun ag x => fM9_reckons_b2 N v1 (fun u v4 => ag (u, v4)) x.1 x.2) f (u, v4) := ⟨_, rfl⟩
    show ∃ u', fM9_reckons_b2 N v1 (fun u v4 => zf_loop (fun ag x => fM9_reckons_b2 N v1 (fun u v4 => ag (u, v4)) x.1 x.2) f (u, v4)) u (nI i) = _ ∧ _
    rw [← hAG]
    unfold fM9_reckons_b2
    have hz : zf_in (nI i) 12 = true := pz_in (by omega) (by decide)
    rw [if_neg (show ¬ (12 : Int32) ≤ nI i from nI_ge (b := 12) (by omega) (by omega)), if_pos hz, pz_cl (show i < 2 ^ 31 by omega), pz_succ]
    obtain ⟨u', b1, b2, b3⟩ := ih (i + 1) f (zs_sa u 16 (upd (zs_a u 16) i 0)) (by omega) (by omega) (fun o ho => by
      show upd (zs_a u 16) i 0 o = 0
      rw [pz_upd]
      by_cases q : o = i
      · rw [if_pos q]
      · rw [if_neg q]; exact h0 o (by omega))
    exact ⟨u', by rw [hAG]; exact b1, (zg_ag.rf.sa (by decide)).tr b2, b3⟩
theorem q_partM {N n S k d : Nat} {x m : zs_T} (hN : 200 ≤ N) (hE : rb_E S n x m) (hR : rb_R x m) (hk : k ≤ n) (hd : d ≤ 150) (hdm : zs_i m 10 = nI d) : ∃ m', fM9_reckons N m (nI k) = some m' ∧ rb_ms m m' ∧ ∀ o, o < 12 → zs_a m' 16 o = nI (qp m k d S o) := by
  have hS := hE.1.2.2
  obtain ⟨u1, d1, d2, d3⟩ := q_zeroM (N := N) (v1 := nI k) 12 0 N m (by omega) (by omega) (fun o ho => by omega)
  have d1' : fM9_reckons N m (nI k) = fM9_reckons_j21 N u1 (nI k) := d1
  rw [d1']
  exact q_sheepM hN hE hR hk hd hdm S 0 N u1 (by omega) (by omega) (d2.mono (by decide) (by decide) (by decide) (by decide)) (fun o ho => by rw [d3 o ho]; rfl)
theorem q_sheepX {N n S k d : Nat} {x m : zs_T} (hN : 200 ≤ N) (hE : rb_E S n x m) (hR : rb_R x m) (hk : k ≤ n) (hd : d ≤ 150) : ∀ (r i f : Nat) (u : zs_T), i + r = S → r < f → rb_xs x u → (∀ o, o < 12 → zs_a u 20 o = nI (qp m k d i o)) → ∃ u', zf_loop (fun ag x => fX0_shareOut_b11 N (nI k) (nI d) (fun u v2 => ag (u, v2)) x.1 x.2) f (u, nI i) = some u' ∧ rb_xs x u' ∧ ∀ o, o < 12 → zs_a u' 20 o = nI (qp m k d S o) := by
  have hS := hE.1.2.2
  intro r
  induction r with
  | zero =>
    intro i f u hi hf ha hP
    obtain ⟨f, rfl⟩ : ∃ f', f = f' + 1 := ⟨f - 1, by omega⟩
    obtain rfl : i = S := by omega
    rw [zf_loop_s]
    refine ⟨u, ?_, ha, hP⟩
    show fX0_shareOut_b11 N (nI k) (nI d) _ u (nI i) = _
    unfold fX0_shareOut_b11
    rw [ha.1 12 (by decide), hE.1.1, if_pos (nI_le (by omega) (by omega))]
  | succ r ih =>
    intro i f u hi hf ha hP
    obtain ⟨f, rfl⟩ : ∃ f', f = f' + 1 := ⟨f - 1, by omega⟩
    rw [zf_loop_s]
    obtain ⟨AG, hAG⟩ : ∃ A : zs_T → Int32 → Option zs_T, A = fun u v2 => zf_loop (fun ag x => fX0_shareOut_b11 N (nI k) (nI d) (fun u v2 => ag (u, v2)) x.1 x.2) f (u, v2) := ⟨_, rfl⟩
    show ∃ u', fX0_shareOut_b11 N (nI k) (nI d) (fun u v2 => zf_loop (fun ag x => fX0_shareOut_b11 N (nI k) (nI d) (fun u v2 => ag (u, v2)) x.1 x.2) f (u, v2)) u (nI i) = _ ∧ _
    rw [← hAG]
    unfold fX0_shareOut_b11
    have hEu := rb_E_sc hE ha (zg_ag.rf (u := m))
    obtain ⟨m1, b1, b2⟩ := q_credX hN hEu (rb_R_sc hR ha (zg_ag.rf (u := m))) (k := k) (s := i) (d := d) hk (by omega) hd
    rw [ha.1 12 (by decide), hE.1.1, if_neg (nI_ge (by omega) (by omega)), b1, zf_bi_s, pz_succ]
    have hle := qC_le hE (show i < S by omega) k d
    have ha1 : rb_xs x m1 := ha.tr (px_xs b2)
    by_cases q : qC m k d i = 0
    · rw [if_pos (by rw [q]; decide)]
      obtain ⟨u', c1, c2, c3⟩ := ih (i + 1) f m1 (by omega) (by omega) ha1 (fun o ho => by
        rw [b2.2.2.1 20 (by decide), hP o ho]
        show _ = nI (qp m k d i o + _)
        rw [if_pos q]
        rfl)
      exact ⟨u', by rw [hAG]; exact c1, c2, c3⟩
    · rw [if_neg (nI_nle (by omega) (by omega))]
      have hd1 : 1 ≤ d := by
        rcases Nat.eq_zero_or_pos d with z | z
        · exact absurd (show qC m k d i = 0 by unfold qC; rw [if_pos z]) q
        · exact z
      obtain ⟨u2, e1, e2, e3⟩ := q_rep hN (rb_E_sc hE ha1 (zg_ag.rf (u := m))) hk (show i < S by omega) hd
      obtain ⟨j, g1, g2⟩ := q_own hE hk (show i < S by omega) hd
      have hj : qm (nI j) = j := by unfold qm; rw [pz_nI (by omega)]; rfl
      have h14 : zs_i u2 14 = nI j := (congrArg (fun z => z.2.2) e3.1).trans g2
      have hau2 : rb_xs x u2 := ha1.tr (px_xs e2)
      obtain ⟨u3, f1, f2, f3⟩ := q_divl (N := N) (P := qp m k d i) hd1 hd hle (Nat.le_of_eq (qH_sum hE hk (show i < S by omega) d hd)) g1 12 0 N u2 (by omega) (by omega) (fun o ho => by
        rw [e2.2.2.1 20 (by decide), b2.2.2.1 20 (by decide), hP o ho]
        rfl) e3.2.2.2.1 h14
      have f1' : fX0_divide N u2 (nI (qC m k d i)) (nI d) = some u3 := by
        unfold fX0_divide
        rw [if_pos (show (1 : Int32) ≤ nI d from nI_le (a := 1) hd1 (by omega))]
        exact f1
      rw [e1, zf_bi_s, f1', zf_bv_s]
      obtain ⟨u', c1, c2, c3⟩ := ih (i + 1) f u3 (by omega) (by omega) (hau2.tr (f2.mono (by decide) (by decide) (by decide) (by decide))) (fun o ho => by
        rw [f3 o ho]
        show _ = nI (qp m k d i o + _)
        rw [if_neg q, g2, hj])
      exact ⟨u', by rw [hAG]; exact c1, c2, c3⟩
theorem q_partX {N n S k d : Nat} {x m : zs_T} (hN : 200 ≤ N) (hE : rb_E S n x m) (hR : rb_R x m) (hk : k ≤ n) (hd : d ≤ 150) : ∃ x', fX0_shareOut N x (nI k) (nI d) = some x' ∧ rb_xs x x' ∧ ∀ o, o < 12 → zs_a x' 20 o = nI (qp m k d S o) := by
  have hS := hE.1.2.2
  exact q_sheepX hN hE hR hk hd S 0 N (zs_sa x 20 (zf_fill 12 0 (zs_a x 20))) (by omega) (by omega) (zg_ag.rf.sa (by decide)) (fun o ho => by
    show zf_fill 12 0 (zs_a x 20) o = nI 0
    simp only [zf_fill, if_pos ho]
    rfl)
theorem sb_part {N k : Nat} {x m : zs_T} (hN : 200 ≤ N) (hI : rb_I k x m) (a1 a2 : Int32) : zl_part N x m (rb_I (k + 1)) a1 a2 := by
  have hM := rb_mono k x m hI
  obtain ⟨c, hh, d, w, S, n, hT, hR, hA, hP, hE, hL⟩ := id hM
  obtain ⟨q1, q2, q3, q4⟩ := id hE
  obtain ⟨d1, d2, d3⟩ := hA.2.2.2.2.1
  unfold zl_part fX8_part fM9_part
  rw [pf_know q2.1 q2.2.2, pf_mk q2.2.1 q2.2.2, pf_isOwner, pf_b01, pf_b01, pf_b01, d1]
  simp only [pz_le, pz_lt, Int32.reduceToInt]
  by_cases p : (0 ≤ a1.toInt ∧ a1.toInt ≤ n) ∧ (0 ≤ a2.toInt ∧ a2.toInt ≤ 11)
  · obtain ⟨p1, p3⟩ := p
    obtain ⟨i, hi, rfl⟩ := pz_of p1.1
    obtain ⟨o, ho, rfl⟩ := pz_of p3.1
    rw [if_pos p1, if_pos p3, if_pos p1, if_neg (show ¬ (nI o).toInt < 0 by omega), if_pos (show (nI o).toInt < 12 by omega)]
    rw [pz_nI hi] at p1
    rw [pz_nI ho] at p3
    have hz : zf_in (nI o) 12 = true := pz_in (by omega) (by decide)
    obtain ⟨x', b1, b2, b3⟩ := q_partX hN hE hR (k := i) (d := d) (by omega) d3
    obtain ⟨m', c1, c2, c3⟩ := q_partM hN hE hR (k := i) (d := d) (by omega) d3 d2
    rw [b1, c1, zf_bv_s, zf_bv_s, if_pos hz, if_pos hz, pz_cl ho, b3 o (by omega), c3 o (by omega)]
    exact ⟨_, x', m', rfl, rfl, rb_I_ag hM b2 c2⟩
  · refine ⟨-1, x, m, ?_, ?_, hM⟩
    · repeat' split
      all_goals first | rfl | (exfalso; omega)
    · repeat' split
      all_goals first | rfl | (exfalso; omega)
