theorem rb_E_ag {S n : Nat} {x m x' m' : zs_T} (h : rb_E S n x m) (hx : px_ag x x') (hm : pa_ag m m') : rb_E S n x' m' := by
  obtain ⟨xi, xl, xa, xb⟩ := hx
  obtain ⟨mi, ml, ma, mb⟩ := hm
  refine rb_E_of h ?_ ?_
  · exact ⟨xi _ (by decide), xi _ (by decide), xi _ (by decide), xa _ (by decide), xa _ (by decide), xa _ (by decide), xa _ (by decide), xa _ (by decide), xa _ (by decide), xa _ (by decide), xa _ (by decide)⟩
  · exact ⟨mi _ (by decide), mi _ (by decide), mi _ (by decide), ma _ (by decide), ma _ (by decide), ma _ (by decide), ma _ (by decide), ma _ (by decide), ma _ (by decide), ma _ (by decide)⟩
/-- the state of sheep s behind day d, all entries known -/
def pn_s (m : zs_T) (n d s : Nat) : pz_S := pn_S (zs_a m 11) (zs_a m 12) (zs_a m 13) (zs_a m 14) n s (rb_st m s) d
theorem pn_s_ag {m m' : zs_T} (h : pa_ag m m') (n d s : Nat) : pn_s m' n d s = pn_s m n d s := by
  unfold pn_s rb_st
  rw [h.2.2.1 11 (by decide), h.2.2.1 12 (by decide), h.2.2.1 13 (by decide), h.2.2.1 14 (by decide), h.2.2.1 10 (by decide), h.2.2.1 8 (by decide)]
/-- how many of the first sheep are alive and of owner o -/
def pn_liv (m : zs_T) (n d : Nat) (o : Int32) : Nat → Nat
  | 0 => 0
  | s + 1 => pn_liv m n d o s + (if (pn_s m n d s).2.1 = 0 ∧ (pn_s m n d s).2.2 = o then 1 else 0)
theorem pn_liv_le (m : zs_T) (n d : Nat) (o : Int32) : ∀ s, pn_liv m n d o s ≤ s
  | 0 => Nat.le_refl _
  | s + 1 => by
    have := pn_liv_le m n d o s
    unfold pn_liv
    split <;> omega
theorem pt_liv {N S n d : Nat} {x m : zs_T} {o : Int32} (hN : 200 ≤ N) (hE : rb_E S n x m) (hd : d ≤ 150) : ∀ (r i f : Nat) (u : zs_T), i + r = S → r < f → px_ag x u → ∃ x', zf_loop (fun ag x => fX4_livingOf_b6 N o (nI d) (fun u v4 v5 => ag (u, v4, v5)) x.1 x.2.1 x.2.2) f (u, nI (pn_liv m n d o i), nI i) = some (nI (pn_liv m n d o S), x') ∧ px_ag x x' := by
  have hS := hE.1.2.2
  intro r
  induction r with
  | zero =>
    intro i f u hi hf ha
    obtain ⟨f, rfl⟩ : ∃ f', f = f' + 1 := ⟨f - 1, by omega⟩
    rw [zf_loop_s]
    refine ⟨u, ?_, ha⟩
    show fX4_livingOf_b6 N o (nI d) _ u (nI (pn_liv m n d o i)) (nI i) = _
    unfold fX4_livingOf_b6
    rw [ha.1 12 (by decide), hE.1.1, if_pos (nI_le (by omega) (by omega)), show i = S by omega]
  | succ r ih =>
    intro i f u hi hf ha
    obtain ⟨f, rfl⟩ : ∃ f', f = f' + 1 := ⟨f - 1, by omega⟩
    rw [zf_loop_s]
    obtain ⟨AG, hAG⟩ : ∃ A : zs_T → Int32 → Int32 → Option (Int32 × zs_T), A = fun u v4 v5 => zf_loop (fun ag x => fX4_livingOf_b6 N o (nI d) (fun u v4 v5 => ag (u, v4, v5)) x.1 x.2.1 x.2.2) f (u, v4, v5) := ⟨_, rfl⟩
    show ∃ x', fX4_livingOf_b6 N o (nI d) (fun u v4 v5 => zf_loop (fun ag x => fX4_livingOf_b6 N o (nI d) (fun u v4 v5 => ag (u, v4, v5)) x.1 x.2.1 x.2.2) f (u, v4, v5)) u (nI (pn_liv m n d o i)) (nI i) = _ ∧ _
    rw [← hAG]
    unfold fX4_livingOf_b6
    have hE' := rb_E_ag hE ha (zg_ag.rf (u := m))
    obtain ⟨x', b1, b2, b3⟩ := px_replay hN hE' (k := n) (s := i) (last := d) (Nat.le_refl _) (by omega) hd
    have e14 : zs_i x' 14 = (pn_s m n d i).2.2 := congrArg (fun z => z.2.2) b3.1
    have e16 : zs_i x' 16 = (pn_s m n d i).2.1 := congrArg (fun z => z.2.1) b3.1
    rw [hE'.1.1, if_neg (nI_ge (by omega) (by omega)), hE'.2.1.1, b1, zf_bi_s, e14, e16, pz_succ, pz_succ]
    have hnext : AG x' (nI (pn_liv m n d o (i + 1))) (nI (i + 1)) = zf_loop (fun ag x => fX4_livingOf_b6 N o (nI d) (fun u v4 v5 => ag (u, v4, v5)) x.1 x.2.1 x.2.2) f (x', nI (pn_liv m n d o (i + 1)), nI (i + 1)) := by rw [hAG]
    obtain ⟨x2, c1, c2⟩ := ih (i + 1) f x' (by omega) (by omega) (ha.tr b2)
    refine ⟨x2, ?_, c2⟩
    rw [← c1, ← hnext, show pn_liv m n d o (i + 1) = pn_liv m n d o i + (if (pn_s m n d i).2.1 = 0 ∧ (pn_s m n d i).2.2 = o then 1 else 0) from rfl]
    by_cases p1 : (pn_s m n d i).2.1 = 0
    · by_cases p2 : (pn_s m n d i).2.2 = o
      · rw [if_pos p1, if_pos p2, if_pos ⟨p1, p2⟩]
      · rw [if_pos p1, if_neg p2, if_neg (fun h => p2 h.2)]; rfl
    · rw [if_neg p1, if_neg (fun h => p1 h.1)]; rfl
theorem pt_herd {N S n d : Nat} {x m : zs_T} {o : Int32} (hN : 200 ≤ N) (hE : rb_E S n x m) (hd : d ≤ 150) (hdm : zs_i m 10 = nI d) : ∀ (r i f : Nat) (u : zs_T), i + r = S → r < f → pa_ag m u → ∃ m', zf_loop (fun ag x => fM9_herd_b4 N o (fun u v2 v3 => ag (u, v2, v3)) x.1 x.2.1 x.2.2) f (u, nI (pn_liv m n d o i), nI i) = some (nI (pn_liv m n d o S), m') ∧ pa_ag m m' := by
  have hS := hE.1.2.2
  intro r
  induction r with
  | zero =>
    intro i f u hi hf ha
    obtain ⟨f, rfl⟩ : ∃ f', f = f' + 1 := ⟨f - 1, by omega⟩
    rw [zf_loop_s]
    refine ⟨u, ?_, ha⟩
    show fM9_herd_b4 N o _ u (nI (pn_liv m n d o i)) (nI i) = _
    unfold fM9_herd_b4
    rw [ha.1 15 (by decide), hE.1.2.1, if_pos (nI_le (by omega) (by omega)), show i = S by omega]
  | succ r ih =>
    intro i f u hi hf ha
    obtain ⟨f, rfl⟩ : ∃ f', f = f' + 1 := ⟨f - 1, by omega⟩
    rw [zf_loop_s]
    obtain ⟨AG, hAG⟩ : ∃ A : zs_T → Int32 → Int32 → Option (Int32 × zs_T), A = fun u v2 v3 => zf_loop (fun ag x => fM9_herd_b4 N o (fun u v2 v3 => ag (u, v2, v3)) x.1 x.2.1 x.2.2) f (u, v2, v3) := ⟨_, rfl⟩
    show ∃ m', fM9_herd_b4 N o (fun u v2 v3 => zf_loop (fun ag x => fM9_herd_b4 N o (fun u v2 v3 => ag (u, v2, v3)) x.1 x.2.1 x.2.2) f (u, v2, v3)) u (nI (pn_liv m n d o i)) (nI i) = _ ∧ _
    rw [← hAG]
    unfold fM9_herd_b4
    have hE' := rb_E_ag hE (zg_ag.rf (u := x)) ha
    obtain ⟨m', b1, b2, b3⟩ := pa_asks2 hN hE' (k := n) (s := i) (d := d) (Nat.le_refl _) (by omega) hd
    have b4 : pa_st m' = pn_s m n d i := b3.trans (pn_s_ag ha n d i)
    have e20 : zs_i m' 20 = (pn_s m n d i).2.2 := congrArg (fun z => z.2.2) b4
    have e19 : zs_i m' 19 = (pn_s m n d i).2.1 := congrArg (fun z => z.2.1) b4
    rw [hE'.1.2.1, if_neg (nI_ge (by omega) (by omega)), hE'.2.1.2.1, ha.1 10 (by decide), hdm, b1, zf_bi_s, e20, e19, pz_succ, pz_succ, show nI (pn_liv m n d o i) + 0 = nI (pn_liv m n d o i + 0) from nI_add _ 0]
    obtain ⟨m2, c1, c2⟩ := ih (i + 1) f m' (by omega) (by omega) (ha.tr b2)
    have hnext : AG m' (nI (pn_liv m n d o (i + 1))) (nI (i + 1)) = some (nI (pn_liv m n d o S), m2) := by rw [hAG]; exact c1
    refine ⟨m2, ?_, c2⟩
    rw [← hnext, show pn_liv m n d o (i + 1) = pn_liv m n d o i + (if (pn_s m n d i).2.1 = 0 ∧ (pn_s m n d i).2.2 = o then 1 else 0) from rfl]
    by_cases p1 : (pn_s m n d i).2.1 = 0
    · by_cases p2 : (pn_s m n d i).2.2 = o
      · rw [if_pos p2, if_pos p1, if_pos ⟨p1, p2⟩]
      · rw [if_neg p2, if_neg (fun h => p2 h.2)]
    · by_cases p2 : (pn_s m n d i).2.2 = o
      · rw [if_pos p2, if_neg p1, if_neg (fun h => p1 h.1)]
      · rw [if_neg p2, if_neg (fun h => p2 h.2)]
