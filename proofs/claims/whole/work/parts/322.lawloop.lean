set_option maxHeartbeats 8000000 in
set_option maxRecDepth 100000 in
theorem law_loop {p : Program} {e : Env} {s : State} {m : MethodId} {below : List Frame} {meth : Method} {c : Code} (l : Launch) {b L : Nat} {xs : Nat → Int32} (hL : L ≤ 3072) (C0 : lw_At p s m meth c b L xs) {c0 : Cond} (C : CallFix p m c cL_law 4 s #[Value.ref b] (c0 :: zw_all) RL) {N : Nat} {I : Nat → zs_T → zs_T → Prop} (hall : zl_all N I) (hmono : ∀ k x m, I k x m → I (k + 1) x m) {D : va_G} {cs : Nat → ClassId} {A : Nat → Prop} {qx qm : Nat → Nat} (hbA : ¬ A b) (hfr : ∀ a, A a → s.heap.size ≤ a) : ∀ (d k : Nat), 512 - k < d → 6 * k ≤ L → ∀ (x m9 : zs_T), I k x m9 → ∀ (H : Heap) (locs : List Loc) (ls : Array Slot), zg_W D cs A s (wX qx cs x ++ wM qm cs m9) H locs → lv_has ls 4 [(0, .ref b), (1, .ref (qx 0)), (2, .ref (qm 0)), (3, .int (nI (6 * k)))] → W p l e room_1 s m #[Value.ref b] below meth c H locs 58 1882 (lw_Z below #[Value.ref b] s) (F0 m 18 ls []) := by
  obtain ⟨hx, hb, hr, hml, hown, hts, hX, hbl, hlocks, hgv⟩ := id C0
  intro d
  induction d with
  | zero => intro k h; exact absurd h (Nat.not_lt_zero _)
  | succ d ih =>
    intro k hd hk x m9 hI H locs ls w hl
    refine lv_iload_n hx hb dL_law_18 rfl (lv_at hl 3 rfl) ?_
    refine lv_aload_n hx hb dL_law_19 rfl (lv_at hl 0 rfl) ?_
    refine va_slen hx hb hX hbl hbA w.2.2.1 dL_law_20 ?_
    refine lv_bipush (v := 6) hx hb dL_law_21 (by decide) ?_
    refine lv_isub hx hb dL_law_23 ?_
    have e6 : (Int32.ofNat L - 6).toInt = (L : Int) - 6 := pk_sub_toInt (a := L) (b := 6) (by omega) (by decide)
    have e7 : (nI (6 * k)).toInt = ((6 * k : Nat) : Int) := nI_toInt (by omega)
    refine lv_icmp_gt (tgt := 870) hx hb dL_law_24 (by decide) (fun h => ?_) (fun h => ?_)
    · refine lv_iconst (v := 1) hx hb dL_law_870 (by decide) ?_
      refine va_forget (fun q hq => hfr _ (w.2.2.1.2.2 q hq)) ?_
      refine W.widen (k := 600000) (n := 7302250) (by decide) (by decide) ?_
      exact lw_ret hx hb hr hlocks dL_law_871
    · have h6 : 6 * k + 6 ≤ L := by
        rcases Nat.lt_or_ge L (6 * k + 6) with q | q
        · exact absurd (Int32.lt_iff_toInt_lt.mpr (by rw [e6, e7]; omega)) h
        · exact q
      have hk5 : k < 512 := by omega
      have hi0 : vp_in (nI (6 * k)) L := vp_in_nI (by omega) (by omega)
      have hi1 : vp_in (nI (6 * k) + 1) L := by have h9 := vp_in_nI (n := 6 * k + 1) (N := L) (by omega) (by omega); rw [← nI_add] at h9; exact h9
      have hi2 : vp_in (nI (6 * k) + 2) L := by have h9 := vp_in_nI (n := 6 * k + 2) (N := L) (by omega) (by omega); rw [← nI_add] at h9; exact h9
      have hi3 : vp_in (nI (6 * k) + 3) L := by have h9 := vp_in_nI (n := 6 * k + 3) (N := L) (by omega) (by omega); rw [← nI_add] at h9; exact h9
      have hi4 : vp_in (nI (6 * k) + 4) L := by have h9 := vp_in_nI (n := 6 * k + 4) (N := L) (by omega) (by omega); rw [← nI_add] at h9; exact h9
      have hi5 : vp_in (nI (6 * k) + 5) L := by have h9 := vp_in_nI (n := 6 * k + 5) (N := L) (by omega) (by omega); rw [← nI_add] at h9; exact h9
      have hnext : ∀ (x1 m1 : zs_T), I (k + 1) x1 m1 → ∀ (H : Heap) (locs : List Loc) (ls : Array Slot), zg_W D cs A s (wX qx cs x1 ++ wM qm cs m1) H locs → lv_has ls 4 [(0, .ref b), (1, .ref (qx 0)), (2, .ref (qm 0)), (3, .int (nI (6 * k)))] → W p l e room_1 s m #[Value.ref b] below meth c H locs 58 1882 (lw_Z below #[Value.ref b] s) (F0 m 864 ls []) := by
        intro x1 m1 hI1 H locs ls w hl
        refine lv_iinc (v := nI (6 * (k + 1))) (lv' := [(3, .int (nI (6 * (k + 1)))), (0, .ref b), (1, .ref (qx 0)), (2, .ref (qm 0))]) hx hb dL_law_864 hl (k := 3) rfl (nI_add (6 * k) 6) (by decide) rfl (fun ls hl => ?_)
        refine lv_goto (tgt := 18) hx hb dL_law_867 (by decide) ?_
        exact ih (k + 1) (by omega) (by omega) x1 m1 hI1 H locs ls w (lv_sub hl [1, 2, 3, 0] rfl)
      have hst := hall k x m9 hk5 hI (xs (nI (6 * k) + 1).toNatClampNeg) (xs (nI (6 * k) + 2).toNatClampNeg) (xs (nI (6 * k) + 3).toNatClampNeg) (xs (nI (6 * k) + 4).toNatClampNeg) (xs (nI (6 * k) + 5).toNatClampNeg)
      refine lv_aload_n hx hb dL_law_27 rfl (lv_at hl 0 rfl) ?_
      refine lv_iload_n hx hb dL_law_28 rfl (lv_at hl 3 rfl) ?_
      refine va_sld hx hb hX hbl hbA w.2.2.1 hi0 dL_law_29 ?_
      refine lv_bipush (v := 31) hx hb dL_law_30 (by decide) ?_
      refine lv_iand hx hb dL_law_32 ?_
      refine lv_topi (fun sv _ => ?_)
      by_cases h100 : sv = 0
      · refine lv_tableIn (off := 103) (tgt := 136) hx hb dL_law_33 (by rw [h100]; decide) (by rw [h100]; decide) (by rw [h100]; rfl) (by decide) ?_
        obtain ⟨r, x1, m1, hX1, hM1, hI1⟩ := hst.1
        refine lv_aload_n hx hb dL_law_136 rfl (lv_at hl 1 rfl) ?_
        refine lv_aload_n hx hb dL_law_137 rfl (lv_at hl 0 rfl) ?_
        refine lv_iload_n hx hb dL_law_138 rfl (lv_at hl 3 rfl) ?_
        refine lv_iconst (v := 1) hx hb dL_law_139 (by decide) ?_
        refine lv_iadd hx hb dL_law_140 ?_
        refine va_sld hx hb hX hbl hbA w.2.2.1 hi1 dL_law_141 ?_
        refine lv_aload_n hx hb dL_law_142 rfl (lv_at hl 0 rfl) ?_
        refine lv_iload_n hx hb dL_law_143 rfl (lv_at hl 3 rfl) ?_
        refine lv_iconst (v := 2) hx hb dL_law_144 (by decide) ?_
        refine lv_iadd hx hb dL_law_145 ?_
        refine va_sld hx hb hX hbl hbA w.2.2.1 hi2 dL_law_146 ?_
        refine lv_aload_n hx hb dL_law_147 rfl (lv_at hl 0 rfl) ?_
        refine lv_iload_n hx hb dL_law_148 rfl (lv_at hl 3 rfl) ?_
        refine lv_iconst (v := 3) hx hb dL_law_149 (by decide) ?_
        refine lv_iadd hx hb dL_law_150 ?_
        refine va_sld hx hb hX hbl hbA w.2.2.1 hi3 dL_law_151 ?_
        refine lv_aload_n hx hb dL_law_152 rfl (lv_at hl 0 rfl) ?_
        refine lv_iload_n hx hb dL_law_153 rfl (lv_at hl 3 rfl) ?_
        refine lv_iconst (v := 4) hx hb dL_law_154 (by decide) ?_
        refine lv_iadd hx hb dL_law_155 ?_
        refine va_sld hx hb hX hbl hbA w.2.2.1 hi4 dL_law_156 ?_
        refine lv_aload_n hx hb dL_law_157 rfl (lv_at hl 0 rfl) ?_
        refine lv_iload_n hx hb dL_law_158 rfl (lv_at hl 3 rfl) ?_
        refine lv_iconst (v := 5) hx hb dL_law_159 (by decide) ?_
        refine lv_iadd hx hb dL_law_160 ?_
        refine va_sld hx hb hX hbl hbA w.2.2.1 hi5 dL_law_161 ?_
        refine zl_ri wX_ad w (zc_V C (zl_w1 w) (kX8_feed l D qx cs N x _ _ _ _ _ (r, x1) hX1 _) cf_8_feed ci_8_feed ll_13 rcX_0 ⟨Nat.le_of_ble_eq_true rfl, Nat.le_of_ble_eq_true rfl⟩ hl.1 rfl (Nat.le_of_ble_eq_true rfl) dL_law_162 ⟨Nat.le_of_ble_eq_true rfl, Nat.le_of_ble_eq_true rfl⟩) (fun H locs w => ?_)
        refine lv_aload_n hx hb dL_law_165 rfl (lv_at hl 2 rfl) ?_
        refine lv_aload_n hx hb dL_law_166 rfl (lv_at hl 0 rfl) ?_
        refine lv_iload_n hx hb dL_law_167 rfl (lv_at hl 3 rfl) ?_
        refine lv_iconst (v := 1) hx hb dL_law_168 (by decide) ?_
        refine lv_iadd hx hb dL_law_169 ?_
        refine va_sld hx hb hX hbl hbA w.2.2.1 hi1 dL_law_170 ?_
        refine lv_aload_n hx hb dL_law_171 rfl (lv_at hl 0 rfl) ?_
        refine lv_iload_n hx hb dL_law_172 rfl (lv_at hl 3 rfl) ?_
        refine lv_iconst (v := 2) hx hb dL_law_173 (by decide) ?_
        refine lv_iadd hx hb dL_law_174 ?_
        refine va_sld hx hb hX hbl hbA w.2.2.1 hi2 dL_law_175 ?_
        refine lv_aload_n hx hb dL_law_176 rfl (lv_at hl 0 rfl) ?_
        refine lv_iload_n hx hb dL_law_177 rfl (lv_at hl 3 rfl) ?_
        refine lv_iconst (v := 3) hx hb dL_law_178 (by decide) ?_
        refine lv_iadd hx hb dL_law_179 ?_
        refine va_sld hx hb hX hbl hbA w.2.2.1 hi3 dL_law_180 ?_
        refine lv_aload_n hx hb dL_law_181 rfl (lv_at hl 0 rfl) ?_
        refine lv_iload_n hx hb dL_law_182 rfl (lv_at hl 3 rfl) ?_
        refine lv_iconst (v := 4) hx hb dL_law_183 (by decide) ?_
        refine lv_iadd hx hb dL_law_184 ?_
        refine va_sld hx hb hX hbl hbA w.2.2.1 hi4 dL_law_185 ?_
        refine lv_aload_n hx hb dL_law_186 rfl (lv_at hl 0 rfl) ?_
        refine lv_iload_n hx hb dL_law_187 rfl (lv_at hl 3 rfl) ?_
        refine lv_iconst (v := 5) hx hb dL_law_188 (by decide) ?_
        refine lv_iadd hx hb dL_law_189 ?_
        refine va_sld hx hb hX hbl hbA w.2.2.1 hi5 dL_law_190 ?_
        refine zl_ri wM_ad w (zc_V C (zl_w1 w) (kM9_feed l D qm cs N m9 _ _ _ _ _ (r, m1) hM1 _) cf_9_feed ci_9_feed ll_17 rcM_0 ⟨Nat.le_of_ble_eq_true rfl, Nat.le_of_ble_eq_true rfl⟩ hl.1 rfl (Nat.le_of_ble_eq_true rfl) dL_law_191 ⟨Nat.le_of_ble_eq_true rfl, Nat.le_of_ble_eq_true rfl⟩) (fun H locs w => ?_)
        refine lv_icmp_eq (tgt := 864) hx hb dL_law_194 (by decide) (fun _ => ?_) (fun h => absurd rfl h)
        exact hnext x1 m1 hI1 H locs ls w hl
      by_cases h101 : sv = 1
      · refine lv_tableIn (off := 166) (tgt := 199) hx hb dL_law_33 (by rw [h101]; decide) (by rw [h101]; decide) (by rw [h101]; rfl) (by decide) ?_
        obtain ⟨r, x1, m1, hX1, hM1, hI1⟩ := hst.2.1
        refine lv_aload_n hx hb dL_law_199 rfl (lv_at hl 1 rfl) ?_
        refine lv_aload_n hx hb dL_law_200 rfl (lv_at hl 0 rfl) ?_
        refine lv_iload_n hx hb dL_law_201 rfl (lv_at hl 3 rfl) ?_
        refine lv_iconst (v := 1) hx hb dL_law_202 (by decide) ?_
        refine lv_iadd hx hb dL_law_203 ?_
        refine va_sld hx hb hX hbl hbA w.2.2.1 hi1 dL_law_204 ?_
        refine zl_ri wX_ad w (zc_V C (zl_w1 w) (kX8_rules l D qx cs N x _ (r, x1) hX1 _) cf_8_rules ci_8_rules ll_18 rcX_0 ⟨Nat.le_of_ble_eq_true rfl, Nat.le_of_ble_eq_true rfl⟩ hl.1 rfl (Nat.le_of_ble_eq_true rfl) dL_law_205 ⟨Nat.le_of_ble_eq_true rfl, Nat.le_of_ble_eq_true rfl⟩) (fun H locs w => ?_)
        refine lv_aload_n hx hb dL_law_208 rfl (lv_at hl 2 rfl) ?_
        refine lv_aload_n hx hb dL_law_209 rfl (lv_at hl 0 rfl) ?_
        refine lv_iload_n hx hb dL_law_210 rfl (lv_at hl 3 rfl) ?_
        refine lv_iconst (v := 1) hx hb dL_law_211 (by decide) ?_
        refine lv_iadd hx hb dL_law_212 ?_
        refine va_sld hx hb hX hbl hbA w.2.2.1 hi1 dL_law_213 ?_
        refine zl_ri wM_ad w (zc_V C (zl_w1 w) (kM9_rules l D qm cs N m9 _ (r, m1) hM1 _) cf_9_rules ci_9_rules ll_22 rcM_0 ⟨Nat.le_of_ble_eq_true rfl, Nat.le_of_ble_eq_true rfl⟩ hl.1 rfl (Nat.le_of_ble_eq_true rfl) dL_law_214 ⟨Nat.le_of_ble_eq_true rfl, Nat.le_of_ble_eq_true rfl⟩) (fun H locs w => ?_)
        refine lv_icmp_eq (tgt := 864) hx hb dL_law_217 (by decide) (fun _ => ?_) (fun h => absurd rfl h)
        exact hnext x1 m1 hI1 H locs ls w hl
      by_cases h102 : sv = 2
      · refine lv_tableIn (off := 189) (tgt := 222) hx hb dL_law_33 (by rw [h102]; decide) (by rw [h102]; decide) (by rw [h102]; rfl) (by decide) ?_
        obtain ⟨r, x1, m1, hX1, hM1, hI1⟩ := hst.2.2.1
        refine lv_aload_n hx hb dL_law_222 rfl (lv_at hl 1 rfl) ?_
        refine lv_aload_n hx hb dL_law_223 rfl (lv_at hl 0 rfl) ?_
        refine lv_iload_n hx hb dL_law_224 rfl (lv_at hl 3 rfl) ?_
        refine lv_iconst (v := 1) hx hb dL_law_225 (by decide) ?_
        refine lv_iadd hx hb dL_law_226 ?_
        refine va_sld hx hb hX hbl hbA w.2.2.1 hi1 dL_law_227 ?_
        refine zl_ri wX_ad w (zc_V C (zl_w1 w) (kX8_alp l D qx cs x _ (r, x1) hX1 _) cf_8_alp ci_8_alp ll_23 rcX_0 ⟨Nat.le_of_ble_eq_true rfl, Nat.le_of_ble_eq_true rfl⟩ hl.1 rfl (Nat.le_of_ble_eq_true rfl) dL_law_228 ⟨Nat.le_of_ble_eq_true rfl, Nat.le_of_ble_eq_true rfl⟩) (fun H locs w => ?_)
        refine lv_aload_n hx hb dL_law_231 rfl (lv_at hl 2 rfl) ?_
        refine lv_aload_n hx hb dL_law_232 rfl (lv_at hl 0 rfl) ?_
        refine lv_iload_n hx hb dL_law_233 rfl (lv_at hl 3 rfl) ?_
        refine lv_iconst (v := 1) hx hb dL_law_234 (by decide) ?_
        refine lv_iadd hx hb dL_law_235 ?_
        refine va_sld hx hb hX hbl hbA w.2.2.1 hi1 dL_law_236 ?_
        refine zl_ri wM_ad w (zc_V C (zl_w1 w) (kM9_alp l D qm cs N m9 _ (r, m1) hM1 _) cf_9_alp ci_9_alp ll_27 rcM_0 ⟨Nat.le_of_ble_eq_true rfl, Nat.le_of_ble_eq_true rfl⟩ hl.1 rfl (Nat.le_of_ble_eq_true rfl) dL_law_237 ⟨Nat.le_of_ble_eq_true rfl, Nat.le_of_ble_eq_true rfl⟩) (fun H locs w => ?_)
        refine lv_icmp_eq (tgt := 864) hx hb dL_law_240 (by decide) (fun _ => ?_) (fun h => absurd rfl h)
        exact hnext x1 m1 hI1 H locs ls w hl
      by_cases h103 : sv = 3
      · refine lv_tableIn (off := 212) (tgt := 245) hx hb dL_law_33 (by rw [h103]; decide) (by rw [h103]; decide) (by rw [h103]; rfl) (by decide) ?_
        obtain ⟨r, x1, m1, hX1, hM1, hI1⟩ := hst.2.2.2.1
        refine lv_aload_n hx hb dL_law_245 rfl (lv_at hl 1 rfl) ?_
        refine lv_aload_n hx hb dL_law_246 rfl (lv_at hl 0 rfl) ?_
        refine lv_iload_n hx hb dL_law_247 rfl (lv_at hl 3 rfl) ?_
        refine lv_iconst (v := 1) hx hb dL_law_248 (by decide) ?_
        refine lv_iadd hx hb dL_law_249 ?_
        refine va_sld hx hb hX hbl hbA w.2.2.1 hi1 dL_law_250 ?_
        refine lv_aload_n hx hb dL_law_251 rfl (lv_at hl 0 rfl) ?_
        refine lv_iload_n hx hb dL_law_252 rfl (lv_at hl 3 rfl) ?_
        refine lv_iconst (v := 2) hx hb dL_law_253 (by decide) ?_
        refine lv_iadd hx hb dL_law_254 ?_
        refine va_sld hx hb hX hbl hbA w.2.2.1 hi2 dL_law_255 ?_
        refine lv_aload_n hx hb dL_law_256 rfl (lv_at hl 0 rfl) ?_
        refine lv_iload_n hx hb dL_law_257 rfl (lv_at hl 3 rfl) ?_
        refine lv_iconst (v := 3) hx hb dL_law_258 (by decide) ?_
        refine lv_iadd hx hb dL_law_259 ?_
        refine va_sld hx hb hX hbl hbA w.2.2.1 hi3 dL_law_260 ?_
        refine lv_aload_n hx hb dL_law_261 rfl (lv_at hl 0 rfl) ?_
        refine lv_iload_n hx hb dL_law_262 rfl (lv_at hl 3 rfl) ?_
        refine lv_iconst (v := 4) hx hb dL_law_263 (by decide) ?_
        refine lv_iadd hx hb dL_law_264 ?_
        refine va_sld hx hb hX hbl hbA w.2.2.1 hi4 dL_law_265 ?_
        refine zl_ri wX_ad w (zc_V C (zl_w1 w) (kX8_height l D qx cs x _ _ _ _ (r, x1) hX1 _) cf_8_height ci_8_height ll_28 rcX_0 ⟨Nat.le_of_ble_eq_true rfl, Nat.le_of_ble_eq_true rfl⟩ hl.1 rfl (Nat.le_of_ble_eq_true rfl) dL_law_266 ⟨Nat.le_of_ble_eq_true rfl, Nat.le_of_ble_eq_true rfl⟩) (fun H locs w => ?_)
        refine lv_aload_n hx hb dL_law_269 rfl (lv_at hl 2 rfl) ?_
        refine lv_aload_n hx hb dL_law_270 rfl (lv_at hl 0 rfl) ?_
        refine lv_iload_n hx hb dL_law_271 rfl (lv_at hl 3 rfl) ?_
        refine lv_iconst (v := 1) hx hb dL_law_272 (by decide) ?_
        refine lv_iadd hx hb dL_law_273 ?_
        refine va_sld hx hb hX hbl hbA w.2.2.1 hi1 dL_law_274 ?_
        refine lv_aload_n hx hb dL_law_275 rfl (lv_at hl 0 rfl) ?_
        refine lv_iload_n hx hb dL_law_276 rfl (lv_at hl 3 rfl) ?_
        refine lv_iconst (v := 2) hx hb dL_law_277 (by decide) ?_
        refine lv_iadd hx hb dL_law_278 ?_
        refine va_sld hx hb hX hbl hbA w.2.2.1 hi2 dL_law_279 ?_
        refine lv_aload_n hx hb dL_law_280 rfl (lv_at hl 0 rfl) ?_
        refine lv_iload_n hx hb dL_law_281 rfl (lv_at hl 3 rfl) ?_
        refine lv_iconst (v := 3) hx hb dL_law_282 (by decide) ?_
        refine lv_iadd hx hb dL_law_283 ?_
        refine va_sld hx hb hX hbl hbA w.2.2.1 hi3 dL_law_284 ?_
        refine lv_aload_n hx hb dL_law_285 rfl (lv_at hl 0 rfl) ?_
        refine lv_iload_n hx hb dL_law_286 rfl (lv_at hl 3 rfl) ?_
        refine lv_iconst (v := 4) hx hb dL_law_287 (by decide) ?_
        refine lv_iadd hx hb dL_law_288 ?_
        refine va_sld hx hb hX hbl hbA w.2.2.1 hi4 dL_law_289 ?_
        refine zl_ri wM_ad w (zc_V C (zl_w1 w) (kM9_height l D qm cs m9 _ _ _ _ (r, m1) hM1 _) cf_9_height ci_9_height ll_32 rcM_0 ⟨Nat.le_of_ble_eq_true rfl, Nat.le_of_ble_eq_true rfl⟩ hl.1 rfl (Nat.le_of_ble_eq_true rfl) dL_law_290 ⟨Nat.le_of_ble_eq_true rfl, Nat.le_of_ble_eq_true rfl⟩) (fun H locs w => ?_)
        refine lv_icmp_eq (tgt := 864) hx hb dL_law_293 (by decide) (fun _ => ?_) (fun h => absurd rfl h)
        exact hnext x1 m1 hI1 H locs ls w hl
      by_cases h104 : sv = 4
      · refine lv_tableIn (off := 265) (tgt := 298) hx hb dL_law_33 (by rw [h104]; decide) (by rw [h104]; decide) (by rw [h104]; rfl) (by decide) ?_
        obtain ⟨r, x1, m1, hX1, hM1, hI1⟩ := hst.2.2.2.2.1
        refine lv_aload_n hx hb dL_law_298 rfl (lv_at hl 1 rfl) ?_
        refine lv_aload_n hx hb dL_law_299 rfl (lv_at hl 0 rfl) ?_
        refine lv_iload_n hx hb dL_law_300 rfl (lv_at hl 3 rfl) ?_
        refine lv_iconst (v := 1) hx hb dL_law_301 (by decide) ?_
        refine lv_iadd hx hb dL_law_302 ?_
        refine va_sld hx hb hX hbl hbA w.2.2.1 hi1 dL_law_303 ?_
        refine zl_ri wX_ad w (zc_V C (zl_w1 w) (kX8_sheep l D qx cs x _ (r, x1) hX1 _) cf_8_sheep ci_8_sheep ll_33 rcX_0 ⟨Nat.le_of_ble_eq_true rfl, Nat.le_of_ble_eq_true rfl⟩ hl.1 rfl (Nat.le_of_ble_eq_true rfl) dL_law_304 ⟨Nat.le_of_ble_eq_true rfl, Nat.le_of_ble_eq_true rfl⟩) (fun H locs w => ?_)
        refine lv_aload_n hx hb dL_law_307 rfl (lv_at hl 2 rfl) ?_
        refine lv_aload_n hx hb dL_law_308 rfl (lv_at hl 0 rfl) ?_
        refine lv_iload_n hx hb dL_law_309 rfl (lv_at hl 3 rfl) ?_
        refine lv_iconst (v := 1) hx hb dL_law_310 (by decide) ?_
        refine lv_iadd hx hb dL_law_311 ?_
        refine va_sld hx hb hX hbl hbA w.2.2.1 hi1 dL_law_312 ?_
        refine zl_ri wM_ad w (zc_V C (zl_w1 w) (kM9_sheep l D qm cs m9 _ (r, m1) hM1 _) cf_9_sheep ci_9_sheep ll_36 rcM_0 ⟨Nat.le_of_ble_eq_true rfl, Nat.le_of_ble_eq_true rfl⟩ hl.1 rfl (Nat.le_of_ble_eq_true rfl) dL_law_313 ⟨Nat.le_of_ble_eq_true rfl, Nat.le_of_ble_eq_true rfl⟩) (fun H locs w => ?_)
        refine lv_icmp_eq (tgt := 864) hx hb dL_law_316 (by decide) (fun _ => ?_) (fun h => absurd rfl h)
        exact hnext x1 m1 hI1 H locs ls w hl
      by_cases h105 : sv = 5
      · refine lv_tableIn (off := 288) (tgt := 321) hx hb dL_law_33 (by rw [h105]; decide) (by rw [h105]; decide) (by rw [h105]; rfl) (by decide) ?_
        obtain ⟨r, x1, m1, hX1, hM1, hI1⟩ := hst.2.2.2.2.2.1
        refine lv_aload_n hx hb dL_law_321 rfl (lv_at hl 1 rfl) ?_
        refine lv_aload_n hx hb dL_law_322 rfl (lv_at hl 0 rfl) ?_
        refine lv_iload_n hx hb dL_law_323 rfl (lv_at hl 3 rfl) ?_
        refine lv_iconst (v := 1) hx hb dL_law_324 (by decide) ?_
        refine lv_iadd hx hb dL_law_325 ?_
        refine va_sld hx hb hX hbl hbA w.2.2.1 hi1 dL_law_326 ?_
        refine zl_ri wX_ad w (zc_V C (zl_w1 w) (kX8_move l D qx cs x _ (r, x1) hX1 _) cf_8_move ci_8_move ll_37 rcX_0 ⟨Nat.le_of_ble_eq_true rfl, Nat.le_of_ble_eq_true rfl⟩ hl.1 rfl (Nat.le_of_ble_eq_true rfl) dL_law_327 ⟨Nat.le_of_ble_eq_true rfl, Nat.le_of_ble_eq_true rfl⟩) (fun H locs w => ?_)
        refine lv_aload_n hx hb dL_law_330 rfl (lv_at hl 2 rfl) ?_
        refine lv_aload_n hx hb dL_law_331 rfl (lv_at hl 0 rfl) ?_
        refine lv_iload_n hx hb dL_law_332 rfl (lv_at hl 3 rfl) ?_
        refine lv_iconst (v := 1) hx hb dL_law_333 (by decide) ?_
        refine lv_iadd hx hb dL_law_334 ?_
        refine va_sld hx hb hX hbl hbA w.2.2.1 hi1 dL_law_335 ?_
        refine zl_ri wM_ad w (zc_V C (zl_w1 w) (kM9_move l D qm cs m9 _ (r, m1) hM1 _) cf_9_move ci_9_move ll_40 rcM_0 ⟨Nat.le_of_ble_eq_true rfl, Nat.le_of_ble_eq_true rfl⟩ hl.1 rfl (Nat.le_of_ble_eq_true rfl) dL_law_336 ⟨Nat.le_of_ble_eq_true rfl, Nat.le_of_ble_eq_true rfl⟩) (fun H locs w => ?_)
        refine lv_icmp_eq (tgt := 864) hx hb dL_law_339 (by decide) (fun _ => ?_) (fun h => absurd rfl h)
        exact hnext x1 m1 hI1 H locs ls w hl
      by_cases h106 : sv = 6
      · refine lv_tableIn (off := 311) (tgt := 344) hx hb dL_law_33 (by rw [h106]; decide) (by rw [h106]; decide) (by rw [h106]; rfl) (by decide) ?_
        obtain ⟨r, x1, m1, hX1, hM1, hI1⟩ := hst.2.2.2.2.2.2.1
        refine lv_aload_n hx hb dL_law_344 rfl (lv_at hl 1 rfl) ?_
        refine lv_aload_n hx hb dL_law_345 rfl (lv_at hl 0 rfl) ?_
        refine lv_iload_n hx hb dL_law_346 rfl (lv_at hl 3 rfl) ?_
        refine lv_iconst (v := 1) hx hb dL_law_347 (by decide) ?_
        refine lv_iadd hx hb dL_law_348 ?_
        refine va_sld hx hb hX hbl hbA w.2.2.1 hi1 dL_law_349 ?_
        refine lv_aload_n hx hb dL_law_350 rfl (lv_at hl 0 rfl) ?_
        refine lv_iload_n hx hb dL_law_351 rfl (lv_at hl 3 rfl) ?_
        refine lv_iconst (v := 2) hx hb dL_law_352 (by decide) ?_
        refine lv_iadd hx hb dL_law_353 ?_
        refine va_sld hx hb hX hbl hbA w.2.2.1 hi2 dL_law_354 ?_
        refine zl_ri wX_ad w (zc_V C (zl_w1 w) (kX8_day l D qx cs N x _ _ (r, x1) hX1 _) cf_8_day ci_8_day ll_41 rcX_0 ⟨Nat.le_of_ble_eq_true rfl, Nat.le_of_ble_eq_true rfl⟩ hl.1 rfl (Nat.le_of_ble_eq_true rfl) dL_law_355 ⟨Nat.le_of_ble_eq_true rfl, Nat.le_of_ble_eq_true rfl⟩) (fun H locs w => ?_)
        refine lv_aload_n hx hb dL_law_358 rfl (lv_at hl 2 rfl) ?_
        refine lv_aload_n hx hb dL_law_359 rfl (lv_at hl 0 rfl) ?_
        refine lv_iload_n hx hb dL_law_360 rfl (lv_at hl 3 rfl) ?_
        refine lv_iconst (v := 1) hx hb dL_law_361 (by decide) ?_
        refine lv_iadd hx hb dL_law_362 ?_
        refine va_sld hx hb hX hbl hbA w.2.2.1 hi1 dL_law_363 ?_
        refine lv_aload_n hx hb dL_law_364 rfl (lv_at hl 0 rfl) ?_
        refine lv_iload_n hx hb dL_law_365 rfl (lv_at hl 3 rfl) ?_
        refine lv_iconst (v := 2) hx hb dL_law_366 (by decide) ?_
        refine lv_iadd hx hb dL_law_367 ?_
        refine va_sld hx hb hX hbl hbA w.2.2.1 hi2 dL_law_368 ?_
        refine zl_ri wM_ad w (zc_V C (zl_w1 w) (kM9_day l D qm cs N m9 _ _ (r, m1) hM1 _) cf_9_day ci_9_day ll_45 rcM_0 ⟨Nat.le_of_ble_eq_true rfl, Nat.le_of_ble_eq_true rfl⟩ hl.1 rfl (Nat.le_of_ble_eq_true rfl) dL_law_369 ⟨Nat.le_of_ble_eq_true rfl, Nat.le_of_ble_eq_true rfl⟩) (fun H locs w => ?_)
        refine lv_icmp_eq (tgt := 864) hx hb dL_law_372 (by decide) (fun _ => ?_) (fun h => absurd rfl h)
        exact hnext x1 m1 hI1 H locs ls w hl
      by_cases h107 : sv = 7
      · refine lv_tableIn (off := 344) (tgt := 377) hx hb dL_law_33 (by rw [h107]; decide) (by rw [h107]; decide) (by rw [h107]; rfl) (by decide) ?_
        obtain ⟨r, x1, m1, hX1, hM1, hI1⟩ := hst.2.2.2.2.2.2.2.1
        refine lv_aload_n hx hb dL_law_377 rfl (lv_at hl 1 rfl) ?_
        refine lv_aload_n hx hb dL_law_378 rfl (lv_at hl 0 rfl) ?_
        refine lv_iload_n hx hb dL_law_379 rfl (lv_at hl 3 rfl) ?_
        refine lv_iconst (v := 1) hx hb dL_law_380 (by decide) ?_
        refine lv_iadd hx hb dL_law_381 ?_
        refine va_sld hx hb hX hbl hbA w.2.2.1 hi1 dL_law_382 ?_
        refine lv_aload_n hx hb dL_law_383 rfl (lv_at hl 0 rfl) ?_
        refine lv_iload_n hx hb dL_law_384 rfl (lv_at hl 3 rfl) ?_
        refine lv_iconst (v := 2) hx hb dL_law_385 (by decide) ?_
        refine lv_iadd hx hb dL_law_386 ?_
        refine va_sld hx hb hX hbl hbA w.2.2.1 hi2 dL_law_387 ?_
        refine lv_aload_n hx hb dL_law_388 rfl (lv_at hl 0 rfl) ?_
        refine lv_iload_n hx hb dL_law_389 rfl (lv_at hl 3 rfl) ?_
        refine lv_iconst (v := 3) hx hb dL_law_390 (by decide) ?_
        refine lv_iadd hx hb dL_law_391 ?_
        refine va_sld hx hb hX hbl hbA w.2.2.1 hi3 dL_law_392 ?_
        refine lv_aload_n hx hb dL_law_393 rfl (lv_at hl 0 rfl) ?_
        refine lv_iload_n hx hb dL_law_394 rfl (lv_at hl 3 rfl) ?_
        refine lv_iconst (v := 4) hx hb dL_law_395 (by decide) ?_
        refine lv_iadd hx hb dL_law_396 ?_
        refine va_sld hx hb hX hbl hbA w.2.2.1 hi4 dL_law_397 ?_
        refine zl_ri wX_ad w (zc_V C (zl_w1 w) (kX8_act l D qx cs N x _ _ _ _ (r, x1) hX1 _) cf_8_act ci_8_act ll_46 rcX_0 ⟨Nat.le_of_ble_eq_true rfl, Nat.le_of_ble_eq_true rfl⟩ hl.1 rfl (Nat.le_of_ble_eq_true rfl) dL_law_398 ⟨Nat.le_of_ble_eq_true rfl, Nat.le_of_ble_eq_true rfl⟩) (fun H locs w => ?_)
        refine lv_aload_n hx hb dL_law_401 rfl (lv_at hl 2 rfl) ?_
        refine lv_aload_n hx hb dL_law_402 rfl (lv_at hl 0 rfl) ?_
        refine lv_iload_n hx hb dL_law_403 rfl (lv_at hl 3 rfl) ?_
        refine lv_iconst (v := 1) hx hb dL_law_404 (by decide) ?_
        refine lv_iadd hx hb dL_law_405 ?_
        refine va_sld hx hb hX hbl hbA w.2.2.1 hi1 dL_law_406 ?_
        refine lv_aload_n hx hb dL_law_407 rfl (lv_at hl 0 rfl) ?_
        refine lv_iload_n hx hb dL_law_408 rfl (lv_at hl 3 rfl) ?_
        refine lv_iconst (v := 2) hx hb dL_law_409 (by decide) ?_
        refine lv_iadd hx hb dL_law_410 ?_
        refine va_sld hx hb hX hbl hbA w.2.2.1 hi2 dL_law_411 ?_
        refine lv_aload_n hx hb dL_law_412 rfl (lv_at hl 0 rfl) ?_
        refine lv_iload_n hx hb dL_law_413 rfl (lv_at hl 3 rfl) ?_
        refine lv_iconst (v := 3) hx hb dL_law_414 (by decide) ?_
        refine lv_iadd hx hb dL_law_415 ?_
        refine va_sld hx hb hX hbl hbA w.2.2.1 hi3 dL_law_416 ?_
        refine lv_aload_n hx hb dL_law_417 rfl (lv_at hl 0 rfl) ?_
        refine lv_iload_n hx hb dL_law_418 rfl (lv_at hl 3 rfl) ?_
        refine lv_iconst (v := 4) hx hb dL_law_419 (by decide) ?_
        refine lv_iadd hx hb dL_law_420 ?_
        refine va_sld hx hb hX hbl hbA w.2.2.1 hi4 dL_law_421 ?_
        refine zl_ri wM_ad w (zc_V C (zl_w1 w) (kM9_act l D qm cs N m9 _ _ _ _ (r, m1) hM1 _) cf_9_act ci_9_act ll_50 rcM_0 ⟨Nat.le_of_ble_eq_true rfl, Nat.le_of_ble_eq_true rfl⟩ hl.1 rfl (Nat.le_of_ble_eq_true rfl) dL_law_422 ⟨Nat.le_of_ble_eq_true rfl, Nat.le_of_ble_eq_true rfl⟩) (fun H locs w => ?_)
        refine lv_icmp_eq (tgt := 864) hx hb dL_law_425 (by decide) (fun _ => ?_) (fun h => absurd rfl h)
        exact hnext x1 m1 hI1 H locs ls w hl
      by_cases h108 : sv = 8
      · refine lv_tableIn (off := 397) (tgt := 430) hx hb dL_law_33 (by rw [h108]; decide) (by rw [h108]; decide) (by rw [h108]; rfl) (by decide) ?_
        obtain ⟨r, x1, m1, hX1, hM1, hI1⟩ := hst.2.2.2.2.2.2.2.2.1
        refine lv_aload_n hx hb dL_law_430 rfl (lv_at hl 1 rfl) ?_
        refine lv_aload_n hx hb dL_law_431 rfl (lv_at hl 0 rfl) ?_
        refine lv_iload_n hx hb dL_law_432 rfl (lv_at hl 3 rfl) ?_
        refine lv_iconst (v := 1) hx hb dL_law_433 (by decide) ?_
        refine lv_iadd hx hb dL_law_434 ?_
        refine va_sld hx hb hX hbl hbA w.2.2.1 hi1 dL_law_435 ?_
        refine zl_ri wX_ad w (zc_V C (zl_w1 w) (kX8_milking l D qx cs x _ (r, x1) hX1 _) cf_8_milking ci_8_milking ll_51 rcX_0 ⟨Nat.le_of_ble_eq_true rfl, Nat.le_of_ble_eq_true rfl⟩ hl.1 rfl (Nat.le_of_ble_eq_true rfl) dL_law_436 ⟨Nat.le_of_ble_eq_true rfl, Nat.le_of_ble_eq_true rfl⟩) (fun H locs w => ?_)
        refine lv_aload_n hx hb dL_law_439 rfl (lv_at hl 2 rfl) ?_
        refine lv_aload_n hx hb dL_law_440 rfl (lv_at hl 0 rfl) ?_
        refine lv_iload_n hx hb dL_law_441 rfl (lv_at hl 3 rfl) ?_
        refine lv_iconst (v := 1) hx hb dL_law_442 (by decide) ?_
        refine lv_iadd hx hb dL_law_443 ?_
        refine va_sld hx hb hX hbl hbA w.2.2.1 hi1 dL_law_444 ?_
        refine zl_ri wM_ad w (zc_V C (zl_w1 w) (kM9_milking l D qm cs m9 _ (r, m1) hM1 _) cf_9_milking ci_9_milking ll_54 rcM_0 ⟨Nat.le_of_ble_eq_true rfl, Nat.le_of_ble_eq_true rfl⟩ hl.1 rfl (Nat.le_of_ble_eq_true rfl) dL_law_445 ⟨Nat.le_of_ble_eq_true rfl, Nat.le_of_ble_eq_true rfl⟩) (fun H locs w => ?_)
        refine lv_icmp_eq (tgt := 864) hx hb dL_law_448 (by decide) (fun _ => ?_) (fun h => absurd rfl h)
        exact hnext x1 m1 hI1 H locs ls w hl
      by_cases h109 : sv = 9
      · refine lv_tableIn (off := 420) (tgt := 453) hx hb dL_law_33 (by rw [h109]; decide) (by rw [h109]; decide) (by rw [h109]; rfl) (by decide) ?_
        obtain ⟨r, x1, m1, hX1, hM1, hI1⟩ := hst.2.2.2.2.2.2.2.2.2.1
        refine lv_aload_n hx hb dL_law_453 rfl (lv_at hl 1 rfl) ?_
        refine lv_aload_n hx hb dL_law_454 rfl (lv_at hl 0 rfl) ?_
        refine lv_iload_n hx hb dL_law_455 rfl (lv_at hl 3 rfl) ?_
        refine lv_iconst (v := 1) hx hb dL_law_456 (by decide) ?_
        refine lv_iadd hx hb dL_law_457 ?_
        refine va_sld hx hb hX hbl hbA w.2.2.1 hi1 dL_law_458 ?_
        refine lv_aload_n hx hb dL_law_459 rfl (lv_at hl 0 rfl) ?_
        refine lv_iload_n hx hb dL_law_460 rfl (lv_at hl 3 rfl) ?_
        refine lv_iconst (v := 2) hx hb dL_law_461 (by decide) ?_
        refine lv_iadd hx hb dL_law_462 ?_
        refine va_sld hx hb hX hbl hbA w.2.2.1 hi2 dL_law_463 ?_
        refine zl_ri wX_ad w (zc_V C (zl_w1 w) (kX8_milk l D qx cs x _ _ (r, x1) hX1 _) cf_8_milk ci_8_milk ll_55 rcX_0 ⟨Nat.le_of_ble_eq_true rfl, Nat.le_of_ble_eq_true rfl⟩ hl.1 rfl (Nat.le_of_ble_eq_true rfl) dL_law_464 ⟨Nat.le_of_ble_eq_true rfl, Nat.le_of_ble_eq_true rfl⟩) (fun H locs w => ?_)
        refine lv_aload_n hx hb dL_law_467 rfl (lv_at hl 2 rfl) ?_
        refine lv_aload_n hx hb dL_law_468 rfl (lv_at hl 0 rfl) ?_
        refine lv_iload_n hx hb dL_law_469 rfl (lv_at hl 3 rfl) ?_
        refine lv_iconst (v := 1) hx hb dL_law_470 (by decide) ?_
        refine lv_iadd hx hb dL_law_471 ?_
        refine va_sld hx hb hX hbl hbA w.2.2.1 hi1 dL_law_472 ?_
        refine lv_aload_n hx hb dL_law_473 rfl (lv_at hl 0 rfl) ?_
        refine lv_iload_n hx hb dL_law_474 rfl (lv_at hl 3 rfl) ?_
        refine lv_iconst (v := 2) hx hb dL_law_475 (by decide) ?_
        refine lv_iadd hx hb dL_law_476 ?_
        refine va_sld hx hb hX hbl hbA w.2.2.1 hi2 dL_law_477 ?_
        refine zl_ri wM_ad w (zc_V C (zl_w1 w) (kM9_milk l D qm cs m9 _ _ (r, m1) hM1 _) cf_9_milk ci_9_milk ll_59 rcM_0 ⟨Nat.le_of_ble_eq_true rfl, Nat.le_of_ble_eq_true rfl⟩ hl.1 rfl (Nat.le_of_ble_eq_true rfl) dL_law_478 ⟨Nat.le_of_ble_eq_true rfl, Nat.le_of_ble_eq_true rfl⟩) (fun H locs w => ?_)
        refine lv_icmp_eq (tgt := 864) hx hb dL_law_481 (by decide) (fun _ => ?_) (fun h => absurd rfl h)
        exact hnext x1 m1 hI1 H locs ls w hl
      by_cases h110 : sv = 10
      · refine lv_tableIn (off := 453) (tgt := 486) hx hb dL_law_33 (by rw [h110]; decide) (by rw [h110]; decide) (by rw [h110]; rfl) (by decide) ?_
        obtain ⟨r, x1, m1, hX1, hM1, hI1⟩ := hst.2.2.2.2.2.2.2.2.2.2.1
        refine lv_aload_n hx hb dL_law_486 rfl (lv_at hl 1 rfl) ?_
        refine lv_aload_n hx hb dL_law_487 rfl (lv_at hl 0 rfl) ?_
        refine lv_iload_n hx hb dL_law_488 rfl (lv_at hl 3 rfl) ?_
        refine lv_iconst (v := 1) hx hb dL_law_489 (by decide) ?_
        refine lv_iadd hx hb dL_law_490 ?_
        refine va_sld hx hb hX hbl hbA w.2.2.1 hi1 dL_law_491 ?_
        refine zl_ri wX_ad w (zc_V C (zl_w1 w) (kX8_close l D qx cs N x _ (r, x1) hX1 _) cf_8_close ci_8_close ll_60 rcX_0 ⟨Nat.le_of_ble_eq_true rfl, Nat.le_of_ble_eq_true rfl⟩ hl.1 rfl (Nat.le_of_ble_eq_true rfl) dL_law_492 ⟨Nat.le_of_ble_eq_true rfl, Nat.le_of_ble_eq_true rfl⟩) (fun H locs w => ?_)
        refine lv_aload_n hx hb dL_law_495 rfl (lv_at hl 2 rfl) ?_
        refine lv_aload_n hx hb dL_law_496 rfl (lv_at hl 0 rfl) ?_
        refine lv_iload_n hx hb dL_law_497 rfl (lv_at hl 3 rfl) ?_
        refine lv_iconst (v := 1) hx hb dL_law_498 (by decide) ?_
        refine lv_iadd hx hb dL_law_499 ?_
        refine va_sld hx hb hX hbl hbA w.2.2.1 hi1 dL_law_500 ?_
        refine zl_ri wM_ad w (zc_V C (zl_w1 w) (kM9_close l D qm cs N m9 _ (r, m1) hM1 _) cf_9_close ci_9_close ll_63 rcM_0 ⟨Nat.le_of_ble_eq_true rfl, Nat.le_of_ble_eq_true rfl⟩ hl.1 rfl (Nat.le_of_ble_eq_true rfl) dL_law_501 ⟨Nat.le_of_ble_eq_true rfl, Nat.le_of_ble_eq_true rfl⟩) (fun H locs w => ?_)
        refine lv_icmp_eq (tgt := 864) hx hb dL_law_504 (by decide) (fun _ => ?_) (fun h => absurd rfl h)
        exact hnext x1 m1 hI1 H locs ls w hl
      by_cases h111 : sv = 11
      · refine lv_tableIn (off := 476) (tgt := 509) hx hb dL_law_33 (by rw [h111]; decide) (by rw [h111]; decide) (by rw [h111]; rfl) (by decide) ?_
        obtain ⟨r, x1, m1, hX1, hM1, hI1⟩ := hst.2.2.2.2.2.2.2.2.2.2.2.1
        refine lv_aload_n hx hb dL_law_509 rfl (lv_at hl 1 rfl) ?_
        refine lv_aload_n hx hb dL_law_510 rfl (lv_at hl 0 rfl) ?_
        refine lv_iload_n hx hb dL_law_511 rfl (lv_at hl 3 rfl) ?_
        refine lv_iconst (v := 1) hx hb dL_law_512 (by decide) ?_
        refine lv_iadd hx hb dL_law_513 ?_
        refine va_sld hx hb hX hbl hbA w.2.2.1 hi1 dL_law_514 ?_
        refine lv_aload_n hx hb dL_law_515 rfl (lv_at hl 0 rfl) ?_
        refine lv_iload_n hx hb dL_law_516 rfl (lv_at hl 3 rfl) ?_
        refine lv_iconst (v := 2) hx hb dL_law_517 (by decide) ?_
        refine lv_iadd hx hb dL_law_518 ?_
        refine va_sld hx hb hX hbl hbA w.2.2.1 hi2 dL_law_519 ?_
        refine zl_ri wX_ad w (zc_V C (zl_w1 w) (kX8_work l D qx cs x _ _ (r, x1) hX1 _) cf_8_work ci_8_work ll_64 rcX_0 ⟨Nat.le_of_ble_eq_true rfl, Nat.le_of_ble_eq_true rfl⟩ hl.1 rfl (Nat.le_of_ble_eq_true rfl) dL_law_520 ⟨Nat.le_of_ble_eq_true rfl, Nat.le_of_ble_eq_true rfl⟩) (fun H locs w => ?_)
        refine lv_aload_n hx hb dL_law_523 rfl (lv_at hl 2 rfl) ?_
        refine lv_aload_n hx hb dL_law_524 rfl (lv_at hl 0 rfl) ?_
        refine lv_iload_n hx hb dL_law_525 rfl (lv_at hl 3 rfl) ?_
        refine lv_iconst (v := 1) hx hb dL_law_526 (by decide) ?_
        refine lv_iadd hx hb dL_law_527 ?_
        refine va_sld hx hb hX hbl hbA w.2.2.1 hi1 dL_law_528 ?_
        refine lv_aload_n hx hb dL_law_529 rfl (lv_at hl 0 rfl) ?_
        refine lv_iload_n hx hb dL_law_530 rfl (lv_at hl 3 rfl) ?_
        refine lv_iconst (v := 2) hx hb dL_law_531 (by decide) ?_
        refine lv_iadd hx hb dL_law_532 ?_
        refine va_sld hx hb hX hbl hbA w.2.2.1 hi2 dL_law_533 ?_
        refine zl_ri wM_ad w (zc_V C (zl_w1 w) (kM9_work l D qm cs m9 _ _ (r, m1) hM1 _) cf_9_work ci_9_work ll_67 rcM_0 ⟨Nat.le_of_ble_eq_true rfl, Nat.le_of_ble_eq_true rfl⟩ hl.1 rfl (Nat.le_of_ble_eq_true rfl) dL_law_534 ⟨Nat.le_of_ble_eq_true rfl, Nat.le_of_ble_eq_true rfl⟩) (fun H locs w => ?_)
        refine lv_icmp_eq (tgt := 864) hx hb dL_law_537 (by decide) (fun _ => ?_) (fun h => absurd rfl h)
        exact hnext x1 m1 hI1 H locs ls w hl
      by_cases h112 : sv = 12
      · refine lv_tableIn (off := 509) (tgt := 542) hx hb dL_law_33 (by rw [h112]; decide) (by rw [h112]; decide) (by rw [h112]; rfl) (by decide) ?_
        obtain ⟨r, x1, m1, hX1, hM1, hI1⟩ := hst.2.2.2.2.2.2.2.2.2.2.2.2.1
        refine lv_aload_n hx hb dL_law_542 rfl (lv_at hl 1 rfl) ?_
        refine lv_aload_n hx hb dL_law_543 rfl (lv_at hl 0 rfl) ?_
        refine lv_iload_n hx hb dL_law_544 rfl (lv_at hl 3 rfl) ?_
        refine lv_iconst (v := 1) hx hb dL_law_545 (by decide) ?_
        refine lv_iadd hx hb dL_law_546 ?_
        refine va_sld hx hb hX hbl hbA w.2.2.1 hi1 dL_law_547 ?_
        refine lv_aload_n hx hb dL_law_548 rfl (lv_at hl 0 rfl) ?_
        refine lv_iload_n hx hb dL_law_549 rfl (lv_at hl 3 rfl) ?_
        refine lv_iconst (v := 2) hx hb dL_law_550 (by decide) ?_
        refine lv_iadd hx hb dL_law_551 ?_
        refine va_sld hx hb hX hbl hbA w.2.2.1 hi2 dL_law_552 ?_
        refine lv_aload_n hx hb dL_law_553 rfl (lv_at hl 0 rfl) ?_
        refine lv_iload_n hx hb dL_law_554 rfl (lv_at hl 3 rfl) ?_
        refine lv_iconst (v := 3) hx hb dL_law_555 (by decide) ?_
        refine lv_iadd hx hb dL_law_556 ?_
        refine va_sld hx hb hX hbl hbA w.2.2.1 hi3 dL_law_557 ?_
        refine lv_aload_n hx hb dL_law_558 rfl (lv_at hl 0 rfl) ?_
        refine lv_iload_n hx hb dL_law_559 rfl (lv_at hl 3 rfl) ?_
        refine lv_iconst (v := 4) hx hb dL_law_560 (by decide) ?_
        refine lv_iadd hx hb dL_law_561 ?_
        refine va_sld hx hb hX hbl hbA w.2.2.1 hi4 dL_law_562 ?_
        refine zl_ri wX_ad w (zc_V C (zl_w1 w) (kX8_look l D qx cs N x _ _ _ _ (r, x1) hX1 _) cf_8_look ci_8_look ll_68 rcX_0 ⟨Nat.le_of_ble_eq_true rfl, Nat.le_of_ble_eq_true rfl⟩ hl.1 rfl (Nat.le_of_ble_eq_true rfl) dL_law_563 ⟨Nat.le_of_ble_eq_true rfl, Nat.le_of_ble_eq_true rfl⟩) (fun H locs w => ?_)
        refine lv_aload_n hx hb dL_law_566 rfl (lv_at hl 2 rfl) ?_
        refine lv_aload_n hx hb dL_law_567 rfl (lv_at hl 0 rfl) ?_
        refine lv_iload_n hx hb dL_law_568 rfl (lv_at hl 3 rfl) ?_
        refine lv_iconst (v := 1) hx hb dL_law_569 (by decide) ?_
        refine lv_iadd hx hb dL_law_570 ?_
        refine va_sld hx hb hX hbl hbA w.2.2.1 hi1 dL_law_571 ?_
        refine lv_aload_n hx hb dL_law_572 rfl (lv_at hl 0 rfl) ?_
        refine lv_iload_n hx hb dL_law_573 rfl (lv_at hl 3 rfl) ?_
        refine lv_iconst (v := 2) hx hb dL_law_574 (by decide) ?_
        refine lv_iadd hx hb dL_law_575 ?_
        refine va_sld hx hb hX hbl hbA w.2.2.1 hi2 dL_law_576 ?_
        refine lv_aload_n hx hb dL_law_577 rfl (lv_at hl 0 rfl) ?_
        refine lv_iload_n hx hb dL_law_578 rfl (lv_at hl 3 rfl) ?_
        refine lv_iconst (v := 3) hx hb dL_law_579 (by decide) ?_
        refine lv_iadd hx hb dL_law_580 ?_
        refine va_sld hx hb hX hbl hbA w.2.2.1 hi3 dL_law_581 ?_
        refine lv_aload_n hx hb dL_law_582 rfl (lv_at hl 0 rfl) ?_
        refine lv_iload_n hx hb dL_law_583 rfl (lv_at hl 3 rfl) ?_
        refine lv_iconst (v := 4) hx hb dL_law_584 (by decide) ?_
        refine lv_iadd hx hb dL_law_585 ?_
        refine va_sld hx hb hX hbl hbA w.2.2.1 hi4 dL_law_586 ?_
        refine zl_ri wM_ad w (zc_V C (zl_w1 w) (kM9_look l D qm cs N m9 _ _ _ _ (r, m1) hM1 _) cf_9_look ci_9_look ll_71 rcM_0 ⟨Nat.le_of_ble_eq_true rfl, Nat.le_of_ble_eq_true rfl⟩ hl.1 rfl (Nat.le_of_ble_eq_true rfl) dL_law_587 ⟨Nat.le_of_ble_eq_true rfl, Nat.le_of_ble_eq_true rfl⟩) (fun H locs w => ?_)
        refine lv_icmp_eq (tgt := 864) hx hb dL_law_590 (by decide) (fun _ => ?_) (fun h => absurd rfl h)
        exact hnext x1 m1 hI1 H locs ls w hl
      by_cases h113 : sv = 13
      · refine lv_tableIn (off := 562) (tgt := 595) hx hb dL_law_33 (by rw [h113]; decide) (by rw [h113]; decide) (by rw [h113]; rfl) (by decide) ?_
        obtain ⟨r, x1, m1, hX1, hM1, hI1⟩ := hst.2.2.2.2.2.2.2.2.2.2.2.2.2.1
        refine lv_aload_n hx hb dL_law_595 rfl (lv_at hl 1 rfl) ?_
        refine lv_aload_n hx hb dL_law_596 rfl (lv_at hl 0 rfl) ?_
        refine lv_iload_n hx hb dL_law_597 rfl (lv_at hl 3 rfl) ?_
        refine lv_iconst (v := 1) hx hb dL_law_598 (by decide) ?_
        refine lv_iadd hx hb dL_law_599 ?_
        refine va_sld hx hb hX hbl hbA w.2.2.1 hi1 dL_law_600 ?_
        refine lv_aload_n hx hb dL_law_601 rfl (lv_at hl 0 rfl) ?_
        refine lv_iload_n hx hb dL_law_602 rfl (lv_at hl 3 rfl) ?_
        refine lv_iconst (v := 2) hx hb dL_law_603 (by decide) ?_
        refine lv_iadd hx hb dL_law_604 ?_
        refine va_sld hx hb hX hbl hbA w.2.2.1 hi2 dL_law_605 ?_
        refine zl_ri wX_ad w (zc_V C (zl_w1 w) (kX8_credit l D qx cs N x _ _ (r, x1) hX1 _) cf_8_credit ci_8_credit ll_72 rcX_0 ⟨Nat.le_of_ble_eq_true rfl, Nat.le_of_ble_eq_true rfl⟩ hl.1 rfl (Nat.le_of_ble_eq_true rfl) dL_law_606 ⟨Nat.le_of_ble_eq_true rfl, Nat.le_of_ble_eq_true rfl⟩) (fun H locs w => ?_)
        refine lv_aload_n hx hb dL_law_609 rfl (lv_at hl 2 rfl) ?_
        refine lv_aload_n hx hb dL_law_610 rfl (lv_at hl 0 rfl) ?_
        refine lv_iload_n hx hb dL_law_611 rfl (lv_at hl 3 rfl) ?_
        refine lv_iconst (v := 1) hx hb dL_law_612 (by decide) ?_
        refine lv_iadd hx hb dL_law_613 ?_
        refine va_sld hx hb hX hbl hbA w.2.2.1 hi1 dL_law_614 ?_
        refine lv_aload_n hx hb dL_law_615 rfl (lv_at hl 0 rfl) ?_
        refine lv_iload_n hx hb dL_law_616 rfl (lv_at hl 3 rfl) ?_
        refine lv_iconst (v := 2) hx hb dL_law_617 (by decide) ?_
        refine lv_iadd hx hb dL_law_618 ?_
        refine va_sld hx hb hX hbl hbA w.2.2.1 hi2 dL_law_619 ?_
        refine zl_ri wM_ad w (zc_V C (zl_w1 w) (kM9_credit l D qm cs N m9 _ _ (r, m1) hM1 _) cf_9_credit ci_9_credit ll_75 rcM_0 ⟨Nat.le_of_ble_eq_true rfl, Nat.le_of_ble_eq_true rfl⟩ hl.1 rfl (Nat.le_of_ble_eq_true rfl) dL_law_620 ⟨Nat.le_of_ble_eq_true rfl, Nat.le_of_ble_eq_true rfl⟩) (fun H locs w => ?_)
        refine lv_icmp_eq (tgt := 864) hx hb dL_law_623 (by decide) (fun _ => ?_) (fun h => absurd rfl h)
        exact hnext x1 m1 hI1 H locs ls w hl
      by_cases h114 : sv = 14
      · refine lv_tableIn (off := 595) (tgt := 628) hx hb dL_law_33 (by rw [h114]; decide) (by rw [h114]; decide) (by rw [h114]; rfl) (by decide) ?_
        obtain ⟨r, x1, m1, hX1, hM1, hI1⟩ := hst.2.2.2.2.2.2.2.2.2.2.2.2.2.2.1
        refine lv_aload_n hx hb dL_law_628 rfl (lv_at hl 1 rfl) ?_
        refine lv_aload_n hx hb dL_law_629 rfl (lv_at hl 0 rfl) ?_
        refine lv_iload_n hx hb dL_law_630 rfl (lv_at hl 3 rfl) ?_
        refine lv_iconst (v := 1) hx hb dL_law_631 (by decide) ?_
        refine lv_iadd hx hb dL_law_632 ?_
        refine va_sld hx hb hX hbl hbA w.2.2.1 hi1 dL_law_633 ?_
        refine lv_aload_n hx hb dL_law_634 rfl (lv_at hl 0 rfl) ?_
        refine lv_iload_n hx hb dL_law_635 rfl (lv_at hl 3 rfl) ?_
        refine lv_iconst (v := 2) hx hb dL_law_636 (by decide) ?_
        refine lv_iadd hx hb dL_law_637 ?_
        refine va_sld hx hb hX hbl hbA w.2.2.1 hi2 dL_law_638 ?_
        refine zl_ri wX_ad w (zc_V C (zl_w1 w) (kX8_part l D qx cs N x _ _ (r, x1) hX1 _) cf_8_part ci_8_part ll_76 rcX_0 ⟨Nat.le_of_ble_eq_true rfl, Nat.le_of_ble_eq_true rfl⟩ hl.1 rfl (Nat.le_of_ble_eq_true rfl) dL_law_639 ⟨Nat.le_of_ble_eq_true rfl, Nat.le_of_ble_eq_true rfl⟩) (fun H locs w => ?_)
        refine lv_aload_n hx hb dL_law_642 rfl (lv_at hl 2 rfl) ?_
        refine lv_aload_n hx hb dL_law_643 rfl (lv_at hl 0 rfl) ?_
        refine lv_iload_n hx hb dL_law_644 rfl (lv_at hl 3 rfl) ?_
        refine lv_iconst (v := 1) hx hb dL_law_645 (by decide) ?_
        refine lv_iadd hx hb dL_law_646 ?_
        refine va_sld hx hb hX hbl hbA w.2.2.1 hi1 dL_law_647 ?_
        refine lv_aload_n hx hb dL_law_648 rfl (lv_at hl 0 rfl) ?_
        refine lv_iload_n hx hb dL_law_649 rfl (lv_at hl 3 rfl) ?_
        refine lv_iconst (v := 2) hx hb dL_law_650 (by decide) ?_
        refine lv_iadd hx hb dL_law_651 ?_
        refine va_sld hx hb hX hbl hbA w.2.2.1 hi2 dL_law_652 ?_
        refine zl_ri wM_ad w (zc_V C (zl_w1 w) (kM9_part l D qm cs N m9 _ _ (r, m1) hM1 _) cf_9_part ci_9_part ll_79 rcM_0 ⟨Nat.le_of_ble_eq_true rfl, Nat.le_of_ble_eq_true rfl⟩ hl.1 rfl (Nat.le_of_ble_eq_true rfl) dL_law_653 ⟨Nat.le_of_ble_eq_true rfl, Nat.le_of_ble_eq_true rfl⟩) (fun H locs w => ?_)
        refine lv_icmp_eq (tgt := 864) hx hb dL_law_656 (by decide) (fun _ => ?_) (fun h => absurd rfl h)
        exact hnext x1 m1 hI1 H locs ls w hl
      by_cases h115 : sv = 15
      · refine lv_tableIn (off := 628) (tgt := 661) hx hb dL_law_33 (by rw [h115]; decide) (by rw [h115]; decide) (by rw [h115]; rfl) (by decide) ?_
        obtain ⟨r, x1, m1, hX1, hM1, hI1⟩ := hst.2.2.2.2.2.2.2.2.2.2.2.2.2.2.2.1
        refine lv_aload_n hx hb dL_law_661 rfl (lv_at hl 1 rfl) ?_
        refine lv_aload_n hx hb dL_law_662 rfl (lv_at hl 0 rfl) ?_
        refine lv_iload_n hx hb dL_law_663 rfl (lv_at hl 3 rfl) ?_
        refine lv_iconst (v := 1) hx hb dL_law_664 (by decide) ?_
        refine lv_iadd hx hb dL_law_665 ?_
        refine va_sld hx hb hX hbl hbA w.2.2.1 hi1 dL_law_666 ?_
        refine lv_aload_n hx hb dL_law_667 rfl (lv_at hl 0 rfl) ?_
        refine lv_iload_n hx hb dL_law_668 rfl (lv_at hl 3 rfl) ?_
        refine lv_iconst (v := 2) hx hb dL_law_669 (by decide) ?_
        refine lv_iadd hx hb dL_law_670 ?_
        refine va_sld hx hb hX hbl hbA w.2.2.1 hi2 dL_law_671 ?_
        refine zl_ri wX_ad w (zc_V C (zl_w1 w) (kX8_way l D qx cs N x _ _ (r, x1) hX1 _) cf_8_way ci_8_way ll_80 rcX_0 ⟨Nat.le_of_ble_eq_true rfl, Nat.le_of_ble_eq_true rfl⟩ hl.1 rfl (Nat.le_of_ble_eq_true rfl) dL_law_672 ⟨Nat.le_of_ble_eq_true rfl, Nat.le_of_ble_eq_true rfl⟩) (fun H locs w => ?_)
        refine lv_aload_n hx hb dL_law_675 rfl (lv_at hl 2 rfl) ?_
        refine lv_aload_n hx hb dL_law_676 rfl (lv_at hl 0 rfl) ?_
        refine lv_iload_n hx hb dL_law_677 rfl (lv_at hl 3 rfl) ?_
        refine lv_iconst (v := 1) hx hb dL_law_678 (by decide) ?_
        refine lv_iadd hx hb dL_law_679 ?_
        refine va_sld hx hb hX hbl hbA w.2.2.1 hi1 dL_law_680 ?_
        refine lv_aload_n hx hb dL_law_681 rfl (lv_at hl 0 rfl) ?_
        refine lv_iload_n hx hb dL_law_682 rfl (lv_at hl 3 rfl) ?_
        refine lv_iconst (v := 2) hx hb dL_law_683 (by decide) ?_
        refine lv_iadd hx hb dL_law_684 ?_
        refine va_sld hx hb hX hbl hbA w.2.2.1 hi2 dL_law_685 ?_
        refine zl_ri wM_ad w (zc_V C (zl_w1 w) (kM9_way l D qm cs N m9 _ _ (r, m1) hM1 _) cf_9_way ci_9_way ll_83 rcM_0 ⟨Nat.le_of_ble_eq_true rfl, Nat.le_of_ble_eq_true rfl⟩ hl.1 rfl (Nat.le_of_ble_eq_true rfl) dL_law_686 ⟨Nat.le_of_ble_eq_true rfl, Nat.le_of_ble_eq_true rfl⟩) (fun H locs w => ?_)
        refine lv_icmp_eq (tgt := 864) hx hb dL_law_689 (by decide) (fun _ => ?_) (fun h => absurd rfl h)
        exact hnext x1 m1 hI1 H locs ls w hl
      by_cases h116 : sv = 16
      · refine lv_tableIn (off := 661) (tgt := 694) hx hb dL_law_33 (by rw [h116]; decide) (by rw [h116]; decide) (by rw [h116]; rfl) (by decide) ?_
        obtain ⟨r, hX1, hM1, hI1⟩ := hst.2.2.2.2.2.2.2.2.2.2.2.2.2.2.2.2.1
        refine lv_aload_n hx hb dL_law_694 rfl (lv_at hl 1 rfl) ?_
        refine lv_aload_n hx hb dL_law_695 rfl (lv_at hl 0 rfl) ?_
        refine lv_iload_n hx hb dL_law_696 rfl (lv_at hl 3 rfl) ?_
        refine lv_iconst (v := 1) hx hb dL_law_697 (by decide) ?_
        refine lv_iadd hx hb dL_law_698 ?_
        refine va_sld hx hb hX hbl hbA w.2.2.1 hi1 dL_law_699 ?_
        refine zl_ri wX_ad w (zc_V C (zl_w1 w) (kX8_step l D qx cs x _ r hX1 _) cf_8_step ci_8_step ll_84 rcX_0 ⟨Nat.le_of_ble_eq_true rfl, Nat.le_of_ble_eq_true rfl⟩ hl.1 rfl (Nat.le_of_ble_eq_true rfl) dL_law_700 ⟨Nat.le_of_ble_eq_true rfl, Nat.le_of_ble_eq_true rfl⟩) (fun H locs w => ?_)
        refine lv_aload_n hx hb dL_law_703 rfl (lv_at hl 2 rfl) ?_
        refine lv_aload_n hx hb dL_law_704 rfl (lv_at hl 0 rfl) ?_
        refine lv_iload_n hx hb dL_law_705 rfl (lv_at hl 3 rfl) ?_
        refine lv_iconst (v := 1) hx hb dL_law_706 (by decide) ?_
        refine lv_iadd hx hb dL_law_707 ?_
        refine va_sld hx hb hX hbl hbA w.2.2.1 hi1 dL_law_708 ?_
        refine zl_ri wM_ad w (zc_V C (zl_w1 w) (kM9_step l D qm cs m9 _ r hM1 _) cf_9_step ci_9_step ll_87 rcM_0 ⟨Nat.le_of_ble_eq_true rfl, Nat.le_of_ble_eq_true rfl⟩ hl.1 rfl (Nat.le_of_ble_eq_true rfl) dL_law_709 ⟨Nat.le_of_ble_eq_true rfl, Nat.le_of_ble_eq_true rfl⟩) (fun H locs w => ?_)
        refine lv_icmp_eq (tgt := 864) hx hb dL_law_712 (by decide) (fun _ => ?_) (fun h => absurd rfl h)
        exact hnext x m9 hI1 H locs ls w hl
      by_cases h117 : sv = 17
      · refine lv_tableIn (off := 684) (tgt := 717) hx hb dL_law_33 (by rw [h117]; decide) (by rw [h117]; decide) (by rw [h117]; rfl) (by decide) ?_
        obtain ⟨r, hX1, hM1, hI1⟩ := hst.2.2.2.2.2.2.2.2.2.2.2.2.2.2.2.2.2.1
        refine lv_aload_n hx hb dL_law_717 rfl (lv_at hl 1 rfl) ?_
        refine lv_aload_n hx hb dL_law_718 rfl (lv_at hl 0 rfl) ?_
        refine lv_iload_n hx hb dL_law_719 rfl (lv_at hl 3 rfl) ?_
        refine lv_iconst (v := 1) hx hb dL_law_720 (by decide) ?_
        refine lv_iadd hx hb dL_law_721 ?_
        refine va_sld hx hb hX hbl hbA w.2.2.1 hi1 dL_law_722 ?_
        refine lv_aload_n hx hb dL_law_723 rfl (lv_at hl 0 rfl) ?_
        refine lv_iload_n hx hb dL_law_724 rfl (lv_at hl 3 rfl) ?_
        refine lv_iconst (v := 2) hx hb dL_law_725 (by decide) ?_
        refine lv_iadd hx hb dL_law_726 ?_
        refine va_sld hx hb hX hbl hbA w.2.2.1 hi2 dL_law_727 ?_
        refine zl_ri wX_ad w (zc_V C (zl_w1 w) (kX8_grass l D qx cs x _ _ r hX1 _) cf_8_grass ci_8_grass ll_88 rcX_0 ⟨Nat.le_of_ble_eq_true rfl, Nat.le_of_ble_eq_true rfl⟩ hl.1 rfl (Nat.le_of_ble_eq_true rfl) dL_law_728 ⟨Nat.le_of_ble_eq_true rfl, Nat.le_of_ble_eq_true rfl⟩) (fun H locs w => ?_)
        refine lv_aload_n hx hb dL_law_731 rfl (lv_at hl 2 rfl) ?_
        refine lv_aload_n hx hb dL_law_732 rfl (lv_at hl 0 rfl) ?_
        refine lv_iload_n hx hb dL_law_733 rfl (lv_at hl 3 rfl) ?_
        refine lv_iconst (v := 1) hx hb dL_law_734 (by decide) ?_
        refine lv_iadd hx hb dL_law_735 ?_
        refine va_sld hx hb hX hbl hbA w.2.2.1 hi1 dL_law_736 ?_
        refine lv_aload_n hx hb dL_law_737 rfl (lv_at hl 0 rfl) ?_
        refine lv_iload_n hx hb dL_law_738 rfl (lv_at hl 3 rfl) ?_
        refine lv_iconst (v := 2) hx hb dL_law_739 (by decide) ?_
        refine lv_iadd hx hb dL_law_740 ?_
        refine va_sld hx hb hX hbl hbA w.2.2.1 hi2 dL_law_741 ?_
        refine zl_ri wM_ad w (zc_V C (zl_w1 w) (kM9_grass l D qm cs m9 _ _ r hM1 _) cf_9_grass ci_9_grass ll_91 rcM_0 ⟨Nat.le_of_ble_eq_true rfl, Nat.le_of_ble_eq_true rfl⟩ hl.1 rfl (Nat.le_of_ble_eq_true rfl) dL_law_742 ⟨Nat.le_of_ble_eq_true rfl, Nat.le_of_ble_eq_true rfl⟩) (fun H locs w => ?_)
        refine lv_icmp_eq (tgt := 864) hx hb dL_law_745 (by decide) (fun _ => ?_) (fun h => absurd rfl h)
        exact hnext x m9 hI1 H locs ls w hl
      by_cases h118 : sv = 18
      · refine lv_tableIn (off := 717) (tgt := 750) hx hb dL_law_33 (by rw [h118]; decide) (by rw [h118]; decide) (by rw [h118]; rfl) (by decide) ?_
        obtain ⟨r, x1, m1, hX1, hM1, hI1⟩ := hst.2.2.2.2.2.2.2.2.2.2.2.2.2.2.2.2.2.2.1
        refine lv_aload_n hx hb dL_law_750 rfl (lv_at hl 1 rfl) ?_
        refine lv_aload_n hx hb dL_law_751 rfl (lv_at hl 0 rfl) ?_
        refine lv_iload_n hx hb dL_law_752 rfl (lv_at hl 3 rfl) ?_
        refine lv_iconst (v := 1) hx hb dL_law_753 (by decide) ?_
        refine lv_iadd hx hb dL_law_754 ?_
        refine va_sld hx hb hX hbl hbA w.2.2.1 hi1 dL_law_755 ?_
        refine lv_aload_n hx hb dL_law_756 rfl (lv_at hl 0 rfl) ?_
        refine lv_iload_n hx hb dL_law_757 rfl (lv_at hl 3 rfl) ?_
        refine lv_iconst (v := 2) hx hb dL_law_758 (by decide) ?_
        refine lv_iadd hx hb dL_law_759 ?_
        refine va_sld hx hb hX hbl hbA w.2.2.1 hi2 dL_law_760 ?_
        refine zl_rl wX_ad w (zc_V C (zl_w1 w) (kX8_told l D qx cs N x _ _ (r, x1) hX1 _) cf_8_told ci_8_told ll_92 rcX_0 ⟨Nat.le_of_ble_eq_true rfl, Nat.le_of_ble_eq_true rfl⟩ hl.1 rfl (Nat.le_of_ble_eq_true rfl) dL_law_761 ⟨Nat.le_of_ble_eq_true rfl, Nat.le_of_ble_eq_true rfl⟩) (fun H locs w => ?_)
        refine lv_aload_n hx hb dL_law_764 rfl (lv_at hl 2 rfl) ?_
        refine lv_aload_n hx hb dL_law_765 rfl (lv_at hl 0 rfl) ?_
        refine lv_iload_n hx hb dL_law_766 rfl (lv_at hl 3 rfl) ?_
        refine lv_iconst (v := 1) hx hb dL_law_767 (by decide) ?_
        refine lv_iadd hx hb dL_law_768 ?_
        refine va_sld hx hb hX hbl hbA w.2.2.1 hi1 dL_law_769 ?_
        refine lv_aload_n hx hb dL_law_770 rfl (lv_at hl 0 rfl) ?_
        refine lv_iload_n hx hb dL_law_771 rfl (lv_at hl 3 rfl) ?_
        refine lv_iconst (v := 2) hx hb dL_law_772 (by decide) ?_
        refine lv_iadd hx hb dL_law_773 ?_
        refine va_sld hx hb hX hbl hbA w.2.2.1 hi2 dL_law_774 ?_
        refine zl_rl wM_ad w (zc_V C (zl_w1 w) (kM9_told l D qm cs N m9 _ _ (r, m1) hM1 _) cf_9_told ci_9_told ll_96 rcM_0 ⟨Nat.le_of_ble_eq_true rfl, Nat.le_of_ble_eq_true rfl⟩ hl.1 rfl (Nat.le_of_ble_eq_true rfl) dL_law_775 ⟨Nat.le_of_ble_eq_true rfl, Nat.le_of_ble_eq_true rfl⟩) (fun H locs w => ?_)
        refine W.lcmp hx hb dL_law_778 ?_
        refine lv_if_eq (tgt := 864) hx hb dL_law_779 (by decide) (fun _ => ?_) (fun h => absurd (zl_cmp r) h)
        exact hnext x1 m1 hI1 H locs ls w hl
      by_cases h119 : sv = 19
      · refine lv_tableIn (off := 751) (tgt := 784) hx hb dL_law_33 (by rw [h119]; decide) (by rw [h119]; decide) (by rw [h119]; rfl) (by decide) ?_
        obtain ⟨r, hX1, hM1, hI1⟩ := hst.2.2.2.2.2.2.2.2.2.2.2.2.2.2.2.2.2.2.2.1
        refine lv_aload_n hx hb dL_law_784 rfl (lv_at hl 1 rfl) ?_
        refine lv_aload_n hx hb dL_law_785 rfl (lv_at hl 0 rfl) ?_
        refine lv_iload_n hx hb dL_law_786 rfl (lv_at hl 3 rfl) ?_
        refine lv_iconst (v := 1) hx hb dL_law_787 (by decide) ?_
        refine lv_iadd hx hb dL_law_788 ?_
        refine va_sld hx hb hX hbl hbA w.2.2.1 hi1 dL_law_789 ?_
        refine lv_aload_n hx hb dL_law_790 rfl (lv_at hl 0 rfl) ?_
        refine lv_iload_n hx hb dL_law_791 rfl (lv_at hl 3 rfl) ?_
        refine lv_iconst (v := 2) hx hb dL_law_792 (by decide) ?_
        refine lv_iadd hx hb dL_law_793 ?_
        refine va_sld hx hb hX hbl hbA w.2.2.1 hi2 dL_law_794 ?_
        refine zl_ri wX_ad w (zc_V C (zl_w1 w) (kX8_entry l D qx cs x _ _ r hX1 _) cf_8_entry ci_8_entry ll_97 rcX_0 ⟨Nat.le_of_ble_eq_true rfl, Nat.le_of_ble_eq_true rfl⟩ hl.1 rfl (Nat.le_of_ble_eq_true rfl) dL_law_795 ⟨Nat.le_of_ble_eq_true rfl, Nat.le_of_ble_eq_true rfl⟩) (fun H locs w => ?_)
        refine lv_aload_n hx hb dL_law_798 rfl (lv_at hl 2 rfl) ?_
        refine lv_aload_n hx hb dL_law_799 rfl (lv_at hl 0 rfl) ?_
        refine lv_iload_n hx hb dL_law_800 rfl (lv_at hl 3 rfl) ?_
        refine lv_iconst (v := 1) hx hb dL_law_801 (by decide) ?_
        refine lv_iadd hx hb dL_law_802 ?_
        refine va_sld hx hb hX hbl hbA w.2.2.1 hi1 dL_law_803 ?_
        refine lv_aload_n hx hb dL_law_804 rfl (lv_at hl 0 rfl) ?_
        refine lv_iload_n hx hb dL_law_805 rfl (lv_at hl 3 rfl) ?_
        refine lv_iconst (v := 2) hx hb dL_law_806 (by decide) ?_
        refine lv_iadd hx hb dL_law_807 ?_
        refine va_sld hx hb hX hbl hbA w.2.2.1 hi2 dL_law_808 ?_
        refine zl_ri wM_ad w (zc_V C (zl_w1 w) (kM9_entry l D qm cs m9 _ _ r hM1 _) cf_9_entry ci_9_entry ll_100 rcM_0 ⟨Nat.le_of_ble_eq_true rfl, Nat.le_of_ble_eq_true rfl⟩ hl.1 rfl (Nat.le_of_ble_eq_true rfl) dL_law_809 ⟨Nat.le_of_ble_eq_true rfl, Nat.le_of_ble_eq_true rfl⟩) (fun H locs w => ?_)
        refine lv_icmp_eq (tgt := 864) hx hb dL_law_812 (by decide) (fun _ => ?_) (fun h => absurd rfl h)
        exact hnext x m9 hI1 H locs ls w hl
      by_cases h120 : sv = 20
      · refine lv_tableIn (off := 784) (tgt := 817) hx hb dL_law_33 (by rw [h120]; decide) (by rw [h120]; decide) (by rw [h120]; rfl) (by decide) ?_
        obtain ⟨r, hX1, hM1, hI1⟩ := hst.2.2.2.2.2.2.2.2.2.2.2.2.2.2.2.2.2.2.2.2.1
        refine lv_aload_n hx hb dL_law_817 rfl (lv_at hl 1 rfl) ?_
        refine lv_aload_n hx hb dL_law_818 rfl (lv_at hl 0 rfl) ?_
        refine lv_iload_n hx hb dL_law_819 rfl (lv_at hl 3 rfl) ?_
        refine lv_iconst (v := 1) hx hb dL_law_820 (by decide) ?_
        refine lv_iadd hx hb dL_law_821 ?_
        refine va_sld hx hb hX hbl hbA w.2.2.1 hi1 dL_law_822 ?_
        refine zl_ri wX_ad w (zc_V C (zl_w1 w) (kX8_rule l D qx cs x _ r hX1 _) cf_8_rule ci_8_rule ll_101 rcX_0 ⟨Nat.le_of_ble_eq_true rfl, Nat.le_of_ble_eq_true rfl⟩ hl.1 rfl (Nat.le_of_ble_eq_true rfl) dL_law_823 ⟨Nat.le_of_ble_eq_true rfl, Nat.le_of_ble_eq_true rfl⟩) (fun H locs w => ?_)
        refine lv_aload_n hx hb dL_law_826 rfl (lv_at hl 2 rfl) ?_
        refine lv_aload_n hx hb dL_law_827 rfl (lv_at hl 0 rfl) ?_
        refine lv_iload_n hx hb dL_law_828 rfl (lv_at hl 3 rfl) ?_
        refine lv_iconst (v := 1) hx hb dL_law_829 (by decide) ?_
        refine lv_iadd hx hb dL_law_830 ?_
        refine va_sld hx hb hX hbl hbA w.2.2.1 hi1 dL_law_831 ?_
        refine zl_ri wM_ad w (zc_V C (zl_w1 w) (kM9_rule l D qm cs m9 _ r hM1 _) cf_9_rule ci_9_rule ll_104 rcM_0 ⟨Nat.le_of_ble_eq_true rfl, Nat.le_of_ble_eq_true rfl⟩ hl.1 rfl (Nat.le_of_ble_eq_true rfl) dL_law_832 ⟨Nat.le_of_ble_eq_true rfl, Nat.le_of_ble_eq_true rfl⟩) (fun H locs w => ?_)
        refine lv_icmp_eq (tgt := 864) hx hb dL_law_835 (by decide) (fun _ => ?_) (fun h => absurd rfl h)
        exact hnext x m9 hI1 H locs ls w hl
      by_cases h121 : sv = 21
      · refine lv_tableIn (off := 807) (tgt := 840) hx hb dL_law_33 (by rw [h121]; decide) (by rw [h121]; decide) (by rw [h121]; rfl) (by decide) ?_
        obtain ⟨r, m1, hX1, hM1, hI1⟩ := hst.2.2.2.2.2.2.2.2.2.2.2.2.2.2.2.2.2.2.2.2.2
        refine lv_aload_n hx hb dL_law_840 rfl (lv_at hl 1 rfl) ?_
        refine lv_aload_n hx hb dL_law_841 rfl (lv_at hl 0 rfl) ?_
        refine lv_iload_n hx hb dL_law_842 rfl (lv_at hl 3 rfl) ?_
        refine lv_iconst (v := 1) hx hb dL_law_843 (by decide) ?_
        refine lv_iadd hx hb dL_law_844 ?_
        refine va_sld hx hb hX hbl hbA w.2.2.1 hi1 dL_law_845 ?_
        refine zl_rl wX_ad w (zc_V C (zl_w1 w) (kX8_count l D qx cs N x _ r hX1 _) cf_8_count ci_8_count ll_105 rcX_0 ⟨Nat.le_of_ble_eq_true rfl, Nat.le_of_ble_eq_true rfl⟩ hl.1 rfl (Nat.le_of_ble_eq_true rfl) dL_law_846 ⟨Nat.le_of_ble_eq_true rfl, Nat.le_of_ble_eq_true rfl⟩) (fun H locs w => ?_)
        refine lv_aload_n hx hb dL_law_849 rfl (lv_at hl 2 rfl) ?_
        refine lv_aload_n hx hb dL_law_850 rfl (lv_at hl 0 rfl) ?_
        refine lv_iload_n hx hb dL_law_851 rfl (lv_at hl 3 rfl) ?_
        refine lv_iconst (v := 1) hx hb dL_law_852 (by decide) ?_
        refine lv_iadd hx hb dL_law_853 ?_
        refine va_sld hx hb hX hbl hbA w.2.2.1 hi1 dL_law_854 ?_
        refine zl_rl wM_ad w (zc_V C (zl_w1 w) (kM9_count l D qm cs N m9 _ (r, m1) hM1 _) cf_9_count ci_9_count ll_109 rcM_0 ⟨Nat.le_of_ble_eq_true rfl, Nat.le_of_ble_eq_true rfl⟩ hl.1 rfl (Nat.le_of_ble_eq_true rfl) dL_law_855 ⟨Nat.le_of_ble_eq_true rfl, Nat.le_of_ble_eq_true rfl⟩) (fun H locs w => ?_)
        refine W.lcmp hx hb dL_law_858 ?_
        refine lv_if_eq (tgt := 864) hx hb dL_law_859 (by decide) (fun _ => ?_) (fun h => absurd (zl_cmp r) h)
        exact hnext x m1 hI1 H locs ls w hl
      have e_0 : sv.toInt ≠ 0 := zf_ne h100
      have e_1 : sv.toInt ≠ 1 := zf_ne h101
      have e_2 : sv.toInt ≠ 2 := zf_ne h102
      have e_3 : sv.toInt ≠ 3 := zf_ne h103
      have e_4 : sv.toInt ≠ 4 := zf_ne h104
      have e_5 : sv.toInt ≠ 5 := zf_ne h105
      have e_6 : sv.toInt ≠ 6 := zf_ne h106
      have e_7 : sv.toInt ≠ 7 := zf_ne h107
      have e_8 : sv.toInt ≠ 8 := zf_ne h108
      have e_9 : sv.toInt ≠ 9 := zf_ne h109
      have e_10 : sv.toInt ≠ 10 := zf_ne h110
      have e_11 : sv.toInt ≠ 11 := zf_ne h111
      have e_12 : sv.toInt ≠ 12 := zf_ne h112
      have e_13 : sv.toInt ≠ 13 := zf_ne h113
      have e_14 : sv.toInt ≠ 14 := zf_ne h114
      have e_15 : sv.toInt ≠ 15 := zf_ne h115
      have e_16 : sv.toInt ≠ 16 := zf_ne h116
      have e_17 : sv.toInt ≠ 17 := zf_ne h117
      have e_18 : sv.toInt ≠ 18 := zf_ne h118
      have e_19 : sv.toInt ≠ 19 := zf_ne h119
      have e_20 : sv.toInt ≠ 20 := zf_ne h120
      have e_21 : sv.toInt ≠ 21 := zf_ne h121
      refine lv_tableOut (tgt := 864) hx hb dL_law_33 (by omega) (by decide) ?_
      exact hnext x m9 (hmono k x m9 hI) H locs ls w hl
