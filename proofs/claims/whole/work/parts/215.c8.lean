def fX8_count (N : Nat) (u : zs_T) (v1 : Int32) : Option Int64 :=
  (if v1 = 0 then some ((zs_i u 0).toInt64) else (if v1 = 1 then some ((zs_i u 1).toInt64) else (if v1 = 2 then some ((zs_i u 3).toInt64) else (if v1 = 3 then some ((zs_i u 5).toInt64) else (if v1 = 4 then some ((zs_i u 4).toInt64) else (if v1 = 5 then some ((zs_i u 6).toInt64) else (if v1 = 6 then some ((zs_i u 12).toInt64) else (if v1 = 7 then (zf_bp (fX4_upOn N u (zs_i u 1)) fun r9 => some r9.toInt64) else (if v1 = 8 then some ((zs_i u 13).toInt64) else (if v1 = 9 then (zf_bp (fX2_isOpen u) fun r13 => (if r13 = 0 then some 0 else some 1)) else (if v1 = 10 then some ((zs_i u 19).toInt64) else (if v1 = 11 then some (zs_l u 1) else (if v1 = 12 then some ((zs_i u 2).toInt64) else (if v1 = 13 then some (zs_l u 0) else some (-1)))))))))))))))
set_option maxHeartbeats 4000000 in
set_option maxRecDepth 100000 in
theorem kX8_count (l : Launch) (D : va_G) (q : Nat → Nat) (cs : Nat → ClassId) (N : Nat) (u : zs_T) (v1 : Int32) (z : Int64) (hf : fX8_count N u v1 = some z) : zg_Cl l yX8_count cX8_count 2 (some .long) 1 D cs (wX q cs) u [.ref (q 0), .int v1] z u := by
  refine zg_Cl_of (own := RX8) (by decide) rfl wX_ad (Nat.le_of_ble_eq_true rfl) ?_
  intro p e s m args below meth c A Q C hret w ls hl
  obtain ⟨hx, hb, -⟩ := id C
  have hl : lv_has ls 2 [(0, .ref (q 0)), (1, .int v1)] := hl
  generalize hH : s.heap = H at w ⊢
  generalize hLc : ([] : List Loc) = locs at w ⊢
  unfold fX8_count at hf
  refine lv_iload_n hx hb dX8_count_0 rfl (lv_at hl 1 rfl) ?_
  by_cases hs1 : v1 = 0
  · replace hf := zf_t hs1 hf
    refine lv_tableIn (off := 71) (tgt := 72) hx hb dX8_count_1 (by rw [hs1]; decide) (by rw [hs1]; decide) (by rw [hs1]; rfl) (by decide) ?_
    refine lv_aload_n hx hb dX8_count_72 rfl (lv_at hl 0 rfl) ?_
    refine xg_0_8 C w lf_8_65 dX8_count_73 ?_
    refine lv_i2l hx hb dX8_count_76 rfl ?_
    exact hret _ _ _ _ _ _ (zf_pr hf) w dX8_count_77
  · replace hf := zf_f hs1 hf
    by_cases hs2 : v1 = 1
    · replace hf := zf_t hs2 hf
      refine lv_tableIn (off := 77) (tgt := 78) hx hb dX8_count_1 (by rw [hs2]; decide) (by rw [hs2]; decide) (by rw [hs2]; rfl) (by decide) ?_
      refine lv_aload_n hx hb dX8_count_78 rfl (lv_at hl 0 rfl) ?_
      refine xg_0_9 C w lf_8_69 dX8_count_79 ?_
      refine lv_i2l hx hb dX8_count_82 rfl ?_
      exact hret _ _ _ _ _ _ (zf_pr hf) w dX8_count_83
    · replace hf := zf_f hs2 hf
      by_cases hs3 : v1 = 2
      · replace hf := zf_t hs3 hf
        refine lv_tableIn (off := 83) (tgt := 84) hx hb dX8_count_1 (by rw [hs3]; decide) (by rw [hs3]; decide) (by rw [hs3]; rfl) (by decide) ?_
        refine lv_aload_n hx hb dX8_count_84 rfl (lv_at hl 0 rfl) ?_
        refine xg_0_2 C w lf_8_26 dX8_count_85 ?_
        refine xg_3_3 C w lf_8_237 dX8_count_88 ?_
        refine lv_i2l hx hb dX8_count_91 rfl ?_
        exact hret _ _ _ _ _ _ (zf_pr hf) w dX8_count_92
      · replace hf := zf_f hs3 hf
        by_cases hs4 : v1 = 3
        · replace hf := zf_t hs4 hf
          refine lv_tableIn (off := 92) (tgt := 93) hx hb dX8_count_1 (by rw [hs4]; decide) (by rw [hs4]; decide) (by rw [hs4]; rfl) (by decide) ?_
          refine lv_aload_n hx hb dX8_count_93 rfl (lv_at hl 0 rfl) ?_
          refine xg_0_2 C w lf_8_26 dX8_count_94 ?_
          refine xg_3_5 C w lf_8_87 dX8_count_97 ?_
          refine lv_i2l hx hb dX8_count_100 rfl ?_
          exact hret _ _ _ _ _ _ (zf_pr hf) w dX8_count_101
        · replace hf := zf_f hs4 hf
          by_cases hs5 : v1 = 4
          · replace hf := zf_t hs5 hf
            refine lv_tableIn (off := 101) (tgt := 102) hx hb dX8_count_1 (by rw [hs5]; decide) (by rw [hs5]; decide) (by rw [hs5]; rfl) (by decide) ?_
            refine lv_aload_n hx hb dX8_count_102 rfl (lv_at hl 0 rfl) ?_
            refine xg_0_2 C w lf_8_26 dX8_count_103 ?_
            refine xg_3_4 C w lf_8_240 dX8_count_106 ?_
            refine lv_i2l hx hb dX8_count_109 rfl ?_
            exact hret _ _ _ _ _ _ (zf_pr hf) w dX8_count_110
          · replace hf := zf_f hs5 hf
            by_cases hs6 : v1 = 5
            · replace hf := zf_t hs6 hf
              refine lv_tableIn (off := 110) (tgt := 111) hx hb dX8_count_1 (by rw [hs6]; decide) (by rw [hs6]; decide) (by rw [hs6]; rfl) (by decide) ?_
              refine lv_aload_n hx hb dX8_count_111 rfl (lv_at hl 0 rfl) ?_
              refine xg_0_2 C w lf_8_26 dX8_count_112 ?_
              refine xg_3_6 C w lf_8_243 dX8_count_115 ?_
              refine lv_i2l hx hb dX8_count_118 rfl ?_
              exact hret _ _ _ _ _ _ (zf_pr hf) w dX8_count_119
            · replace hf := zf_f hs6 hf
              by_cases hs7 : v1 = 6
              · replace hf := zf_t hs7 hf
                refine lv_tableIn (off := 119) (tgt := 120) hx hb dX8_count_1 (by rw [hs7]; decide) (by rw [hs7]; decide) (by rw [hs7]; rfl) (by decide) ?_
                refine lv_aload_n hx hb dX8_count_120 rfl (lv_at hl 0 rfl) ?_
                refine xg_0_4 C w lf_8_40 dX8_count_121 ?_
                refine xg_5_2 C w lf_8_114 dX8_count_124 ?_
                refine lv_i2l hx hb dX8_count_127 rfl ?_
                exact hret _ _ _ _ _ _ (zf_pr hf) w dX8_count_128
              · replace hf := zf_f hs7 hf
                by_cases hs8 : v1 = 7
                · replace hf := zf_t hs8 hf
                  refine lv_tableIn (off := 128) (tgt := 129) hx hb dX8_count_1 (by rw [hs8]; decide) (by rw [hs8]; decide) (by rw [hs8]; rfl) (by decide) ?_
                  refine lv_aload_n hx hb dX8_count_129 rfl (lv_at hl 0 rfl) ?_
                  refine xg_0_4 C w lf_8_40 dX8_count_130 ?_
                  refine lv_aload_n hx hb dX8_count_133 rfl (lv_at hl 0 rfl) ?_
                  refine xg_0_9 C w lf_8_69 dX8_count_134 ?_
                  obtain ⟨r9, hc, hf⟩ := zf_bp_ex hf
                  refine zc_ri wX_ad w (zc_V C w (kX4_upOn l D q cs N _ _ _ hc _) cf_4_upOn ci_4_upOn lm_8_125 rcX_5 ⟨Nat.le_of_ble_eq_true rfl, Nat.le_of_ble_eq_true rfl⟩ hl.1 rfl (Nat.le_of_ble_eq_true rfl) dX8_count_137 ⟨Nat.le_refl _, Nat.le_refl _⟩) (fun H locs w => ?_)
                  refine lv_i2l hx hb dX8_count_140 rfl ?_
                  exact hret _ _ _ _ _ _ (zf_pr hf) w dX8_count_141
                · replace hf := zf_f hs8 hf
                  by_cases hs11 : v1 = 8
                  · replace hf := zf_t hs11 hf
                    refine lv_tableIn (off := 141) (tgt := 142) hx hb dX8_count_1 (by rw [hs11]; decide) (by rw [hs11]; decide) (by rw [hs11]; rfl) (by decide) ?_
                    refine lv_aload_n hx hb dX8_count_142 rfl (lv_at hl 0 rfl) ?_
                    refine xg_0_4 C w lf_8_40 dX8_count_143 ?_
                    refine xg_5_8 C w lf_8_90 dX8_count_146 ?_
                    refine lv_i2l hx hb dX8_count_149 rfl ?_
                    exact hret _ _ _ _ _ _ (zf_pr hf) w dX8_count_150
                  · replace hf := zf_f hs11 hf
                    by_cases hs12 : v1 = 9
                    · replace hf := zf_t hs12 hf
                      refine lv_tableIn (off := 150) (tgt := 151) hx hb dX8_count_1 (by rw [hs12]; decide) (by rw [hs12]; decide) (by rw [hs12]; rfl) (by decide) ?_
                      refine lv_aload_n hx hb dX8_count_151 rfl (lv_at hl 0 rfl) ?_
                      refine xg_0_2 C w lf_8_26 dX8_count_152 ?_
                      obtain ⟨r13, hc, hf⟩ := zf_bp_ex hf
                      refine zc_ri wX_ad w (zc_V C w (kX2_isOpen l D q cs _ _ hc _) cf_2_isOpen ci_2_isOpen lm_8_246 rcX_3 ⟨Nat.le_of_ble_eq_true rfl, Nat.le_of_ble_eq_true rfl⟩ hl.1 rfl (Nat.le_of_ble_eq_true rfl) dX8_count_155 ⟨Nat.le_refl _, Nat.le_refl _⟩) (fun H locs w => ?_)
                      refine lv_if_eq (tgt := 165) hx hb dX8_count_158 (by decide) (fun h => ?_) (fun h => ?_)
                      · replace hf := zf_t h hf
                        refine lv_lconst (v := 0) hx hb dX8_count_165 (by decide) ?_
                        exact hret _ _ _ _ _ _ (zf_pr hf) w dX8_count_166
                      · replace hf := zf_f h hf
                        refine lv_lconst (v := 1) hx hb dX8_count_161 (by decide) ?_
                        refine lv_goto (tgt := 166) hx hb dX8_count_162 (by decide) ?_
                        exact hret _ _ _ _ _ _ (zf_pr hf) w dX8_count_166
                    · replace hf := zf_f hs12 hf
                      by_cases hs15 : v1 = 10
                      · replace hf := zf_t hs15 hf
                        refine lv_tableIn (off := 166) (tgt := 167) hx hb dX8_count_1 (by rw [hs15]; decide) (by rw [hs15]; decide) (by rw [hs15]; rfl) (by decide) ?_
                        refine lv_aload_n hx hb dX8_count_167 rfl (lv_at hl 0 rfl) ?_
                        refine xg_0_6 C w lf_8_54 dX8_count_168 ?_
                        refine xg_7_2 C w lf_8_137 dX8_count_171 ?_
                        refine lv_i2l hx hb dX8_count_174 rfl ?_
                        exact hret _ _ _ _ _ _ (zf_pr hf) w dX8_count_175
                      · replace hf := zf_f hs15 hf
                        by_cases hs16 : v1 = 11
                        · replace hf := zf_t hs16 hf
                          refine lv_tableIn (off := 175) (tgt := 176) hx hb dX8_count_1 (by rw [hs16]; decide) (by rw [hs16]; decide) (by rw [hs16]; rfl) (by decide) ?_
                          refine lv_aload_n hx hb dX8_count_176 rfl (lv_at hl 0 rfl) ?_
                          refine xg_0_7 C w lf_8_61 dX8_count_177 ?_
                          refine xg_8_4 C w lf_8_250 dX8_count_180 ?_
                          exact hret _ _ _ _ _ _ (zf_pr hf) w dX8_count_183
                        · replace hf := zf_f hs16 hf
                          by_cases hs17 : v1 = 12
                          · replace hf := zf_t hs17 hf
                            refine lv_tableIn (off := 183) (tgt := 184) hx hb dX8_count_1 (by rw [hs17]; decide) (by rw [hs17]; decide) (by rw [hs17]; rfl) (by decide) ?_
                            refine lv_aload_n hx hb dX8_count_184 rfl (lv_at hl 0 rfl) ?_
                            refine xg_0_0 C w lf_8_10 dX8_count_185 ?_
                            refine xg_1_1 C w lf_8_72 dX8_count_188 ?_
                            refine lv_i2l hx hb dX8_count_191 rfl ?_
                            exact hret _ _ _ _ _ _ (zf_pr hf) w dX8_count_192
                          · replace hf := zf_f hs17 hf
                            by_cases hs18 : v1 = 13
                            · replace hf := zf_t hs18 hf
                              refine lv_tableIn (off := 192) (tgt := 193) hx hb dX8_count_1 (by rw [hs18]; decide) (by rw [hs18]; decide) (by rw [hs18]; rfl) (by decide) ?_
                              refine lv_aload_n hx hb dX8_count_193 rfl (lv_at hl 0 rfl) ?_
                              refine xg_0_2 C w lf_8_26 dX8_count_194 ?_
                              refine xg_3_7 C w lf_8_254 dX8_count_197 ?_
                              exact hret _ _ _ _ _ _ (zf_pr hf) w dX8_count_200
                            · replace hf := zf_f hs18 hf
                              have e_hs1 : v1.toInt ≠ 0 := zf_ne hs1
                              have e_hs2 : v1.toInt ≠ 1 := zf_ne hs2
                              have e_hs3 : v1.toInt ≠ 2 := zf_ne hs3
                              have e_hs4 : v1.toInt ≠ 3 := zf_ne hs4
                              have e_hs5 : v1.toInt ≠ 4 := zf_ne hs5
                              have e_hs6 : v1.toInt ≠ 5 := zf_ne hs6
                              have e_hs7 : v1.toInt ≠ 6 := zf_ne hs7
                              have e_hs8 : v1.toInt ≠ 7 := zf_ne hs8
                              have e_hs11 : v1.toInt ≠ 8 := zf_ne hs11
                              have e_hs12 : v1.toInt ≠ 9 := zf_ne hs12
                              have e_hs15 : v1.toInt ≠ 10 := zf_ne hs15
                              have e_hs16 : v1.toInt ≠ 11 := zf_ne hs16
                              have e_hs17 : v1.toInt ≠ 12 := zf_ne hs17
                              have e_hs18 : v1.toInt ≠ 13 := zf_ne hs18
                              refine lv_tableOut (tgt := 201) hx hb dX8_count_1 (by omega) (by decide) ?_
                              refine zr_ldc2 C lc_8_207 dX8_count_201 ?_
                              exact hret _ _ _ _ _ _ (zf_pr hf) w dX8_count_204
