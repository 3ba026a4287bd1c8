def fM9_count (N : Nat) (u : zs_T) (v1 : Int32) : Option (Int64 × zs_T) :=
  (if v1 = 0 then some ((zs_i u 9).toInt64, u) else (if v1 = 1 then some ((zs_i u 10).toInt64, u) else (if v1 = 2 then some ((zs_i u 6).toInt64, u) else (if v1 = 3 then some ((zs_i u 7).toInt64, u) else (if v1 = 4 then some ((zs_i u 8).toInt64, u) else (if v1 = 5 then some ((zs_i u 11).toInt64, u) else (if v1 = 6 then some ((zs_i u 15).toInt64, u) else (if v1 = 7 then (zf_bi (fM9_ups N u (zs_i u 10)) fun r9 u10 => some (r9.toInt64, u10)) else (if v1 = 8 then some ((zs_i u 16).toInt64, u) else (if v1 = 9 then (if 20 < zs_i u 8 then some (0, u) else some (1, u)) else (if v1 = 10 then some ((zs_i u 17).toInt64, u) else (if v1 = 11 then some (zs_l u 1, u) else (if v1 = 12 then some ((zs_i u 0).toInt64, u) else (if v1 = 13 then some (zs_l u 0, u) else some ((-1), u)))))))))))))))
set_option maxHeartbeats 4000000 in
set_option maxRecDepth 100000 in
theorem kM9_count (l : Launch) (D : va_G) (q : Nat → Nat) (cs : Nat → ClassId) (N : Nat) (u : zs_T) (v1 : Int32) (z : (Int64 × zs_T)) (hf : fM9_count N u v1 = some z) : zg_Cl l yX9_count cX9_count 2 (some .long) 3 D cs (wM q cs) u [.ref (q 0), .int v1] z.1 z.2 := by
  refine zg_Cl_of (own := RX9) (by decide) rfl wM_ad (Nat.le_of_ble_eq_true rfl) ?_
  intro p e s m args below meth c A Q C hret w ls hl
  obtain ⟨hx, hb, -⟩ := id C
  have hl : lv_has ls 2 [(0, .ref (q 0)), (1, .int v1)] := hl
  generalize hH : s.heap = H at w ⊢
  generalize hLc : ([] : List Loc) = locs at w ⊢
  unfold fM9_count at hf
  refine lv_iload_n hx hb dX9_count_0 rfl (lv_at hl 1 rfl) ?_
  by_cases hs1 : v1 = 0
  · replace hf := zf_t hs1 hf
    refine lv_tableIn (off := 71) (tgt := 72) hx hb dX9_count_1 (by rw [hs1]; decide) (by rw [hs1]; decide) (by rw [hs1]; rfl) (by decide) ?_
    refine lv_aload_n hx hb dX9_count_72 rfl (lv_at hl 0 rfl) ?_
    refine mg_0_11 C w lf_9_36 dX9_count_73 ?_
    refine lv_i2l hx hb dX9_count_76 rfl ?_
    exact hret _ _ _ _ _ _ hf w dX9_count_77
  · replace hf := zf_f hs1 hf
    by_cases hs2 : v1 = 1
    · replace hf := zf_t hs2 hf
      refine lv_tableIn (off := 77) (tgt := 78) hx hb dX9_count_1 (by rw [hs2]; decide) (by rw [hs2]; decide) (by rw [hs2]; rfl) (by decide) ?_
      refine lv_aload_n hx hb dX9_count_78 rfl (lv_at hl 0 rfl) ?_
      refine mg_0_12 C w lf_9_125 dX9_count_79 ?_
      refine lv_i2l hx hb dX9_count_82 rfl ?_
      exact hret _ _ _ _ _ _ hf w dX9_count_83
    · replace hf := zf_f hs2 hf
      by_cases hs3 : v1 = 2
      · replace hf := zf_t hs3 hf
        refine lv_tableIn (off := 83) (tgt := 84) hx hb dX9_count_1 (by rw [hs3]; decide) (by rw [hs3]; decide) (by rw [hs3]; rfl) (by decide) ?_
        refine lv_aload_n hx hb dX9_count_84 rfl (lv_at hl 0 rfl) ?_
        refine mg_0_8 C w lf_9_30 dX9_count_85 ?_
        refine lv_i2l hx hb dX9_count_88 rfl ?_
        exact hret _ _ _ _ _ _ hf w dX9_count_89
      · replace hf := zf_f hs3 hf
        by_cases hs4 : v1 = 3
        · replace hf := zf_t hs4 hf
          refine lv_tableIn (off := 89) (tgt := 90) hx hb dX9_count_1 (by rw [hs4]; decide) (by rw [hs4]; decide) (by rw [hs4]; rfl) (by decide) ?_
          refine lv_aload_n hx hb dX9_count_90 rfl (lv_at hl 0 rfl) ?_
          refine mg_0_9 C w lf_9_33 dX9_count_91 ?_
          refine lv_i2l hx hb dX9_count_94 rfl ?_
          exact hret _ _ _ _ _ _ hf w dX9_count_95
        · replace hf := zf_f hs4 hf
          by_cases hs5 : v1 = 4
          · replace hf := zf_t hs5 hf
            refine lv_tableIn (off := 95) (tgt := 96) hx hb dX9_count_1 (by rw [hs5]; decide) (by rw [hs5]; decide) (by rw [hs5]; rfl) (by decide) ?_
            refine lv_aload_n hx hb dX9_count_96 rfl (lv_at hl 0 rfl) ?_
            refine mg_0_10 C w lf_9_136 dX9_count_97 ?_
            refine lv_i2l hx hb dX9_count_100 rfl ?_
            exact hret _ _ _ _ _ _ hf w dX9_count_101
          · replace hf := zf_f hs5 hf
            by_cases hs6 : v1 = 5
            · replace hf := zf_t hs6 hf
              refine lv_tableIn (off := 101) (tgt := 102) hx hb dX9_count_1 (by rw [hs6]; decide) (by rw [hs6]; decide) (by rw [hs6]; rfl) (by decide) ?_
              refine lv_aload_n hx hb dX9_count_102 rfl (lv_at hl 0 rfl) ?_
              refine mg_0_13 C w lf_9_149 dX9_count_103 ?_
              refine lv_i2l hx hb dX9_count_106 rfl ?_
              exact hret _ _ _ _ _ _ hf w dX9_count_107
            · replace hf := zf_f hs6 hf
              by_cases hs7 : v1 = 6
              · replace hf := zf_t hs7 hf
                refine lv_tableIn (off := 107) (tgt := 108) hx hb dX9_count_1 (by rw [hs7]; decide) (by rw [hs7]; decide) (by rw [hs7]; rfl) (by decide) ?_
                refine lv_aload_n hx hb dX9_count_108 rfl (lv_at hl 0 rfl) ?_
                refine mg_0_24 C w lf_9_171 dX9_count_109 ?_
                refine lv_i2l hx hb dX9_count_112 rfl ?_
                exact hret _ _ _ _ _ _ hf w dX9_count_113
              · replace hf := zf_f hs7 hf
                by_cases hs8 : v1 = 7
                · replace hf := zf_t hs8 hf
                  refine lv_tableIn (off := 113) (tgt := 114) hx hb dX9_count_1 (by rw [hs8]; decide) (by rw [hs8]; decide) (by rw [hs8]; rfl) (by decide) ?_
                  refine lv_aload_n hx hb dX9_count_114 rfl (lv_at hl 0 rfl) ?_
                  refine lv_aload_n hx hb dX9_count_115 rfl (lv_at hl 0 rfl) ?_
                  refine mg_0_12 C w lf_9_125 dX9_count_116 ?_
                  obtain ⟨r9, u10, hc, hf⟩ := zf_bi_ex hf
                  refine zc_ri wM_ad w (zc_V C w (kM9_ups l D q cs N _ _ _ hc _) cf_9_ups ci_9_ups lm_9_142 rcM_0 ⟨Nat.le_of_ble_eq_true rfl, Nat.le_of_ble_eq_true rfl⟩ hl.1 rfl (Nat.le_of_ble_eq_true rfl) dX9_count_119 ⟨Nat.le_refl _, Nat.le_refl _⟩) (fun H locs w => ?_)
                  refine lv_i2l hx hb dX9_count_122 rfl ?_
                  exact hret _ _ _ _ _ _ hf w dX9_count_123
                · replace hf := zf_f hs8 hf
                  by_cases hs11 : v1 = 8
                  · replace hf := zf_t hs11 hf
                    refine lv_tableIn (off := 123) (tgt := 124) hx hb dX9_count_1 (by rw [hs11]; decide) (by rw [hs11]; decide) (by rw [hs11]; rfl) (by decide) ?_
                    refine lv_aload_n hx hb dX9_count_124 rfl (lv_at hl 0 rfl) ?_
                    refine mg_0_25 C w lf_9_128 dX9_count_125 ?_
                    refine lv_i2l hx hb dX9_count_128 rfl ?_
                    exact hret _ _ _ _ _ _ hf w dX9_count_129
                  · replace hf := zf_f hs11 hf
                    by_cases hs12 : v1 = 9
                    · replace hf := zf_t hs12 hf
                      refine lv_tableIn (off := 129) (tgt := 130) hx hb dX9_count_1 (by rw [hs12]; decide) (by rw [hs12]; decide) (by rw [hs12]; rfl) (by decide) ?_
                      refine lv_aload_n hx hb dX9_count_130 rfl (lv_at hl 0 rfl) ?_
                      refine mg_0_10 C w lf_9_136 dX9_count_131 ?_
                      refine lv_bipush (v := 20) hx hb dX9_count_134 (by decide) ?_
                      refine lv_icmp_gt (tgt := 143) hx hb dX9_count_136 (by decide) (fun h => ?_) (fun h => ?_)
                      · replace hf := zf_t h hf
                        refine lv_lconst (v := 0) hx hb dX9_count_143 (by decide) ?_
                        exact hret _ _ _ _ _ _ hf w dX9_count_144
                      · replace hf := zf_f h hf
                        refine lv_lconst (v := 1) hx hb dX9_count_139 (by decide) ?_
                        refine lv_goto (tgt := 144) hx hb dX9_count_140 (by decide) ?_
                        exact hret _ _ _ _ _ _ hf w dX9_count_144
                    · replace hf := zf_f hs12 hf
                      by_cases hs13 : v1 = 10
                      · replace hf := zf_t hs13 hf
                        refine lv_tableIn (off := 144) (tgt := 145) hx hb dX9_count_1 (by rw [hs13]; decide) (by rw [hs13]; decide) (by rw [hs13]; rfl) (by decide) ?_
                        refine lv_aload_n hx hb dX9_count_145 rfl (lv_at hl 0 rfl) ?_
                        refine mg_0_26 C w lf_9_57 dX9_count_146 ?_
                        refine lv_i2l hx hb dX9_count_149 rfl ?_
                        exact hret _ _ _ _ _ _ hf w dX9_count_150
                      · replace hf := zf_f hs13 hf
                        by_cases hs14 : v1 = 11
                        · replace hf := zf_t hs14 hf
                          refine lv_tableIn (off := 150) (tgt := 151) hx hb dX9_count_1 (by rw [hs14]; decide) (by rw [hs14]; decide) (by rw [hs14]; rfl) (by decide) ?_
                          refine lv_aload_n hx hb dX9_count_151 rfl (lv_at hl 0 rfl) ?_
                          refine mg_0_44 C w lf_9_231 dX9_count_152 ?_
                          exact hret _ _ _ _ _ _ hf w dX9_count_155
                        · replace hf := zf_f hs14 hf
                          by_cases hs15 : v1 = 12
                          · replace hf := zf_t hs15 hf
                            refine lv_tableIn (off := 155) (tgt := 156) hx hb dX9_count_1 (by rw [hs15]; decide) (by rw [hs15]; decide) (by rw [hs15]; rfl) (by decide) ?_
                            refine lv_aload_n hx hb dX9_count_156 rfl (lv_at hl 0 rfl) ?_
                            refine mg_0_1 C w lf_9_104 dX9_count_157 ?_
                            refine lv_i2l hx hb dX9_count_160 rfl ?_
                            exact hret _ _ _ _ _ _ hf w dX9_count_161
                          · replace hf := zf_f hs15 hf
                            by_cases hs16 : v1 = 13
                            · replace hf := zf_t hs16 hf
                              refine lv_tableIn (off := 161) (tgt := 162) hx hb dX9_count_1 (by rw [hs16]; decide) (by rw [hs16]; decide) (by rw [hs16]; rfl) (by decide) ?_
                              refine lv_aload_n hx hb dX9_count_162 rfl (lv_at hl 0 rfl) ?_
                              refine mg_0_17 C w lf_9_152 dX9_count_163 ?_
                              exact hret _ _ _ _ _ _ hf w dX9_count_166
                            · replace hf := zf_f hs16 hf
                              have e_hs1 : v1.toInt ≠ 0 := zf_ne hs1
                              have e_hs2 : v1.toInt ≠ 1 := zf_ne hs2
                              have e_hs3 : v1.toInt ≠ 2 := zf_ne hs3
                              have e_hs4 : v1.toInt ≠ 3 := zf_ne hs4
                              have e_hs5 : v1.toInt ≠ 4 := zf_ne hs5
                              have e_hs6 : v1.toInt ≠ 5 := zf_ne hs6
                              have e_hs7 : v1.toInt ≠ 6 := zf_ne hs7
                              have e_hs8 : v1.toInt ≠ 7 := zf_ne hs8
                              have e_hs11 : v1.toInt ≠ 8 := zf_ne hs11
                              have e_hs12 : v1.toInt ≠ 9 := zf_ne hs12
                              have e_hs13 : v1.toInt ≠ 10 := zf_ne hs13
                              have e_hs14 : v1.toInt ≠ 11 := zf_ne hs14
                              have e_hs15 : v1.toInt ≠ 12 := zf_ne hs15
                              have e_hs16 : v1.toInt ≠ 13 := zf_ne hs16
                              refine lv_tableOut (tgt := 167) hx hb dX9_count_1 (by omega) (by decide) ?_
                              refine zr_ldc2 C lc_9_234 dX9_count_167 ?_
                              exact hret _ _ _ _ _ _ hf w dX9_count_170
