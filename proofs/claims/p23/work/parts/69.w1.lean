/-! the law's own methods: least sums, roots, ways up, what is on -/
def s_L_sums_L1  (i_L1 : Nat) (da_L1 : Nat → Nat) : Nat → Nat := if (i_L1 % 7) = 0 then (updN da_L1 i_L1 0) else (updN da_L1 i_L1 9999)
def s_L_sums_L2 (xf : Nat → Nat) (xc : Nat → Nat) (i_L2 : Nat) (da_L2 : Nat → Nat) : Nat → Nat := if (xf i_L2) = 0 then (updN da_L2 (((i_L2 / 6) * 6) + (((xf i_L2) - 1) / 6)) (da_L2 (((i_L2 / 6) * 6) + (((xf i_L2) - 1) / 6)))) else (if (da_L2 (((i_L2 / 6) * 6) + (((xf i_L2) - 1) / 6))) ≤ (xc i_L2) then (updN da_L2 (((i_L2 / 6) * 6) + (((xf i_L2) - 1) / 6)) (da_L2 (((i_L2 / 6) * 6) + (((xf i_L2) - 1) / 6)))) else (updN da_L2 (((i_L2 / 6) * 6) + (((xf i_L2) - 1) / 6)) (xc i_L2)))
def s_L_sums_L3  (i_L3 : Nat) (da_L3 : Nat → Nat) : Nat → Nat := if (da_L3 ((6 * ((i_L3 / 6) % 6)) + (i_L3 % 6))) ≤ ((da_L3 ((6 * ((i_L3 / 6) % 6)) + (i_L3 / 36))) + (da_L3 ((6 * (i_L3 / 36)) + (i_L3 % 6)))) then (updN da_L3 ((6 * ((i_L3 / 6) % 6)) + (i_L3 % 6)) (da_L3 ((6 * ((i_L3 / 6) % 6)) + (i_L3 % 6)))) else (updN da_L3 ((6 * ((i_L3 / 6) % 6)) + (i_L3 % 6)) ((da_L3 ((6 * ((i_L3 / 6) % 6)) + (i_L3 / 36))) + (da_L3 ((6 * (i_L3 / 36)) + (i_L3 % 6)))))
def s_L_sums_xd (xf : Nat → Nat) (xc : Nat → Nat) (xd : Nat → Nat) : Nat → Nat := (lp s_L_sums_L3 216 (lp (s_L_sums_L2 xf xc) 36 (lp s_L_sums_L1 36 xd)))
set_option maxHeartbeats 4000000 in
set_option maxRecDepth 100000 in
theorem k_L_sums (l : Launch) (D : va_G) (cI : ClassId) (fa ca da : Nat) (xf xc xd : Nat → Nat) (hf : ∀ k, xf k ≤ 36) (hc : ∀ k, xc k ≤ 20) (hd : ∀ k, xd k ≤ 9999) : Kv l yL_sums wsL_sums 0 0 0 0 D (TI cI) [.ref fa, .ref ca, .ref da] ([(fa, .inl (cI, 36, .inl (nA xf))), (ca, .inl (cI, 36, .inl (nA xc))), (da, .inl (cI, 36, .inl (nA xd)))]) ([(fa, .inl (cI, 36, .inl (nA xf))), (ca, .inl (cI, 36, .inl (nA xc))), (da, .inl (cI, 36, .inl (nA (s_L_sums_xd xf xc xd))))]) := by
  refine Kv.of (cc := cL_sums) (maxL := 7) (lv0 := [(0, .ref fa), (1, .ref ca), (2, .ref da)]) (by decide +kernel) rfl (Nat.le_of_ble_eq_true rfl) rfl ?_
  intro p e s m args below meth c A C0 hr hlk hK hA
  refine v_iconst C0 (pc' := 1) (nI 0) (by decide +kernel) dL_sums_0 rfl ?_
  refine v_istore_n C0 (lv' := [(3, .int (nI 0)), (0, .ref fa), (1, .ref ca), (2, .ref da)]) (pc' := 2) rfl (by decide) rfl dL_sums_1 rfl ?_
  suffices LP_L1 : ∀ (j_L1 i_L1 : Nat) (da_L1 : Nat → Nat), i_L1 + j_L1 = 36 → da_L1 = lp s_L_sums_L1 i_L1 xd → (∀ k, da_L1 k ≤ 9999) → V p l e { frames := 0, cells := 0, slots := 0, locals := 0 } s m args below meth c D A 7 0 0 (MQ below (QV D (TI cI) ([(fa, .inl (cI, 36, .inl (nA xf))), (ca, .inl (cI, 36, .inl (nA xc))), (da, .inl (cI, 36, .inl (nA (s_L_sums_xd xf xc xd))))]) A) args s 0 0 A) ([(fa, .inl (cI, 36, .inl (nA xf))), (ca, .inl (cI, 36, .inl (nA xc))), (da, .inl (cI, 36, .inl (nA da_L1)))]) [(3, .int (nI i_L1)), (0, .ref fa), (1, .ref ca), (2, .ref da)] 2 [] by
    have h0_L1 := LP_L1 36 0 xd (Nat.zero_add _) (lp_zero _ _).symm hd
    exact v_sub (lv' := [(3, .int (nI 0)), (0, .ref fa), (1, .ref ca), (2, .ref da)]) [0, 1, 2, 3] rfl h0_L1
  intro j_L1
  induction j_L1 with
  | zero =>
    intro i_L1 da_L1 hi_L1 hs_L1 hd_L1
    have hi_L1 : 36 = i_L1 := by omega
    subst hi_L1
    refine v_iload_n C0 (pc' := 3) 0 rfl rfl dL_sums_2 rfl ?_
    refine v_bipush C0 (pc' := 5) (nI 36) (by decide +kernel) dL_sums_3 rfl ?_
    refine v_icmp_geN C0 31 (pc' := 8) (by omega) (by omega) dL_sums_5 (by decide) rfl (fun h1 => ?_) (fun h1 => ?_)
    · refine v_iconst C0 (pc' := 32) (nI 0) (by decide +kernel) dL_sums_31 rfl ?_
      refine v_istore_n C0 (lv' := [(3, .int (nI 0)), (0, .ref fa), (1, .ref ca), (2, .ref da)]) (pc' := 33) rfl (by decide) rfl dL_sums_32 rfl ?_
      suffices LP_L2 : ∀ (j_L2 i_L2 : Nat) (da_L2 : Nat → Nat), i_L2 + j_L2 = 36 → da_L2 = lp (s_L_sums_L2 xf xc) i_L2 da_L1 → (∀ k, da_L2 k ≤ 9999) → V p l e { frames := 0, cells := 0, slots := 0, locals := 0 } s m args below meth c D A 7 0 0 (MQ below (QV D (TI cI) ([(fa, .inl (cI, 36, .inl (nA xf))), (ca, .inl (cI, 36, .inl (nA xc))), (da, .inl (cI, 36, .inl (nA (s_L_sums_xd xf xc xd))))]) A) args s 0 0 A) ([(fa, .inl (cI, 36, .inl (nA xf))), (ca, .inl (cI, 36, .inl (nA xc))), (da, .inl (cI, 36, .inl (nA da_L2)))]) [(3, .int (nI i_L2)), (0, .ref fa), (1, .ref ca), (2, .ref da)] 33 [] by
        have h0_L2 := LP_L2 36 0 da_L1 (Nat.zero_add _) (lp_zero _ _).symm hd_L1
        exact v_sub (lv' := [(3, .int (nI 0)), (0, .ref fa), (1, .ref ca), (2, .ref da)]) [0, 1, 2, 3] rfl h0_L2
      intro j_L2
      induction j_L2 with
      | zero =>
        intro i_L2 da_L2 hi_L2 hs_L2 hd_L2
        have hi_L2 : 36 = i_L2 := by omega
        subst hi_L2
        refine v_iload_n C0 (pc' := 34) 0 rfl rfl dL_sums_33 rfl ?_
        refine v_bipush C0 (pc' := 36) (nI 36) (by decide +kernel) dL_sums_34 rfl ?_
        refine v_icmp_geN C0 93 (pc' := 39) (by omega) (by omega) dL_sums_36 (by decide) rfl (fun h2 => ?_) (fun h2 => ?_)
        · refine v_iconst C0 (pc' := 94) (nI 0) (by decide +kernel) dL_sums_93 rfl ?_
          refine v_istore_n C0 (lv' := [(3, .int (nI 0)), (0, .ref fa), (1, .ref ca), (2, .ref da)]) (pc' := 95) rfl (by decide) rfl dL_sums_94 rfl ?_
          suffices LP_L3 : ∀ (j_L3 i_L3 : Nat) (da_L3 : Nat → Nat), i_L3 + j_L3 = 216 → da_L3 = lp s_L_sums_L3 i_L3 da_L2 → (∀ k, da_L3 k ≤ 9999) → V p l e { frames := 0, cells := 0, slots := 0, locals := 0 } s m args below meth c D A 7 0 0 (MQ below (QV D (TI cI) ([(fa, .inl (cI, 36, .inl (nA xf))), (ca, .inl (cI, 36, .inl (nA xc))), (da, .inl (cI, 36, .inl (nA (s_L_sums_xd xf xc xd))))]) A) args s 0 0 A) ([(fa, .inl (cI, 36, .inl (nA xf))), (ca, .inl (cI, 36, .inl (nA xc))), (da, .inl (cI, 36, .inl (nA da_L3)))]) [(3, .int (nI i_L3)), (0, .ref fa), (1, .ref ca), (2, .ref da)] 95 [] by
            have h0_L3 := LP_L3 216 0 da_L2 (Nat.zero_add _) (lp_zero _ _).symm hd_L2
            exact v_sub (lv' := [(3, .int (nI 0)), (0, .ref fa), (1, .ref ca), (2, .ref da)]) [0, 1, 2, 3] rfl h0_L3
          intro j_L3
          induction j_L3 with
          | zero =>
            intro i_L3 da_L3 hi_L3 hs_L3 hd_L3
            have hi_L3 : 216 = i_L3 := by omega
            subst hi_L3
            refine v_iload_n C0 (pc' := 96) 0 rfl rfl dL_sums_95 rfl ?_
            refine v_sipush C0 (pc' := 99) (nI 216) (by decide +kernel) dL_sums_96 rfl ?_
            refine v_icmp_geN C0 194 (pc' := 102) (by omega) (by omega) dL_sums_99 (by decide) rfl (fun h3 => ?_) (fun h3 => ?_)
            · refine v_world (ws' := [(fa, .inl (cI, 36, .inl (nA xf))), (ca, .inl (cI, 36, .inl (nA xc))), (da, .inl (cI, 36, .inl (nA (s_L_sums_xd xf xc xd))))]) (by simp only [s_L_sums_xd, ← hs_L1, ← hs_L2, ← hs_L3]) ?_
              exact v_vret C0 hr hlk hK dL_sums_194
            · exact absurd (by omega) h3
          | succ j_L3 ih_L3 =>
            intro i_L3 da_L3 hi_L3 hs_L3 hd_L3
            refine v_iload_n C0 (pc' := 96) 0 rfl rfl dL_sums_95 rfl ?_
            refine v_sipush C0 (pc' := 99) (nI 216) (by decide +kernel) dL_sums_96 rfl ?_
            refine v_icmp_geN C0 194 (pc' := 102) (by omega) (by omega) dL_sums_99 (by decide) rfl (fun h4 => ?_) (fun h4 => ?_)
            · exact absurd h4 (by omega)
            · refine v_iload_n C0 (pc' := 103) 0 rfl rfl dL_sums_102 rfl ?_
              refine v_bipush C0 (pc' := 105) (nI 36) (by decide +kernel) dL_sums_103 rfl ?_
              refine v_idivN C0 (pc' := 106) (by omega) (by decide) (by decide) dL_sums_105 rfl ?_
              refine v_istore C0 (lv' := [(4, .int (nI (i_L3 / 36))), (3, .int (nI i_L3)), (0, .ref fa), (1, .ref ca), (2, .ref da)]) (pc' := 108) (by decide) rfl dL_sums_106 rfl ?_
              refine v_iload_n C0 (pc' := 109) 1 rfl rfl dL_sums_108 rfl ?_
              refine v_bipush C0 (pc' := 111) (nI 6) (by decide +kernel) dL_sums_109 rfl ?_
              refine v_idivN C0 (pc' := 112) (by omega) (by decide) (by decide) dL_sums_111 rfl ?_
              refine v_bipush C0 (pc' := 114) (nI 6) (by decide +kernel) dL_sums_112 rfl ?_
              refine v_iremN C0 (pc' := 115) (by omega) (by decide) (by decide) dL_sums_114 rfl ?_
              refine v_istore C0 (lv' := [(5, .int (nI ((i_L3 / 6) % 6))), (4, .int (nI (i_L3 / 36))), (3, .int (nI i_L3)), (0, .ref fa), (1, .ref ca), (2, .ref da)]) (pc' := 117) (by decide) rfl dL_sums_115 rfl ?_
              refine v_aload_n C0 (pc' := 118) 5 rfl rfl dL_sums_117 rfl ?_
              refine v_bipush C0 (pc' := 120) (nI 6) (by decide +kernel) dL_sums_118 rfl ?_
              refine v_iload C0 (pc' := 122) 0 rfl dL_sums_120 rfl ?_
              refine v_imulN C0 (pc' := 123) dL_sums_122 rfl ?_
              refine v_iload C0 (pc' := 125) 1 rfl dL_sums_123 rfl ?_
              refine v_iaddN C0 (pc' := 126) dL_sums_125 rfl ?_
              refine v_ialdN C0 hK (pc' := 127) 2 0 rfl rfl (by omega) (by decide) dL_sums_126 rfl ?_
              refine v_aload_n C0 (pc' := 128) 5 rfl rfl dL_sums_127 rfl ?_
              refine v_bipush C0 (pc' := 130) (nI 6) (by decide +kernel) dL_sums_128 rfl ?_
              refine v_iload C0 (pc' := 132) 1 rfl dL_sums_130 rfl ?_
              refine v_imulN C0 (pc' := 133) dL_sums_132 rfl ?_
              refine v_iload_n C0 (pc' := 134) 2 rfl rfl dL_sums_133 rfl ?_
              refine v_bipush C0 (pc' := 136) (nI 6) (by decide +kernel) dL_sums_134 rfl ?_
              refine v_iremN C0 (pc' := 137) (by omega) (by decide) (by decide) dL_sums_136 rfl ?_
              refine v_iaddN C0 (pc' := 138) dL_sums_137 rfl ?_
              refine v_ialdN C0 hK (pc' := 139) 2 0 rfl rfl (by omega) (by decide) dL_sums_138 rfl ?_
              refine v_iaddN C0 (pc' := 140) dL_sums_139 rfl ?_
              refine v_istore C0 (lv' := [(6, .int (nI ((da_L3 ((6 * ((i_L3 / 6) % 6)) + (i_L3 / 36))) + (da_L3 ((6 * (i_L3 / 36)) + (i_L3 % 6)))))), (5, .int (nI ((i_L3 / 6) % 6))), (4, .int (nI (i_L3 / 36))), (3, .int (nI i_L3)), (0, .ref fa), (1, .ref ca), (2, .ref da)]) (pc' := 142) (by decide) rfl dL_sums_140 rfl ?_
              refine v_aload_n C0 (pc' := 143) 6 rfl rfl dL_sums_142 rfl ?_
              refine v_bipush C0 (pc' := 145) (nI 6) (by decide +kernel) dL_sums_143 rfl ?_
              refine v_iload C0 (pc' := 147) 1 rfl dL_sums_145 rfl ?_
              refine v_imulN C0 (pc' := 148) dL_sums_147 rfl ?_
              refine v_iload_n C0 (pc' := 149) 3 rfl rfl dL_sums_148 rfl ?_
              refine v_bipush C0 (pc' := 151) (nI 6) (by decide +kernel) dL_sums_149 rfl ?_
              refine v_iremN C0 (pc' := 152) (by omega) (by decide) (by decide) dL_sums_151 rfl ?_
              refine v_iaddN C0 (pc' := 153) dL_sums_152 rfl ?_
              refine v_iload C0 (pc' := 155) 0 rfl dL_sums_153 rfl ?_
              refine v_aload_n C0 (pc' := 156) 6 rfl rfl dL_sums_155 rfl ?_
              refine v_bipush C0 (pc' := 158) (nI 6) (by decide +kernel) dL_sums_156 rfl ?_
              refine v_iload C0 (pc' := 160) 1 rfl dL_sums_158 rfl ?_
              refine v_imulN C0 (pc' := 161) dL_sums_160 rfl ?_
              refine v_iload_n C0 (pc' := 162) 3 rfl rfl dL_sums_161 rfl ?_
              refine v_bipush C0 (pc' := 164) (nI 6) (by decide +kernel) dL_sums_162 rfl ?_
              refine v_iremN C0 (pc' := 165) (by omega) (by decide) (by decide) dL_sums_164 rfl ?_
              refine v_iaddN C0 (pc' := 166) dL_sums_165 rfl ?_
              refine v_ialdN C0 hK (pc' := 167) 2 0 rfl rfl (by omega) (by decide) dL_sums_166 rfl ?_
              refine v_icmp_geN C0 175 (pc' := 170) (by have := hd_L3 ((6 * ((i_L3 / 6) % 6)) + (i_L3 / 36)); have := hd_L3 ((6 * (i_L3 / 36)) + (i_L3 % 6)); omega) (by have := hd_L3 ((6 * ((i_L3 / 6) % 6)) + (i_L3 % 6)); omega) dL_sums_167 (by decide) rfl (fun h5 => ?_) (fun h5 => ?_)
              · refine v_aload_n C0 (pc' := 176) 6 rfl rfl dL_sums_175 rfl ?_
                refine v_bipush C0 (pc' := 178) (nI 6) (by decide +kernel) dL_sums_176 rfl ?_
                refine v_iload C0 (pc' := 180) 1 rfl dL_sums_178 rfl ?_
                refine v_imulN C0 (pc' := 181) dL_sums_180 rfl ?_
                refine v_iload_n C0 (pc' := 182) 3 rfl rfl dL_sums_181 rfl ?_
                refine v_bipush C0 (pc' := 184) (nI 6) (by decide +kernel) dL_sums_182 rfl ?_
                refine v_iremN C0 (pc' := 185) (by omega) (by decide) (by decide) dL_sums_184 rfl ?_
                refine v_iaddN C0 (pc' := 186) dL_sums_185 rfl ?_
                refine v_ialdN C0 hK (pc' := 187) 2 0 rfl rfl (by omega) (by decide) dL_sums_186 rfl ?_
                refine v_iastN C0 hK (ws' := [(fa, .inl (cI, 36, .inl (nA xf))), (ca, .inl (cI, 36, .inl (nA xc))), (da, .inl (cI, 36, .inl (nA (updN da_L3 ((6 * ((i_L3 / 6) % 6)) + (i_L3 % 6)) (da_L3 ((6 * ((i_L3 / 6) % 6)) + (i_L3 % 6)))))))]) (pc' := 188) 2 0 rfl rfl rfl (by omega) (by decide) dL_sums_187 rfl ?_
                refine v_iincN C0 (lv' := [(3, .int (nI (i_L3 + 1))), (6, .int (nI ((da_L3 ((6 * ((i_L3 / 6) % 6)) + (i_L3 / 36))) + (da_L3 ((6 * (i_L3 / 36)) + (i_L3 % 6)))))), (5, .int (nI ((i_L3 / 6) % 6))), (4, .int (nI (i_L3 / 36))), (0, .ref fa), (1, .ref ca), (2, .ref da)]) (y := 1) (pc' := 191) 3 rfl (by decide) rfl dL_sums_188 rfl ?_
                refine v_goto C0 95 dL_sums_191 (by decide) ?_
                have hb := ih_L3 (i_L3 + 1) (updN da_L3 ((6 * ((i_L3 / 6) % 6)) + (i_L3 % 6)) (da_L3 ((6 * ((i_L3 / 6) % 6)) + (i_L3 % 6)))) (by omega) (by rw [lp_succ, ← hs_L3]; simp only [s_L_sums_L3, if_neg h4, if_pos h5]) (updN_le hd_L3 (by have := hd_L3 ((6 * ((i_L3 / 6) % 6)) + (i_L3 % 6)); have := hd_L3 ((6 * ((i_L3 / 6) % 6)) + (i_L3 / 36)); have := hd_L3 ((6 * (i_L3 / 36)) + (i_L3 % 6)); omega))
                exact v_sub (lv' := [(3, .int (nI (i_L3 + 1))), (0, .ref fa), (1, .ref ca), (2, .ref da)]) [0, 4, 5, 6] rfl hb
              · refine v_iload C0 (pc' := 172) 0 rfl dL_sums_170 rfl ?_
                refine v_goto C0 187 dL_sums_172 (by decide) ?_
                refine v_iastN C0 hK (ws' := [(fa, .inl (cI, 36, .inl (nA xf))), (ca, .inl (cI, 36, .inl (nA xc))), (da, .inl (cI, 36, .inl (nA (updN da_L3 ((6 * ((i_L3 / 6) % 6)) + (i_L3 % 6)) ((da_L3 ((6 * ((i_L3 / 6) % 6)) + (i_L3 / 36))) + (da_L3 ((6 * (i_L3 / 36)) + (i_L3 % 6))))))))]) (pc' := 188) 2 0 rfl rfl rfl (by omega) (by decide) dL_sums_187 rfl ?_
                refine v_iincN C0 (lv' := [(3, .int (nI (i_L3 + 1))), (6, .int (nI ((da_L3 ((6 * ((i_L3 / 6) % 6)) + (i_L3 / 36))) + (da_L3 ((6 * (i_L3 / 36)) + (i_L3 % 6)))))), (5, .int (nI ((i_L3 / 6) % 6))), (4, .int (nI (i_L3 / 36))), (0, .ref fa), (1, .ref ca), (2, .ref da)]) (y := 1) (pc' := 191) 3 rfl (by decide) rfl dL_sums_188 rfl ?_
                refine v_goto C0 95 dL_sums_191 (by decide) ?_
                have hb := ih_L3 (i_L3 + 1) (updN da_L3 ((6 * ((i_L3 / 6) % 6)) + (i_L3 % 6)) ((da_L3 ((6 * ((i_L3 / 6) % 6)) + (i_L3 / 36))) + (da_L3 ((6 * (i_L3 / 36)) + (i_L3 % 6))))) (by omega) (by rw [lp_succ, ← hs_L3]; simp only [s_L_sums_L3, if_neg h4, if_neg h5]) (updN_le hd_L3 (by have := hd_L3 ((6 * ((i_L3 / 6) % 6)) + (i_L3 % 6)); have := hd_L3 ((6 * ((i_L3 / 6) % 6)) + (i_L3 / 36)); have := hd_L3 ((6 * (i_L3 / 36)) + (i_L3 % 6)); omega))
                exact v_sub (lv' := [(3, .int (nI (i_L3 + 1))), (0, .ref fa), (1, .ref ca), (2, .ref da)]) [0, 4, 5, 6] rfl hb
        · exact absurd (by omega) h2
      | succ j_L2 ih_L2 =>
        intro i_L2 da_L2 hi_L2 hs_L2 hd_L2
        refine v_iload_n C0 (pc' := 34) 0 rfl rfl dL_sums_33 rfl ?_
        refine v_bipush C0 (pc' := 36) (nI 36) (by decide +kernel) dL_sums_34 rfl ?_
        refine v_icmp_geN C0 93 (pc' := 39) (by omega) (by omega) dL_sums_36 (by decide) rfl (fun h6 => ?_) (fun h6 => ?_)
        · exact absurd h6 (by omega)
        · refine v_iload_n C0 (pc' := 40) 0 rfl rfl dL_sums_39 rfl ?_
          refine v_bipush C0 (pc' := 42) (nI 6) (by decide +kernel) dL_sums_40 rfl ?_
          refine v_idivN C0 (pc' := 43) (by omega) (by decide) (by decide) dL_sums_42 rfl ?_
          refine v_bipush C0 (pc' := 45) (nI 6) (by decide +kernel) dL_sums_43 rfl ?_
          refine v_imulN C0 (pc' := 46) dL_sums_45 rfl ?_
          refine v_aload_n C0 (pc' := 47) 1 rfl rfl dL_sums_46 rfl ?_
          refine v_iload_n C0 (pc' := 48) 0 rfl rfl dL_sums_47 rfl ?_
          refine v_ialdN C0 hK (pc' := 49) 0 0 rfl rfl (by omega) (by decide) dL_sums_48 rfl ?_
          refine v_iconst C0 (pc' := 50) (nI 1) (by decide +kernel) dL_sums_49 rfl ?_
          refine v_isub C0 (pc' := 51) dL_sums_50 rfl ?_
          refine v_bipush C0 (pc' := 53) (nI 6) (by decide +kernel) dL_sums_51 rfl ?_
          refine v_idivP C0 (pc' := 54) (by have := hf i_L2; omega) dL_sums_53 rfl ?_
          refine v_iaddN C0 (pc' := 55) dL_sums_54 rfl ?_
          refine v_istore C0 (lv' := [(4, .int (nI (((i_L2 / 6) * 6) + (((xf i_L2) - 1) / 6)))), (3, .int (nI i_L2)), (0, .ref fa), (1, .ref ca), (2, .ref da)]) (pc' := 57) (by decide) rfl dL_sums_55 rfl ?_
          refine v_aload_n C0 (pc' := 58) 4 rfl rfl dL_sums_57 rfl ?_
          refine v_iload C0 (pc' := 60) 0 rfl dL_sums_58 rfl ?_
          refine v_aload_n C0 (pc' := 61) 2 rfl rfl dL_sums_60 rfl ?_
          refine v_iload_n C0 (pc' := 62) 1 rfl rfl dL_sums_61 rfl ?_
          refine v_ialdN C0 hK (pc' := 63) 0 0 rfl rfl (by omega) (by decide) dL_sums_62 rfl ?_
          refine v_if_leN C0 82 (pc' := 66) (by have := hf i_L2; omega) dL_sums_63 (by decide) rfl (fun h7 => ?_) (fun h7 => ?_)
          · refine v_aload_n C0 (pc' := 83) 4 rfl rfl dL_sums_82 rfl ?_
            refine v_iload C0 (pc' := 85) 0 rfl dL_sums_83 rfl ?_
            refine v_ialdN C0 hK (pc' := 86) 2 0 rfl rfl (by have := hf i_L2; omega) (by decide) dL_sums_85 rfl ?_
            refine v_iastN C0 hK (ws' := [(fa, .inl (cI, 36, .inl (nA xf))), (ca, .inl (cI, 36, .inl (nA xc))), (da, .inl (cI, 36, .inl (nA (updN da_L2 (((i_L2 / 6) * 6) + (((xf i_L2) - 1) / 6)) (da_L2 (((i_L2 / 6) * 6) + (((xf i_L2) - 1) / 6)))))))]) (pc' := 87) 2 0 rfl rfl rfl (by have := hf i_L2; omega) (by decide) dL_sums_86 rfl ?_
            refine v_iincN C0 (lv' := [(3, .int (nI (i_L2 + 1))), (4, .int (nI (((i_L2 / 6) * 6) + (((xf i_L2) - 1) / 6)))), (0, .ref fa), (1, .ref ca), (2, .ref da)]) (y := 1) (pc' := 90) 1 rfl (by decide) rfl dL_sums_87 rfl ?_
            refine v_goto C0 33 dL_sums_90 (by decide) ?_
            have hb := ih_L2 (i_L2 + 1) (updN da_L2 (((i_L2 / 6) * 6) + (((xf i_L2) - 1) / 6)) (da_L2 (((i_L2 / 6) * 6) + (((xf i_L2) - 1) / 6)))) (by omega) (by rw [lp_succ, ← hs_L2]; simp only [s_L_sums_L2, if_neg h6, if_pos h7]) (updN_le hd_L2 (by have := hf i_L2; have := hd_L2 (((i_L2 / 6) * 6) + (((xf i_L2) - 1) / 6)); omega))
            exact v_sub (lv' := [(3, .int (nI (i_L2 + 1))), (0, .ref fa), (1, .ref ca), (2, .ref da)]) [0, 2, 3, 4] rfl hb
          · refine v_aload_n C0 (pc' := 67) 3 rfl rfl dL_sums_66 rfl ?_
            refine v_iload_n C0 (pc' := 68) 1 rfl rfl dL_sums_67 rfl ?_
            refine v_ialdN C0 hK (pc' := 69) 1 0 rfl rfl (by omega) (by decide) dL_sums_68 rfl ?_
            refine v_aload_n C0 (pc' := 70) 4 rfl rfl dL_sums_69 rfl ?_
            refine v_iload C0 (pc' := 72) 0 rfl dL_sums_70 rfl ?_
            refine v_ialdN C0 hK (pc' := 73) 2 0 rfl rfl (by have := hf i_L2; omega) (by decide) dL_sums_72 rfl ?_
            refine v_icmp_geN C0 82 (pc' := 76) (by have := hc i_L2; omega) (by have := hf i_L2; have := hd_L2 (((i_L2 / 6) * 6) + (((xf i_L2) - 1) / 6)); omega) dL_sums_73 (by decide) rfl (fun h8 => ?_) (fun h8 => ?_)
            · refine v_aload_n C0 (pc' := 83) 4 rfl rfl dL_sums_82 rfl ?_
              refine v_iload C0 (pc' := 85) 0 rfl dL_sums_83 rfl ?_
              refine v_ialdN C0 hK (pc' := 86) 2 0 rfl rfl (by have := hf i_L2; omega) (by decide) dL_sums_85 rfl ?_
              refine v_iastN C0 hK (ws' := [(fa, .inl (cI, 36, .inl (nA xf))), (ca, .inl (cI, 36, .inl (nA xc))), (da, .inl (cI, 36, .inl (nA (updN da_L2 (((i_L2 / 6) * 6) + (((xf i_L2) - 1) / 6)) (da_L2 (((i_L2 / 6) * 6) + (((xf i_L2) - 1) / 6)))))))]) (pc' := 87) 2 0 rfl rfl rfl (by have := hf i_L2; omega) (by decide) dL_sums_86 rfl ?_
              refine v_iincN C0 (lv' := [(3, .int (nI (i_L2 + 1))), (4, .int (nI (((i_L2 / 6) * 6) + (((xf i_L2) - 1) / 6)))), (0, .ref fa), (1, .ref ca), (2, .ref da)]) (y := 1) (pc' := 90) 1 rfl (by decide) rfl dL_sums_87 rfl ?_
              refine v_goto C0 33 dL_sums_90 (by decide) ?_
              have hb := ih_L2 (i_L2 + 1) (updN da_L2 (((i_L2 / 6) * 6) + (((xf i_L2) - 1) / 6)) (da_L2 (((i_L2 / 6) * 6) + (((xf i_L2) - 1) / 6)))) (by omega) (by rw [lp_succ, ← hs_L2]; simp only [s_L_sums_L2, if_neg h6, if_neg h7, if_pos h8]) (updN_le hd_L2 (by have := hf i_L2; have := hc i_L2; have := hd_L2 (((i_L2 / 6) * 6) + (((xf i_L2) - 1) / 6)); omega))
              exact v_sub (lv' := [(3, .int (nI (i_L2 + 1))), (0, .ref fa), (1, .ref ca), (2, .ref da)]) [0, 2, 3, 4] rfl hb
            · refine v_aload_n C0 (pc' := 77) 3 rfl rfl dL_sums_76 rfl ?_
              refine v_iload_n C0 (pc' := 78) 1 rfl rfl dL_sums_77 rfl ?_
              refine v_ialdN C0 hK (pc' := 79) 1 0 rfl rfl (by omega) (by decide) dL_sums_78 rfl ?_
              refine v_goto C0 86 dL_sums_79 (by decide) ?_
              refine v_iastN C0 hK (ws' := [(fa, .inl (cI, 36, .inl (nA xf))), (ca, .inl (cI, 36, .inl (nA xc))), (da, .inl (cI, 36, .inl (nA (updN da_L2 (((i_L2 / 6) * 6) + (((xf i_L2) - 1) / 6)) (xc i_L2)))))]) (pc' := 87) 2 0 rfl rfl rfl (by have := hf i_L2; omega) (by decide) dL_sums_86 rfl ?_
              refine v_iincN C0 (lv' := [(3, .int (nI (i_L2 + 1))), (4, .int (nI (((i_L2 / 6) * 6) + (((xf i_L2) - 1) / 6)))), (0, .ref fa), (1, .ref ca), (2, .ref da)]) (y := 1) (pc' := 90) 1 rfl (by decide) rfl dL_sums_87 rfl ?_
              refine v_goto C0 33 dL_sums_90 (by decide) ?_
              have hb := ih_L2 (i_L2 + 1) (updN da_L2 (((i_L2 / 6) * 6) + (((xf i_L2) - 1) / 6)) (xc i_L2)) (by omega) (by rw [lp_succ, ← hs_L2]; simp only [s_L_sums_L2, if_neg h6, if_neg h7, if_neg h8]) (updN_le hd_L2 (by have := hf i_L2; have := hc i_L2; have := hd_L2 (((i_L2 / 6) * 6) + (((xf i_L2) - 1) / 6)); omega))
              exact v_sub (lv' := [(3, .int (nI (i_L2 + 1))), (0, .ref fa), (1, .ref ca), (2, .ref da)]) [0, 2, 3, 4] rfl hb
    · exact absurd (by omega) h1
  | succ j_L1 ih_L1 =>
    intro i_L1 da_L1 hi_L1 hs_L1 hd_L1
    refine v_iload_n C0 (pc' := 3) 0 rfl rfl dL_sums_2 rfl ?_
    refine v_bipush C0 (pc' := 5) (nI 36) (by decide +kernel) dL_sums_3 rfl ?_
    refine v_icmp_geN C0 31 (pc' := 8) (by omega) (by omega) dL_sums_5 (by decide) rfl (fun h9 => ?_) (fun h9 => ?_)
    · exact absurd h9 (by omega)
    · refine v_aload_n C0 (pc' := 9) 3 rfl rfl dL_sums_8 rfl ?_
      refine v_iload_n C0 (pc' := 10) 0 rfl rfl dL_sums_9 rfl ?_
      refine v_iload_n C0 (pc' := 11) 0 rfl rfl dL_sums_10 rfl ?_
      refine v_bipush C0 (pc' := 13) (nI 7) (by decide +kernel) dL_sums_11 rfl ?_
      refine v_iremN C0 (pc' := 14) (by omega) (by decide) (by decide) dL_sums_13 rfl ?_
      refine v_if_neN C0 21 (pc' := 17) (by omega) dL_sums_14 (by decide) rfl (fun h10 => ?_) (fun h10 => ?_)
      · refine v_sipush C0 (pc' := 24) (nI 9999) (by decide +kernel) dL_sums_21 rfl ?_
        refine v_iastN C0 hK (ws' := [(fa, .inl (cI, 36, .inl (nA xf))), (ca, .inl (cI, 36, .inl (nA xc))), (da, .inl (cI, 36, .inl (nA (updN da_L1 i_L1 9999))))]) (pc' := 25) 2 0 rfl rfl rfl (by omega) (by decide) dL_sums_24 rfl ?_
        refine v_iincN C0 (lv' := [(3, .int (nI (i_L1 + 1))), (0, .ref fa), (1, .ref ca), (2, .ref da)]) (y := 1) (pc' := 28) 0 rfl (by decide) rfl dL_sums_25 rfl ?_
        refine v_goto C0 2 dL_sums_28 (by decide) ?_
        have hb := ih_L1 (i_L1 + 1) (updN da_L1 i_L1 9999) (by omega) (by rw [lp_succ, ← hs_L1]; simp only [s_L_sums_L1, if_neg h9, if_neg h10]) (updN_le hd_L1 (by omega))
        exact v_sub (lv' := [(3, .int (nI (i_L1 + 1))), (0, .ref fa), (1, .ref ca), (2, .ref da)]) [0, 1, 2, 3] rfl hb
      · refine v_iconst C0 (pc' := 18) (nI 0) (by decide +kernel) dL_sums_17 rfl ?_
        refine v_goto C0 24 dL_sums_18 (by decide) ?_
        refine v_iastN C0 hK (ws' := [(fa, .inl (cI, 36, .inl (nA xf))), (ca, .inl (cI, 36, .inl (nA xc))), (da, .inl (cI, 36, .inl (nA (updN da_L1 i_L1 0))))]) (pc' := 25) 2 0 rfl rfl rfl (by omega) (by decide) dL_sums_24 rfl ?_
        refine v_iincN C0 (lv' := [(3, .int (nI (i_L1 + 1))), (0, .ref fa), (1, .ref ca), (2, .ref da)]) (y := 1) (pc' := 28) 0 rfl (by decide) rfl dL_sums_25 rfl ?_
        refine v_goto C0 2 dL_sums_28 (by decide) ?_
        have hb := ih_L1 (i_L1 + 1) (updN da_L1 i_L1 0) (by omega) (by rw [lp_succ, ← hs_L1]; simp only [s_L_sums_L1, if_neg h9, if_pos h10]) (updN_le hd_L1 (by omega))
        exact v_sub (lv' := [(3, .int (nI (i_L1 + 1))), (0, .ref fa), (1, .ref ca), (2, .ref da)]) [0, 1, 2, 3] rfl hb
theorem le_sums {xf xc xd : Nat → Nat} (hc : ∀ k, xc k ≤ 20) (hd : ∀ k, xd k ≤ 9999) : ∀ k, s_L_sums_xd xf xc xd k ≤ 9999 := by
  unfold s_L_sums_xd
  refine lp_inv (fun z : Nat → Nat => ∀ k, z k ≤ 9999) 216 (fun i _ a ha => ?_) _ (lp_inv (fun z : Nat → Nat => ∀ k, z k ≤ 9999) 36 (fun i _ a ha => ?_) _ (lp_inv (fun z : Nat → Nat => ∀ k, z k ≤ 9999) 36 (fun i _ a ha => ?_) _ hd))
  · unfold s_L_sums_L3
    split
    · exact updN_le ha (ha _)
    · refine updN_le ha ?_
      have := ha ((6 * ((i / 6) % 6)) + (i % 6))
      omega
  · unfold s_L_sums_L2
    split
    · exact updN_le ha (ha _)
    · split
      · exact updN_le ha (ha _)
      · refine updN_le ha ?_
        have := hc i
        omega
  · unfold s_L_sums_L1
    split
    · exact updN_le ha (by decide)
    · exact updN_le ha (by decide)
def s_L_root_L1 (xd : Nat → Nat) (unit : Nat) (i_L1 : Nat) (root_L1 : Nat) : Nat := if 9999 ≤ (xd ((6 * unit) + (5 - i_L1))) then root_L1 else (5 - i_L1)
def s_L_root (xd : Nat → Nat) (unit : Nat) : Nat := (lp (s_L_root_L1 xd unit) 6 unit)
set_option maxHeartbeats 4000000 in
set_option maxRecDepth 100000 in
theorem k_L_root (l : Launch) (D : va_G) (cI : ClassId) (da : Nat) (xd : Nat → Nat) (unit : Nat) (hd : ∀ k, xd k ≤ 9999) (hU : unit < 6) : Ki l yL_root wsL_root 0 0 0 0 D (TI cI) [.ref da, .int (nI unit)] ([(da, .inl (cI, 36, .inl (nA xd)))]) ([(da, .inl (cI, 36, .inl (nA xd)))]) (nI (s_L_root xd unit)) := by
  refine Ki.of (cc := cL_root) (maxL := 4) (rt := .int) (lv0 := [(0, .ref da), (1, .int (nI unit))]) (by decide +kernel) rfl (Nat.le_of_ble_eq_true rfl) rfl ?_
  intro p e s m args below meth c A C0 hr hlk hK hA
  refine v_iload_n C0 (pc' := 1) 1 rfl rfl dL_root_0 rfl ?_
  refine v_istore_n C0 (lv' := [(2, .int (nI unit)), (0, .ref da), (1, .int (nI unit))]) (pc' := 2) rfl (by decide) rfl dL_root_1 rfl ?_
  refine v_iconst C0 (pc' := 3) (nI 5) (by decide +kernel) dL_root_2 rfl ?_
  refine v_istore_n C0 (lv' := [(3, .int (nI 5)), (2, .int (nI unit)), (0, .ref da), (1, .int (nI unit))]) (pc' := 4) rfl (by decide) rfl dL_root_3 rfl ?_
  suffices LP_L1 : ∀ (j_L1 i_L1 : Nat) (root_L1 : Nat), i_L1 + j_L1 = 6 → root_L1 = lp (s_L_root_L1 xd unit) i_L1 unit → V p l e { frames := 0, cells := 0, slots := 0, locals := 0 } s m args below meth c D A 4 0 0 (MQ below (QI D (TI cI) ([(da, .inl (cI, 36, .inl (nA xd)))]) A (nI (s_L_root xd unit))) args s 0 0 A) ([(da, .inl (cI, 36, .inl (nA xd)))]) [(3, .int (dI 5 i_L1)), (2, .int (nI root_L1)), (0, .ref da), (1, .int (nI unit))] 4 [] by
    have h0_L1 := LP_L1 6 0 unit (Nat.zero_add _) (lp_zero _ _).symm
    rw [show dI 5 0 = nI 5 from dI_n (Nat.zero_le _)] at h0_L1
    exact v_sub (lv' := [(3, .int (nI 5)), (2, .int (nI unit)), (0, .ref da), (1, .int (nI unit))]) [0, 1, 2, 3] rfl h0_L1
  intro j_L1
  induction j_L1 with
  | zero =>
    intro i_L1 root_L1 hi_L1 hs_L1
    have hi_L1 : 6 = i_L1 := by omega
    subst hi_L1
    refine v_iload_n C0 (pc' := 5) 0 rfl rfl dL_root_4 rfl ?_
    refine v_if_lt C0 34 (pc' := 8) dL_root_5 (by decide) rfl (fun h1 => ?_) (fun h1 => ?_)
    · refine v_iload_n C0 (pc' := 35) 1 rfl rfl dL_root_34 rfl ?_
      exact v_iret C0 hr hlk hK (by simp only [s_L_root, if_pos h1, ← hs_L1]) dL_root_35
    · exact absurd (dI_neg 5) h1
  | succ j_L1 ih_L1 =>
    intro i_L1 root_L1 hi_L1 hs_L1
    refine v_iload_n C0 (pc' := 5) 0 rfl rfl dL_root_4 rfl ?_
    refine v_if_lt C0 34 (pc' := 8) dL_root_5 (by decide) rfl (fun h2 => ?_) (fun h2 => ?_)
    · exact absurd h2 (by rw [dI_n (show i_L1 ≤ 5 by omega)]; exact nI_pos (by omega))
    · refine v_lv (lv' := [(3, .int (nI (5 - i_L1))), (2, .int (nI root_L1)), (0, .ref da), (1, .int (nI unit))]) (by rw [dI_n (show i_L1 ≤ 5 by omega)]) ?_
      refine v_aload_n C0 (pc' := 9) 2 rfl rfl dL_root_8 rfl ?_
      refine v_bipush C0 (pc' := 11) (nI 6) (by decide +kernel) dL_root_9 rfl ?_
      refine v_iload_n C0 (pc' := 12) 3 rfl rfl dL_root_11 rfl ?_
      refine v_imulN C0 (pc' := 13) dL_root_12 rfl ?_
      refine v_iload_n C0 (pc' := 14) 0 rfl rfl dL_root_13 rfl ?_
      refine v_iaddN C0 (pc' := 15) dL_root_14 rfl ?_
      refine v_ialdN C0 hK (pc' := 16) 0 0 rfl rfl (by omega) (by decide) dL_root_15 rfl ?_
      refine v_sipush C0 (pc' := 19) (nI 9999) (by decide +kernel) dL_root_16 rfl ?_
      refine v_icmp_geN C0 26 (pc' := 22) (by have := hd ((6 * unit) + (5 - i_L1)); omega) (by omega) dL_root_19 (by decide) rfl (fun h3 => ?_) (fun h3 => ?_)
      · refine v_iload_n C0 (pc' := 27) 1 rfl rfl dL_root_26 rfl ?_
        refine v_istore_n C0 (lv' := [(2, .int (nI root_L1)), (3, .int (nI (5 - i_L1))), (0, .ref da), (1, .int (nI unit))]) (pc' := 28) rfl (by decide) rfl dL_root_27 rfl ?_
        refine v_iinc C0 (lv' := [(3, .int (dI 5 (i_L1 + 1))), (2, .int (nI root_L1)), (0, .ref da), (1, .int (nI unit))]) (pc' := 31) 1 rfl (dI 5 (i_L1 + 1)) (by rw [← dI_n (show i_L1 ≤ 5 by omega)]; exact dI_s1 5 i_L1) (by decide) rfl dL_root_28 rfl ?_
        refine v_goto C0 4 dL_root_31 (by decide) ?_
        have hb := ih_L1 (i_L1 + 1) root_L1 (by omega) (by rw [lp_succ, ← hs_L1]; simp only [s_L_root_L1, if_neg h2, if_pos h3])
        exact v_sub (lv' := [(3, .int (dI 5 (i_L1 + 1))), (2, .int (nI root_L1)), (0, .ref da), (1, .int (nI unit))]) [0, 1, 2, 3] rfl hb
      · refine v_iload_n C0 (pc' := 23) 0 rfl rfl dL_root_22 rfl ?_
        refine v_goto C0 27 dL_root_23 (by decide) ?_
        refine v_istore_n C0 (lv' := [(2, .int (nI (5 - i_L1))), (3, .int (nI (5 - i_L1))), (0, .ref da), (1, .int (nI unit))]) (pc' := 28) rfl (by decide) rfl dL_root_27 rfl ?_
        refine v_iinc C0 (lv' := [(3, .int (dI 5 (i_L1 + 1))), (2, .int (nI (5 - i_L1))), (0, .ref da), (1, .int (nI unit))]) (pc' := 31) 1 rfl (dI 5 (i_L1 + 1)) (by rw [← dI_n (show i_L1 ≤ 5 by omega)]; exact dI_s1 5 i_L1) (by decide) rfl dL_root_28 rfl ?_
        refine v_goto C0 4 dL_root_31 (by decide) ?_
        have hb := ih_L1 (i_L1 + 1) (5 - i_L1) (by omega) (by rw [lp_succ, ← hs_L1]; simp only [s_L_root_L1, if_neg h2, if_neg h3])
        exact v_sub (lv' := [(3, .int (dI 5 (i_L1 + 1))), (2, .int (nI (5 - i_L1))), (0, .ref da), (1, .int (nI unit))]) [0, 1, 2, 3] rfl hb
theorem lt_root {xd : Nat → Nat} {unit : Nat} (h : unit < 6) : s_L_root xd unit < 6 := by
  unfold s_L_root
  refine lp_inv (fun z => z < 6) 6 (fun i _ a ha => ?_) _ h
  unfold s_L_root_L1
  split <;> omega
def s_L_way_L1 (xf : Nat → Nat) (xc : Nat → Nat) (xd : Nat → Nat) (unit : Nat) (i_L1 : Nat) (found_L1 : Nat) : Nat := if (xf ((6 * unit) + (5 - i_L1))) = 0 then found_L1 else (if ((xc ((6 * unit) + (5 - i_L1))) + (xd (((((xf ((6 * unit) + (5 - i_L1))) - 1) / 6) * 6) + (s_L_root xd unit)))) = (xd ((6 * unit) + (s_L_root xd unit))) then (if 6 ≤ found_L1 then (5 - i_L1) else (if (((xf ((6 * unit) + found_L1)) - 1) / 6) < (((xf ((6 * unit) + (5 - i_L1))) - 1) / 6) then found_L1 else (5 - i_L1))) else found_L1)
def s_L_way (xf : Nat → Nat) (xc : Nat → Nat) (xd : Nat → Nat) (unit : Nat) : Nat := if (s_L_root xd unit) = unit then 6 else (lp (s_L_way_L1 xf xc xd unit) 6 6)
set_option maxHeartbeats 4000000 in
set_option maxRecDepth 100000 in
theorem k_L_way (l : Launch) (D : va_G) (cI : ClassId) (fa ca da : Nat) (xf xc xd : Nat → Nat) (unit : Nat) (hf : ∀ k, xf k ≤ 36) (hc : ∀ k, xc k ≤ 20) (hd : ∀ k, xd k ≤ 9999) (hU : unit < 6) : Ki l yL_way wsL_way 1 23 0 0 D (TI cI) [.ref fa, .ref ca, .ref da, .int (nI unit)] ([(fa, .inl (cI, 36, .inl (nA xf))), (ca, .inl (cI, 36, .inl (nA xc))), (da, .inl (cI, 36, .inl (nA xd)))]) ([(fa, .inl (cI, 36, .inl (nA xf))), (ca, .inl (cI, 36, .inl (nA xc))), (da, .inl (cI, 36, .inl (nA xd)))]) (oI (s_L_way xf xc xd unit)) := by
  refine Ki.of (cc := cL_way) (maxL := 9) (rt := .int) (lv0 := [(0, .ref fa), (1, .ref ca), (2, .ref da), (3, .int (nI unit))]) (by decide +kernel) rfl (Nat.le_of_ble_eq_true rfl) rfl ?_
  intro p e s m args below meth c A C0 hr hlk hK hA
  refine v_aload_n C0 (pc' := 1) 2 rfl rfl dL_way_0 rfl ?_
  refine v_iload_n C0 (pc' := 2) 3 rfl rfl dL_way_1 rfl ?_
  refine v_callSi C0 (av := [.ref da, .int (nI unit)]) (rest := []) (ws' := [(fa, .inl (cI, 36, .inl (nA xf))), (ca, .inl (cI, 36, .inl (nA xc))), (da, .inl (cI, 36, .inl (nA xd)))]) (pc' := 5) hK hA (k_L_root l D cI da xd unit hd (by omega)) (va_cwS 2 C0.2.2.2.2 gL_way_L_root rfl rfl rfl (by decide +kernel) ⟨Nat.le_of_ble_eq_true rfl, Nat.le_of_ble_eq_true rfl⟩) (PLs.of (isC := [2]) (isR := [0, 1]) (isP := [0, 1, 2]) (wr := [(fa, .inl (cI, 36, .inl (nA xf))), (ca, .inl (cI, 36, .inl (nA xc)))]) ⟨rfl, by decide, rfl, by decide, by decide, rfl, by decide⟩) rfl rfl (Nat.le_of_ble_eq_true rfl) ⟨(Nat.le_of_ble_eq_true rfl), (Nat.le_of_ble_eq_true rfl)⟩ dL_way_2 rfl ?_
  refine v_istore C0 (lv' := [(4, .int (nI (s_L_root xd unit))), (0, .ref fa), (1, .ref ca), (2, .ref da), (3, .int (nI unit))]) (pc' := 7) (by decide) rfl dL_way_5 rfl ?_
  refine v_iconst C0 (pc' := 8) (-1) (by decide) dL_way_7 rfl ?_
  refine v_istore C0 (lv' := [(5, .int (-1)), (4, .int (nI (s_L_root xd unit))), (0, .ref fa), (1, .ref ca), (2, .ref da), (3, .int (nI unit))]) (pc' := 10) (by decide) rfl dL_way_8 rfl ?_
  refine v_iconst C0 (pc' := 11) (nI 5) (by decide +kernel) dL_way_10 rfl ?_
  refine v_istore C0 (lv' := [(6, .int (nI 5)), (5, .int (-1)), (4, .int (nI (s_L_root xd unit))), (0, .ref fa), (1, .ref ca), (2, .ref da), (3, .int (nI unit))]) (pc' := 13) (by decide) rfl dL_way_11 rfl ?_
  by_cases h1 : (s_L_root xd unit) = unit
  · refine v_iload C0 (pc' := 15) 0 rfl dL_way_13 rfl ?_
    refine v_if_lt C0 132 (pc' := 18) dL_way_15 (by decide) rfl (fun h2 => ?_) (fun h2 => ?_)
    · exact absurd h2 (by decide)
    · refine v_iload C0 (pc' := 20) 2 rfl dL_way_18 rfl ?_
      refine v_iload_n C0 (pc' := 21) 6 rfl rfl dL_way_20 rfl ?_
      refine v_icmp_eqN C0 132 (pc' := 24) (by have := lt_root (xd := xd) (unit := unit) (by first | assumption | omega); omega) (by omega) dL_way_21 (by decide) rfl (fun h3 => ?_) (fun h3 => ?_)
      · refine v_iload C0 (pc' := 134) 1 rfl dL_way_132 rfl ?_
        exact v_iret C0 hr hlk hK (by simp only [s_L_way, if_pos h1]; rfl) dL_way_134
      · exact absurd h1 h3
  · suffices LP_L1 : ∀ (j_L1 i_L1 : Nat) (found_L1 : Nat), i_L1 + j_L1 = 6 → found_L1 = lp (s_L_way_L1 xf xc xd unit) i_L1 6 → (found_L1 ≤ 6) → V p l e { frames := 1, cells := 0, slots := 0, locals := 23 } s m args below meth c D A 9 0 0 (MQ below (QI D (TI cI) ([(fa, .inl (cI, 36, .inl (nA xf))), (ca, .inl (cI, 36, .inl (nA xc))), (da, .inl (cI, 36, .inl (nA xd)))]) A (oI (s_L_way xf xc xd unit))) args s 0 0 A) ([(fa, .inl (cI, 36, .inl (nA xf))), (ca, .inl (cI, 36, .inl (nA xc))), (da, .inl (cI, 36, .inl (nA xd)))]) [(6, .int (dI 5 i_L1)), (5, .int (oI found_L1)), (4, .int (nI (s_L_root xd unit))), (0, .ref fa), (1, .ref ca), (2, .ref da), (3, .int (nI unit))] 13 [] by
      have h0_L1 := LP_L1 6 0 6 (Nat.zero_add _) (lp_zero _ _).symm (Nat.le_refl _)
      rw [show dI 5 0 = nI 5 from dI_n (Nat.zero_le _)] at h0_L1
      rw [oI_6] at h0_L1
      exact v_sub (lv' := [(6, .int (nI 5)), (5, .int (-1)), (4, .int (nI (s_L_root xd unit))), (0, .ref fa), (1, .ref ca), (2, .ref da), (3, .int (nI unit))]) [0, 1, 2, 3, 4, 5, 6] rfl h0_L1
    intro j_L1
    induction j_L1 with
    | zero =>
      intro i_L1 found_L1 hi_L1 hs_L1 hw_L1
      have hi_L1 : 6 = i_L1 := by omega
      subst hi_L1
      refine v_iload C0 (pc' := 15) 0 rfl dL_way_13 rfl ?_
      refine v_if_lt C0 132 (pc' := 18) dL_way_15 (by decide) rfl (fun h4 => ?_) (fun h4 => ?_)
      · refine v_iload C0 (pc' := 134) 1 rfl dL_way_132 rfl ?_
        exact v_iret C0 hr hlk hK (by simp only [s_L_way, if_neg h1, if_pos h4, ← hs_L1]) dL_way_134
      · exact absurd (dI_neg 5) h4
    | succ j_L1 ih_L1 =>
      intro i_L1 found_L1 hi_L1 hs_L1 hw_L1
      refine v_iload C0 (pc' := 15) 0 rfl dL_way_13 rfl ?_
      refine v_if_lt C0 132 (pc' := 18) dL_way_15 (by decide) rfl (fun h5 => ?_) (fun h5 => ?_)
      · exact absurd h5 (by rw [dI_n (show i_L1 ≤ 5 by omega)]; exact nI_pos (by omega))
      · refine v_lv (lv' := [(6, .int (nI (5 - i_L1))), (5, .int (oI found_L1)), (4, .int (nI (s_L_root xd unit))), (0, .ref fa), (1, .ref ca), (2, .ref da), (3, .int (nI unit))]) (by rw [dI_n (show i_L1 ≤ 5 by omega)]) ?_
        refine v_iload C0 (pc' := 20) 2 rfl dL_way_18 rfl ?_
        refine v_iload_n C0 (pc' := 21) 6 rfl rfl dL_way_20 rfl ?_
        refine v_icmp_eqN C0 132 (pc' := 24) (by have := lt_root (xd := xd) (unit := unit) (by first | assumption | omega); omega) (by omega) dL_way_21 (by decide) rfl (fun h6 => ?_) (fun h6 => ?_)
        · exact absurd h6 h1
        · refine v_bipush C0 (pc' := 26) (nI 6) (by decide +kernel) dL_way_24 rfl ?_
          refine v_iload_n C0 (pc' := 27) 6 rfl rfl dL_way_26 rfl ?_
          refine v_imulN C0 (pc' := 28) dL_way_27 rfl ?_
          refine v_iload C0 (pc' := 30) 0 rfl dL_way_28 rfl ?_
          refine v_iaddN C0 (pc' := 31) dL_way_30 rfl ?_
          refine v_istore C0 (lv' := [(7, .int (nI ((6 * unit) + (5 - i_L1)))), (6, .int (nI (5 - i_L1))), (5, .int (oI found_L1)), (4, .int (nI (s_L_root xd unit))), (0, .ref fa), (1, .ref ca), (2, .ref da), (3, .int (nI unit))]) (pc' := 33) (by decide) rfl dL_way_31 rfl ?_
          refine v_aload_n C0 (pc' := 34) 4 rfl rfl dL_way_33 rfl ?_
          refine v_iload C0 (pc' := 36) 0 rfl dL_way_34 rfl ?_
          refine v_ialdN C0 hK (pc' := 37) 0 0 rfl rfl (by omega) (by decide) dL_way_36 rfl ?_
          refine v_if_leN C0 78 (pc' := 40) (by have := hf ((6 * unit) + (5 - i_L1)); omega) dL_way_37 (by decide) rfl (fun h7 => ?_) (fun h7 => ?_)
          · refine v_iconst C0 (pc' := 79) (nI 0) (by decide +kernel) dL_way_78 rfl ?_
            refine v_istore C0 (lv' := [(8, .int (nI 0)), (7, .int (nI ((6 * unit) + (5 - i_L1)))), (6, .int (nI (5 - i_L1))), (5, .int (oI found_L1)), (4, .int (nI (s_L_root xd unit))), (0, .ref fa), (1, .ref ca), (2, .ref da), (3, .int (nI unit))]) (pc' := 81) (by decide) rfl dL_way_79 rfl ?_
            refine v_iload C0 (pc' := 83) 0 rfl dL_way_81 rfl ?_
            refine v_if_eqN C0 122 (pc' := 86) (by omega) dL_way_83 (by decide) rfl (fun h8 => ?_) (fun h8 => ?_)
            · refine v_iload C0 (pc' := 124) 3 rfl dL_way_122 rfl ?_
              refine v_istore C0 (lv' := [(5, .int (oI found_L1)), (8, .int (nI 0)), (7, .int (nI ((6 * unit) + (5 - i_L1)))), (6, .int (nI (5 - i_L1))), (4, .int (nI (s_L_root xd unit))), (0, .ref fa), (1, .ref ca), (2, .ref da), (3, .int (nI unit))]) (pc' := 126) (by decide) rfl dL_way_124 rfl ?_
              refine v_iinc C0 (lv' := [(6, .int (dI 5 (i_L1 + 1))), (5, .int (oI found_L1)), (8, .int (nI 0)), (7, .int (nI ((6 * unit) + (5 - i_L1)))), (4, .int (nI (s_L_root xd unit))), (0, .ref fa), (1, .ref ca), (2, .ref da), (3, .int (nI unit))]) (pc' := 129) 3 rfl (dI 5 (i_L1 + 1)) (by rw [← dI_n (show i_L1 ≤ 5 by omega)]; exact dI_s1 5 i_L1) (by decide) rfl dL_way_126 rfl ?_
              refine v_goto C0 13 dL_way_129 (by decide) ?_
              have hb := ih_L1 (i_L1 + 1) found_L1 (by omega) (by rw [lp_succ, ← hs_L1]; simp only [s_L_way_L1, if_neg h5, if_pos h7]) (by omega)
              exact v_sub (lv' := [(6, .int (dI 5 (i_L1 + 1))), (5, .int (oI found_L1)), (4, .int (nI (s_L_root xd unit))), (0, .ref fa), (1, .ref ca), (2, .ref da), (3, .int (nI unit))]) [0, 1, 4, 5, 6, 7, 8] rfl hb
            · exact absurd (by decide) h8
          · refine v_aload_n C0 (pc' := 41) 5 rfl rfl dL_way_40 rfl ?_
            refine v_iload C0 (pc' := 43) 0 rfl dL_way_41 rfl ?_
            refine v_ialdN C0 hK (pc' := 44) 1 0 rfl rfl (by omega) (by decide) dL_way_43 rfl ?_
            refine v_aload_n C0 (pc' := 45) 6 rfl rfl dL_way_44 rfl ?_
            refine v_aload_n C0 (pc' := 46) 4 rfl rfl dL_way_45 rfl ?_
            refine v_iload C0 (pc' := 48) 0 rfl dL_way_46 rfl ?_
            refine v_ialdN C0 hK (pc' := 49) 0 0 rfl rfl (by omega) (by decide) dL_way_48 rfl ?_
            refine v_iconst C0 (pc' := 50) (nI 1) (by decide +kernel) dL_way_49 rfl ?_
            refine v_isub C0 (pc' := 51) dL_way_50 rfl ?_
            refine v_bipush C0 (pc' := 53) (nI 6) (by decide +kernel) dL_way_51 rfl ?_
            refine v_idivP C0 (pc' := 54) (by have := hf ((6 * unit) + (5 - i_L1)); omega) dL_way_53 rfl ?_
            refine v_bipush C0 (pc' := 56) (nI 6) (by decide +kernel) dL_way_54 rfl ?_
            refine v_imulN C0 (pc' := 57) dL_way_56 rfl ?_
            refine v_iload C0 (pc' := 59) 3 rfl dL_way_57 rfl ?_
            refine v_iaddN C0 (pc' := 60) dL_way_59 rfl ?_
            refine v_ialdN C0 hK (pc' := 61) 2 0 rfl rfl (by have := hf ((6 * unit) + (5 - i_L1)); have := lt_root (xd := xd) (unit := unit) (by first | assumption | omega); omega) (by decide) dL_way_60 rfl ?_
            refine v_iaddN C0 (pc' := 62) dL_way_61 rfl ?_
            refine v_aload_n C0 (pc' := 63) 6 rfl rfl dL_way_62 rfl ?_
            refine v_bipush C0 (pc' := 65) (nI 6) (by decide +kernel) dL_way_63 rfl ?_
            refine v_iload_n C0 (pc' := 66) 7 rfl rfl dL_way_65 rfl ?_
            refine v_imulN C0 (pc' := 67) dL_way_66 rfl ?_
            refine v_iload C0 (pc' := 69) 3 rfl dL_way_67 rfl ?_
            refine v_iaddN C0 (pc' := 70) dL_way_69 rfl ?_
            refine v_ialdN C0 hK (pc' := 71) 2 0 rfl rfl (by have := lt_root (xd := xd) (unit := unit) (by first | assumption | omega); omega) (by decide) dL_way_70 rfl ?_
            refine v_icmp_neN C0 78 (pc' := 74) (by have := hf ((6 * unit) + (5 - i_L1)); have := hc ((6 * unit) + (5 - i_L1)); have := hd (((((xf ((6 * unit) + (5 - i_L1))) - 1) / 6) * 6) + (s_L_root xd unit)); have := lt_root (xd := xd) (unit := unit) (by first | assumption | omega); omega) (by have := hd ((6 * unit) + (s_L_root xd unit)); have := lt_root (xd := xd) (unit := unit) (by first | assumption | omega); omega) dL_way_71 (by decide) rfl (fun h9 => ?_) (fun h9 => ?_)
            · refine v_iconst C0 (pc' := 79) (nI 0) (by decide +kernel) dL_way_78 rfl ?_
              refine v_istore C0 (lv' := [(8, .int (nI 0)), (7, .int (nI ((6 * unit) + (5 - i_L1)))), (6, .int (nI (5 - i_L1))), (5, .int (oI found_L1)), (4, .int (nI (s_L_root xd unit))), (0, .ref fa), (1, .ref ca), (2, .ref da), (3, .int (nI unit))]) (pc' := 81) (by decide) rfl dL_way_79 rfl ?_
              refine v_iload C0 (pc' := 83) 0 rfl dL_way_81 rfl ?_
              refine v_if_eqN C0 122 (pc' := 86) (by omega) dL_way_83 (by decide) rfl (fun h10 => ?_) (fun h10 => ?_)
              · refine v_iload C0 (pc' := 124) 3 rfl dL_way_122 rfl ?_
                refine v_istore C0 (lv' := [(5, .int (oI found_L1)), (8, .int (nI 0)), (7, .int (nI ((6 * unit) + (5 - i_L1)))), (6, .int (nI (5 - i_L1))), (4, .int (nI (s_L_root xd unit))), (0, .ref fa), (1, .ref ca), (2, .ref da), (3, .int (nI unit))]) (pc' := 126) (by decide) rfl dL_way_124 rfl ?_
                refine v_iinc C0 (lv' := [(6, .int (dI 5 (i_L1 + 1))), (5, .int (oI found_L1)), (8, .int (nI 0)), (7, .int (nI ((6 * unit) + (5 - i_L1)))), (4, .int (nI (s_L_root xd unit))), (0, .ref fa), (1, .ref ca), (2, .ref da), (3, .int (nI unit))]) (pc' := 129) 3 rfl (dI 5 (i_L1 + 1)) (by rw [← dI_n (show i_L1 ≤ 5 by omega)]; exact dI_s1 5 i_L1) (by decide) rfl dL_way_126 rfl ?_
                refine v_goto C0 13 dL_way_129 (by decide) ?_
                have hb := ih_L1 (i_L1 + 1) found_L1 (by omega) (by rw [lp_succ, ← hs_L1]; simp only [s_L_way_L1, if_neg h5, if_neg h7, if_neg h9]) (by omega)
                exact v_sub (lv' := [(6, .int (dI 5 (i_L1 + 1))), (5, .int (oI found_L1)), (4, .int (nI (s_L_root xd unit))), (0, .ref fa), (1, .ref ca), (2, .ref da), (3, .int (nI unit))]) [0, 1, 4, 5, 6, 7, 8] rfl hb
              · exact absurd (by decide) h10
            · refine v_iconst C0 (pc' := 75) (nI 1) (by decide +kernel) dL_way_74 rfl ?_
              refine v_goto C0 79 dL_way_75 (by decide) ?_
              refine v_istore C0 (lv' := [(8, .int (nI 1)), (7, .int (nI ((6 * unit) + (5 - i_L1)))), (6, .int (nI (5 - i_L1))), (5, .int (oI found_L1)), (4, .int (nI (s_L_root xd unit))), (0, .ref fa), (1, .ref ca), (2, .ref da), (3, .int (nI unit))]) (pc' := 81) (by decide) rfl dL_way_79 rfl ?_
              refine v_iload C0 (pc' := 83) 0 rfl dL_way_81 rfl ?_
              refine v_if_eqN C0 122 (pc' := 86) (by omega) dL_way_83 (by decide) rfl (fun h11 => ?_) (fun h11 => ?_)
              · exact absurd h11 (by decide)
              · refine v_iload C0 (pc' := 88) 3 rfl dL_way_86 rfl ?_
                refine v_if_ltO C0 117 (pc' := 91) dL_way_88 (by decide) rfl (fun h12 => ?_) (fun h12 => ?_)
                · refine v_iload C0 (pc' := 119) 2 rfl dL_way_117 rfl ?_
                  refine v_goto C0 124 dL_way_119 (by decide) ?_
                  refine v_istore C0 (lv' := [(5, .int (nI (5 - i_L1))), (8, .int (nI 1)), (7, .int (nI ((6 * unit) + (5 - i_L1)))), (6, .int (nI (5 - i_L1))), (4, .int (nI (s_L_root xd unit))), (0, .ref fa), (1, .ref ca), (2, .ref da), (3, .int (nI unit))]) (pc' := 126) (by decide) rfl dL_way_124 rfl ?_
                  refine v_iinc C0 (lv' := [(6, .int (dI 5 (i_L1 + 1))), (5, .int (nI (5 - i_L1))), (8, .int (nI 1)), (7, .int (nI ((6 * unit) + (5 - i_L1)))), (4, .int (nI (s_L_root xd unit))), (0, .ref fa), (1, .ref ca), (2, .ref da), (3, .int (nI unit))]) (pc' := 129) 3 rfl (dI 5 (i_L1 + 1)) (by rw [← dI_n (show i_L1 ≤ 5 by omega)]; exact dI_s1 5 i_L1) (by decide) rfl dL_way_126 rfl ?_
                  refine v_goto C0 13 dL_way_129 (by decide) ?_
                  have hb := ih_L1 (i_L1 + 1) (5 - i_L1) (by omega) (by rw [lp_succ, ← hs_L1]; simp only [s_L_way_L1, if_neg h5, if_neg h7, if_pos h9, if_pos h12]) (by omega)
                  rw [oI_n (x := 5 - i_L1) (by omega)] at hb
                  exact v_sub (lv' := [(6, .int (dI 5 (i_L1 + 1))), (5, .int (nI (5 - i_L1))), (4, .int (nI (s_L_root xd unit))), (0, .ref fa), (1, .ref ca), (2, .ref da), (3, .int (nI unit))]) [0, 1, 4, 5, 6, 7, 8] rfl hb
                · refine v_aload_n C0 (pc' := 92) 5 rfl rfl dL_way_91 rfl ?_
                  refine v_iload C0 (pc' := 94) 1 rfl dL_way_92 rfl ?_
                  refine v_ialdN C0 hK (pc' := 95) 0 0 rfl rfl (by omega) (by decide) dL_way_94 rfl ?_
                  refine v_iconst C0 (pc' := 96) (nI 1) (by decide +kernel) dL_way_95 rfl ?_
                  refine v_isub C0 (pc' := 97) dL_way_96 rfl ?_
                  refine v_bipush C0 (pc' := 99) (nI 6) (by decide +kernel) dL_way_97 rfl ?_
                  refine v_idivP C0 (pc' := 100) (by have := hf ((6 * unit) + (5 - i_L1)); omega) dL_way_99 rfl ?_
                  refine v_aload_n C0 (pc' := 101) 5 rfl rfl dL_way_100 rfl ?_
                  refine v_bipush C0 (pc' := 103) (nI 6) (by decide +kernel) dL_way_101 rfl ?_
                  refine v_iload_n C0 (pc' := 104) 8 rfl rfl dL_way_103 rfl ?_
                  refine v_imulN C0 (pc' := 105) dL_way_104 rfl ?_
                  refine v_iload C0 (pc' := 107) 3 rfl dL_way_105 rfl ?_
                  refine v_eqi (oI_n (by omega)) ?_
                  refine v_iaddN C0 (pc' := 108) dL_way_107 rfl ?_
                  refine v_ialdN C0 hK (pc' := 109) 0 0 rfl rfl (by omega) (by decide) dL_way_108 rfl ?_
                  refine v_iconst C0 (pc' := 110) (nI 1) (by decide +kernel) dL_way_109 rfl ?_
                  refine v_isub C0 (pc' := 111) dL_way_110 rfl ?_
                  refine v_bipush C0 (pc' := 113) (nI 6) (by decide +kernel) dL_way_111 rfl ?_
                  refine v_idivP C0 (pc' := 114) (by have := hf ((6 * unit) + found_L1); omega) dL_way_113 rfl ?_
                  refine v_icmp_gtN C0 122 (pc' := 117) (by have := hf ((6 * unit) + (5 - i_L1)); omega) (by have := hf ((6 * unit) + found_L1); omega) dL_way_114 (by decide) rfl (fun h13 => ?_) (fun h13 => ?_)
                  · refine v_iload C0 (pc' := 124) 3 rfl dL_way_122 rfl ?_
                    refine v_istore C0 (lv' := [(5, .int (oI found_L1)), (8, .int (nI 1)), (7, .int (nI ((6 * unit) + (5 - i_L1)))), (6, .int (nI (5 - i_L1))), (4, .int (nI (s_L_root xd unit))), (0, .ref fa), (1, .ref ca), (2, .ref da), (3, .int (nI unit))]) (pc' := 126) (by decide) rfl dL_way_124 rfl ?_
                    refine v_iinc C0 (lv' := [(6, .int (dI 5 (i_L1 + 1))), (5, .int (oI found_L1)), (8, .int (nI 1)), (7, .int (nI ((6 * unit) + (5 - i_L1)))), (4, .int (nI (s_L_root xd unit))), (0, .ref fa), (1, .ref ca), (2, .ref da), (3, .int (nI unit))]) (pc' := 129) 3 rfl (dI 5 (i_L1 + 1)) (by rw [← dI_n (show i_L1 ≤ 5 by omega)]; exact dI_s1 5 i_L1) (by decide) rfl dL_way_126 rfl ?_
                    refine v_goto C0 13 dL_way_129 (by decide) ?_
                    have hb := ih_L1 (i_L1 + 1) found_L1 (by omega) (by rw [lp_succ, ← hs_L1]; simp only [s_L_way_L1, if_neg h5, if_neg h7, if_pos h9, if_neg h12, if_pos h13]) (by omega)
                    exact v_sub (lv' := [(6, .int (dI 5 (i_L1 + 1))), (5, .int (oI found_L1)), (4, .int (nI (s_L_root xd unit))), (0, .ref fa), (1, .ref ca), (2, .ref da), (3, .int (nI unit))]) [0, 1, 4, 5, 6, 7, 8] rfl hb
                  · refine v_iload C0 (pc' := 119) 2 rfl dL_way_117 rfl ?_
                    refine v_goto C0 124 dL_way_119 (by decide) ?_
                    refine v_istore C0 (lv' := [(5, .int (nI (5 - i_L1))), (8, .int (nI 1)), (7, .int (nI ((6 * unit) + (5 - i_L1)))), (6, .int (nI (5 - i_L1))), (4, .int (nI (s_L_root xd unit))), (0, .ref fa), (1, .ref ca), (2, .ref da), (3, .int (nI unit))]) (pc' := 126) (by decide) rfl dL_way_124 rfl ?_
                    refine v_iinc C0 (lv' := [(6, .int (dI 5 (i_L1 + 1))), (5, .int (nI (5 - i_L1))), (8, .int (nI 1)), (7, .int (nI ((6 * unit) + (5 - i_L1)))), (4, .int (nI (s_L_root xd unit))), (0, .ref fa), (1, .ref ca), (2, .ref da), (3, .int (nI unit))]) (pc' := 129) 3 rfl (dI 5 (i_L1 + 1)) (by rw [← dI_n (show i_L1 ≤ 5 by omega)]; exact dI_s1 5 i_L1) (by decide) rfl dL_way_126 rfl ?_
                    refine v_goto C0 13 dL_way_129 (by decide) ?_
                    have hb := ih_L1 (i_L1 + 1) (5 - i_L1) (by omega) (by rw [lp_succ, ← hs_L1]; simp only [s_L_way_L1, if_neg h5, if_neg h7, if_pos h9, if_neg h12, if_neg h13]) (by omega)
                    rw [oI_n (x := 5 - i_L1) (by omega)] at hb
                    exact v_sub (lv' := [(6, .int (dI 5 (i_L1 + 1))), (5, .int (nI (5 - i_L1))), (4, .int (nI (s_L_root xd unit))), (0, .ref fa), (1, .ref ca), (2, .ref da), (3, .int (nI unit))]) [0, 1, 4, 5, 6, 7, 8] rfl hb
theorem le_way {xf xc xd : Nat → Nat} {unit : Nat} : s_L_way xf xc xd unit ≤ 6 := by
  unfold s_L_way
  split
  · exact Nat.le_refl 6
  · refine lp_inv (fun z => z ≤ 6) 6 (fun i _ a ha => ?_) _ (Nat.le_refl 6)
    unfold s_L_way_L1
    repeat' split
    all_goals omega
def s_L_isOn (xn : Nat → Nat) (xf : Nat → Nat) (xc : Nat → Nat) (xd : Nat → Nat) (at9 : Nat) : Nat := if (xf at9) = 0 then 0 else (if (xn 1) = 0 then 1 else (if (s_L_way xf xc xd (at9 / 6)) = (at9 % 6) then 1 else (if (s_L_way xf xc xd (((xf at9) - 1) / 6)) = (((xf at9) - 1) % 6) then 1 else 0)))
set_option maxHeartbeats 4000000 in
set_option maxRecDepth 100000 in
theorem k_L_isOn (l : Launch) (D : va_G) (cI : ClassId) (na fa ca da : Nat) (xn xf xc xd : Nat → Nat) (at9 : Nat) (hn : ∀ k, xn k < 2 ^ 31) (hf : ∀ k, xf k ≤ 36) (hc : ∀ k, xc k ≤ 20) (hd : ∀ k, xd k ≤ 9999) (hA9 : at9 < 36) : Ki l yL_isOn wsL_isOn 2 51 0 0 D (TI cI) [.ref na, .ref fa, .ref ca, .ref da, .int (nI at9)] ([(na, .inl (cI, 2, .inl (nA xn))), (fa, .inl (cI, 36, .inl (nA xf))), (ca, .inl (cI, 36, .inl (nA xc))), (da, .inl (cI, 36, .inl (nA xd)))]) ([(na, .inl (cI, 2, .inl (nA xn))), (fa, .inl (cI, 36, .inl (nA xf))), (ca, .inl (cI, 36, .inl (nA xc))), (da, .inl (cI, 36, .inl (nA xd)))]) (nI (s_L_isOn xn xf xc xd at9)) := by
  refine Ki.of (cc := cL_isOn) (maxL := 6) (rt := .boolean) (lv0 := [(0, .ref na), (1, .ref fa), (2, .ref ca), (3, .ref da), (4, .int (nI at9))]) (by decide +kernel) rfl (Nat.le_of_ble_eq_true rfl) rfl ?_
  intro p e s m args below meth c A C0 hr hlk hK hA
  refine v_aload_n C0 (pc' := 1) 1 rfl rfl dL_isOn_0 rfl ?_
  refine v_iload C0 (pc' := 3) 4 rfl dL_isOn_1 rfl ?_
  refine v_ialdN C0 hK (pc' := 4) 1 0 rfl rfl (by omega) (by decide) dL_isOn_3 rfl ?_
  refine v_if_eqN C0 13 (pc' := 7) (by have := hf at9; omega) dL_isOn_4 (by decide) rfl (fun h1 => ?_) (fun h1 => ?_)
  · refine v_aload_n C0 (pc' := 14) 1 rfl rfl dL_isOn_13 rfl ?_
    refine v_iload C0 (pc' := 16) 4 rfl dL_isOn_14 rfl ?_
    refine v_ialdN C0 hK (pc' := 17) 1 0 rfl rfl (by omega) (by decide) dL_isOn_16 rfl ?_
    refine v_if_leN C0 24 (pc' := 20) (by have := hf at9; omega) dL_isOn_17 (by decide) rfl (fun h2 => ?_) (fun h2 => ?_)
    · refine v_iconst C0 (pc' := 25) (nI 0) (by decide +kernel) dL_isOn_24 rfl ?_
      exact v_zret C0 hr hlk hK (Or.inl rfl) (by simp only [s_L_isOn, if_pos h1]) dL_isOn_25
    · exact absurd h1 h2
  · refine v_aload_n C0 (pc' := 8) 0 rfl rfl dL_isOn_7 rfl ?_
    refine v_iconst C0 (pc' := 9) (nI 1) (by decide +kernel) dL_isOn_8 rfl ?_
    refine v_ialdN C0 hK (pc' := 10) 0 0 rfl rfl (by omega) (by decide) dL_isOn_9 rfl ?_
    refine v_if_neN C0 26 (pc' := 13) (by have := hn 1; omega) dL_isOn_10 (by decide) rfl (fun h3 => ?_) (fun h3 => ?_)
    · refine v_aload_n C0 (pc' := 27) 1 rfl rfl dL_isOn_26 rfl ?_
      refine v_iload C0 (pc' := 29) 4 rfl dL_isOn_27 rfl ?_
      refine v_ialdN C0 hK (pc' := 30) 1 0 rfl rfl (by omega) (by decide) dL_isOn_29 rfl ?_
      refine v_iconst C0 (pc' := 31) (nI 1) (by decide +kernel) dL_isOn_30 rfl ?_
      refine v_isubN C0 (pc' := 32) (by have := hf at9; omega) dL_isOn_31 rfl ?_
      refine v_istore C0 (lv' := [(5, .int (nI ((xf at9) - 1))), (0, .ref na), (1, .ref fa), (2, .ref ca), (3, .ref da), (4, .int (nI at9))]) (pc' := 34) (by decide) rfl dL_isOn_32 rfl ?_
      refine v_aload_n C0 (pc' := 35) 2 rfl rfl dL_isOn_34 rfl ?_
      refine v_aload_n C0 (pc' := 36) 3 rfl rfl dL_isOn_35 rfl ?_
      refine v_aload_n C0 (pc' := 37) 4 rfl rfl dL_isOn_36 rfl ?_
      refine v_iload C0 (pc' := 39) 5 rfl dL_isOn_37 rfl ?_
      refine v_bipush C0 (pc' := 41) (nI 6) (by decide +kernel) dL_isOn_39 rfl ?_
      refine v_idivN C0 (pc' := 42) (by omega) (by decide) (by decide) dL_isOn_41 rfl ?_
      refine v_callSi C0 (av := [.ref fa, .ref ca, .ref da, .int (nI (at9 / 6))]) (rest := []) (ws' := [(na, .inl (cI, 2, .inl (nA xn))), (fa, .inl (cI, 36, .inl (nA xf))), (ca, .inl (cI, 36, .inl (nA xc))), (da, .inl (cI, 36, .inl (nA xd)))]) (pc' := 45) hK hA (k_L_way l D cI fa ca da xf xc xd (at9 / 6) hf hc hd (by omega)) (va_cwS 4 C0.2.2.2.2 gL_isOn_L_way rfl rfl rfl (by decide +kernel) ⟨Nat.le_of_ble_eq_true rfl, Nat.le_of_ble_eq_true rfl⟩) (PLs.of (isC := [1, 2, 3]) (isR := [0]) (isP := [0, 1, 2, 3]) (wr := [(na, .inl (cI, 2, .inl (nA xn)))]) ⟨rfl, by decide, rfl, by decide, by decide, rfl, by decide⟩) rfl rfl (Nat.le_of_ble_eq_true rfl) ⟨(Nat.le_of_ble_eq_true rfl), (Nat.le_of_ble_eq_true rfl)⟩ dL_isOn_42 rfl ?_
      refine v_iload C0 (pc' := 47) 5 rfl dL_isOn_45 rfl ?_
      refine v_bipush C0 (pc' := 49) (nI 6) (by decide +kernel) dL_isOn_47 rfl ?_
      refine v_iremN C0 (pc' := 50) (by omega) (by decide) (by decide) dL_isOn_49 rfl ?_
      refine v_icmp_eqO C0 72 (pc' := 53) (by omega) dL_isOn_50 (by decide) rfl (fun h4 => ?_) (fun h4 => ?_)
      · refine v_iconst C0 (pc' := 73) (nI 1) (by decide +kernel) dL_isOn_72 rfl ?_
        refine v_goto C0 77 dL_isOn_73 (by decide) ?_
        exact v_zret C0 hr hlk hK (Or.inr rfl) (by simp only [s_L_isOn, if_neg h1, if_neg h3, if_pos h4]) dL_isOn_77
      · refine v_aload_n C0 (pc' := 54) 2 rfl rfl dL_isOn_53 rfl ?_
        refine v_aload_n C0 (pc' := 55) 3 rfl rfl dL_isOn_54 rfl ?_
        refine v_aload_n C0 (pc' := 56) 4 rfl rfl dL_isOn_55 rfl ?_
        refine v_iload C0 (pc' := 58) 0 rfl dL_isOn_56 rfl ?_
        refine v_bipush C0 (pc' := 60) (nI 6) (by decide +kernel) dL_isOn_58 rfl ?_
        refine v_idivN C0 (pc' := 61) (by have := hf at9; omega) (by decide) (by decide) dL_isOn_60 rfl ?_
        refine v_callSi C0 (av := [.ref fa, .ref ca, .ref da, .int (nI (((xf at9) - 1) / 6))]) (rest := []) (ws' := [(na, .inl (cI, 2, .inl (nA xn))), (fa, .inl (cI, 36, .inl (nA xf))), (ca, .inl (cI, 36, .inl (nA xc))), (da, .inl (cI, 36, .inl (nA xd)))]) (pc' := 64) hK hA (k_L_way l D cI fa ca da xf xc xd (((xf at9) - 1) / 6) hf hc hd (by have := hf at9; omega)) (va_cwS 4 C0.2.2.2.2 gL_isOn_L_way rfl rfl rfl (by decide +kernel) ⟨Nat.le_of_ble_eq_true rfl, Nat.le_of_ble_eq_true rfl⟩) (PLs.of (isC := [1, 2, 3]) (isR := [0]) (isP := [0, 1, 2, 3]) (wr := [(na, .inl (cI, 2, .inl (nA xn)))]) ⟨rfl, by decide, rfl, by decide, by decide, rfl, by decide⟩) rfl rfl (Nat.le_of_ble_eq_true rfl) ⟨(Nat.le_of_ble_eq_true rfl), (Nat.le_of_ble_eq_true rfl)⟩ dL_isOn_61 rfl ?_
        refine v_iload C0 (pc' := 66) 0 rfl dL_isOn_64 rfl ?_
        refine v_bipush C0 (pc' := 68) (nI 6) (by decide +kernel) dL_isOn_66 rfl ?_
        refine v_iremN C0 (pc' := 69) (by have := hf at9; omega) (by decide) (by decide) dL_isOn_68 rfl ?_
        refine v_icmp_neO C0 76 (pc' := 72) (by have := hf at9; omega) dL_isOn_69 (by decide) rfl (fun h5 => ?_) (fun h5 => ?_)
        · refine v_iconst C0 (pc' := 77) (nI 0) (by decide +kernel) dL_isOn_76 rfl ?_
          exact v_zret C0 hr hlk hK (Or.inl rfl) (by simp only [s_L_isOn, if_neg h1, if_neg h3, if_neg h4, if_neg h5]) dL_isOn_77
        · refine v_iconst C0 (pc' := 73) (nI 1) (by decide +kernel) dL_isOn_72 rfl ?_
          refine v_goto C0 77 dL_isOn_73 (by decide) ?_
          exact v_zret C0 hr hlk hK (Or.inr rfl) (by simp only [s_L_isOn, if_neg h1, if_neg h3, if_neg h4, if_pos h5]) dL_isOn_77
    · refine v_aload_n C0 (pc' := 14) 1 rfl rfl dL_isOn_13 rfl ?_
      refine v_iload C0 (pc' := 16) 4 rfl dL_isOn_14 rfl ?_
      refine v_ialdN C0 hK (pc' := 17) 1 0 rfl rfl (by omega) (by decide) dL_isOn_16 rfl ?_
      refine v_if_leN C0 24 (pc' := 20) (by have := hf at9; omega) dL_isOn_17 (by decide) rfl (fun h6 => ?_) (fun h6 => ?_)
      · exact absurd h6 h1
      · refine v_iconst C0 (pc' := 21) (nI 1) (by decide +kernel) dL_isOn_20 rfl ?_
        refine v_goto C0 25 dL_isOn_21 (by decide) ?_
        exact v_zret C0 hr hlk hK (Or.inr rfl) (by simp only [s_L_isOn, if_neg h1, if_pos h3]) dL_isOn_25
theorem le_isOn {xn xf xc xd : Nat → Nat} {at9 : Nat} : s_L_isOn xn xf xc xd at9 ≤ 1 := by
  unfold s_L_isOn
  repeat' split
  all_goals omega
theorem ac_L_live : Cond.arrayClass .int ∈ wsL_live := by decide +kernel
def s_L_live_L1 (xn : Nat → Nat) (xf : Nat → Nat) (xc : Nat → Nat) (i_L1 : Nat) (set_L1 : Nat) : Nat := if (s_L_isOn xn xf xc (s_L_sums_xd xf xc (fun _ => 0)) i_L1) = 0 then (set_L1 ||| 0) else (set_L1 ||| (2 ^ i_L1))
def s_L_live (xn : Nat → Nat) (xf : Nat → Nat) (xc : Nat → Nat) : Nat := (lp (s_L_live_L1 xn xf xc) 36 0)
set_option maxHeartbeats 4000000 in
set_option maxRecDepth 100000 in
theorem k_L_live (l : Launch) (D : va_G) (cI : ClassId) (na fa ca : Nat) (xn xf xc : Nat → Nat) (hn : ∀ k, xn k < 2 ^ 31) (hf : ∀ k, xf k ≤ 36) (hc : ∀ k, xc k ≤ 20) : Kl l yL_live wsL_live 3 76 1 36 D (TI cI) [.ref na, .ref fa, .ref ca] ([(na, .inl (cI, 2, .inl (nA xn))), (fa, .inl (cI, 36, .inl (nA xf))), (ca, .inl (cI, 36, .inl (nA xc)))]) ([(na, .inl (cI, 2, .inl (nA xn))), (fa, .inl (cI, 36, .inl (nA xf))), (ca, .inl (cI, 36, .inl (nA xc)))]) (nJ (s_L_live xn xf xc)) := by
  refine Kl.of (cc := cL_live) (maxL := 7) (lv0 := [(0, .ref na), (1, .ref fa), (2, .ref ca)]) (by decide +kernel) rfl (Nat.le_of_ble_eq_true rfl) rfl ?_
  intro p e s m args below meth c A C0 hr hlk hK hA
  refine v_bipush C0 (pc' := 2) (nI 36) (by decide +kernel) dL_live_0 rfl ?_
  refine v_newN C0 hK hA 0 rfl (N := 36) (pc' := 4) (k' := 1) (n' := 36) (by decide) (Nat.le_of_ble_eq_true rfl) (Nat.le_of_ble_eq_true rfl) ac_L_live dL_live_2 rfl rfl rfl (fun da => ?_)
  refine v_astore_n C0 (lv' := [(3, .ref da), (0, .ref na), (1, .ref fa), (2, .ref ca)]) (pc' := 5) rfl (by decide) rfl dL_live_4 rfl ?_
  refine v_aload_n C0 (pc' := 6) 2 rfl rfl dL_live_5 rfl ?_
  refine v_aload_n C0 (pc' := 7) 3 rfl rfl dL_live_6 rfl ?_
  refine v_aload_n C0 (pc' := 8) 0 rfl rfl dL_live_7 rfl ?_
  refine v_callSv C0 (av := [.ref fa, .ref ca, .ref da]) (rest := []) (ws' := [(da, .inl (cI, 36, .inl (nA (s_L_sums_xd xf xc (fun _ => 0))))), (na, .inl (cI, 2, .inl (nA xn))), (fa, .inl (cI, 36, .inl (nA xf))), (ca, .inl (cI, 36, .inl (nA xc)))]) (pc' := 11) hK hA (k_L_sums l D cI fa ca da xf xc (fun _ => 0) hf hc (fun _ => Nat.zero_le _)) (va_cwS 3 C0.2.2.2.2 gL_live_L_sums rfl rfl rfl (by decide +kernel) ⟨Nat.le_of_ble_eq_true rfl, Nat.le_of_ble_eq_true rfl⟩) (PLs.of (isC := [2, 3, 0]) (isR := [1]) (isP := [3, 0, 1, 2]) (wr := [(na, .inl (cI, 2, .inl (nA xn)))]) ⟨rfl, by decide, rfl, by decide, by decide, rfl, by decide⟩) rfl rfl (Nat.le_of_ble_eq_true rfl) ⟨(Nat.le_of_ble_eq_true rfl), (Nat.le_of_ble_eq_true rfl)⟩ dL_live_8 rfl ?_
  refine v_lconst C0 (pc' := 12) (nJ 0) rfl dL_live_11 rfl ?_
  refine v_lstore C0 (lv' := [(4, .long (nJ 0)), (3, .ref da), (0, .ref na), (1, .ref fa), (2, .ref ca)]) (pc' := 14) (by decide) rfl dL_live_12 rfl ?_
  refine v_iconst C0 (pc' := 15) (nI 0) (by decide +kernel) dL_live_14 rfl ?_
  refine v_istore C0 (lv' := [(6, .int (nI 0)), (4, .long (nJ 0)), (3, .ref da), (0, .ref na), (1, .ref fa), (2, .ref ca)]) (pc' := 17) (by decide) rfl dL_live_15 rfl ?_
  suffices LP_L1 : ∀ (j_L1 i_L1 : Nat) (set_L1 : Nat), i_L1 + j_L1 = 36 → set_L1 = lp (s_L_live_L1 xn xf xc) i_L1 0 → V p l e { frames := 3, cells := 1, slots := 36, locals := 76 } s m args below meth c D A 7 1 36 (MQ below (QL D (TI cI) ([(na, .inl (cI, 2, .inl (nA xn))), (fa, .inl (cI, 36, .inl (nA xf))), (ca, .inl (cI, 36, .inl (nA xc)))]) A (nJ (s_L_live xn xf xc))) args s 1 36 A) ([(da, .inl (cI, 36, .inl (nA (s_L_sums_xd xf xc (fun _ => 0))))), (na, .inl (cI, 2, .inl (nA xn))), (fa, .inl (cI, 36, .inl (nA xf))), (ca, .inl (cI, 36, .inl (nA xc)))]) [(6, .int (nI i_L1)), (4, .long (nJ set_L1)), (3, .ref da), (0, .ref na), (1, .ref fa), (2, .ref ca)] 17 [] by
    have h0_L1 := LP_L1 36 0 0 (Nat.zero_add _) (lp_zero _ _).symm
    exact v_sub (lv' := [(6, .int (nI 0)), (4, .long (nJ 0)), (3, .ref da), (0, .ref na), (1, .ref fa), (2, .ref ca)]) [0, 1, 2, 3, 4, 5] rfl h0_L1
  intro j_L1
  induction j_L1 with
  | zero =>
    intro i_L1 set_L1 hi_L1 hs_L1
    have hi_L1 : 36 = i_L1 := by omega
    subst hi_L1
    refine v_iload C0 (pc' := 19) 0 rfl dL_live_17 rfl ?_
    refine v_bipush C0 (pc' := 21) (nI 36) (by decide +kernel) dL_live_19 rfl ?_
    refine v_icmp_geN C0 55 (pc' := 24) (by omega) (by omega) dL_live_21 (by decide) rfl (fun h1 => ?_) (fun h1 => ?_)
    · refine v_lload C0 (pc' := 57) 1 rfl dL_live_55 rfl ?_
      refine v_tail ?_
      exact v_lret C0 hr hlk hK (by simp only [s_L_live, ← hs_L1]) dL_live_57
    · exact absurd (by omega) h1
  | succ j_L1 ih_L1 =>
    intro i_L1 set_L1 hi_L1 hs_L1
    refine v_iload C0 (pc' := 19) 0 rfl dL_live_17 rfl ?_
    refine v_bipush C0 (pc' := 21) (nI 36) (by decide +kernel) dL_live_19 rfl ?_
    refine v_icmp_geN C0 55 (pc' := 24) (by omega) (by omega) dL_live_21 (by decide) rfl (fun h2 => ?_) (fun h2 => ?_)
    · exact absurd h2 (by omega)
    · refine v_lload C0 (pc' := 26) 1 rfl dL_live_24 rfl ?_
      refine v_aload_n C0 (pc' := 27) 3 rfl rfl dL_live_26 rfl ?_
      refine v_aload_n C0 (pc' := 28) 4 rfl rfl dL_live_27 rfl ?_
      refine v_aload_n C0 (pc' := 29) 5 rfl rfl dL_live_28 rfl ?_
      refine v_aload_n C0 (pc' := 30) 2 rfl rfl dL_live_29 rfl ?_
      refine v_iload C0 (pc' := 32) 0 rfl dL_live_30 rfl ?_
      refine v_callSi C0 (av := [.ref na, .ref fa, .ref ca, .ref da, .int (nI i_L1)]) (rest := [.long (nJ set_L1)]) (ws' := [(da, .inl (cI, 36, .inl (nA (s_L_sums_xd xf xc (fun _ => 0))))), (na, .inl (cI, 2, .inl (nA xn))), (fa, .inl (cI, 36, .inl (nA xf))), (ca, .inl (cI, 36, .inl (nA xc)))]) (pc' := 35) hK hA (k_L_isOn l D cI na fa ca da xn xf xc (s_L_sums_xd xf xc (fun _ => 0)) i_L1 hn hf hc (le_sums hc (fun _ => Nat.zero_le _)) (by omega)) (va_cwS 5 C0.2.2.2.2 gL_live_L_isOn rfl rfl rfl (by decide +kernel) ⟨Nat.le_of_ble_eq_true rfl, Nat.le_of_ble_eq_true rfl⟩) (PLs.of (isC := [1, 2, 3, 0]) (isR := []) (isP := [3, 0, 1, 2]) (wr := []) ⟨rfl, by decide, rfl, by decide, by decide, rfl, by decide⟩) rfl rfl (Nat.le_of_ble_eq_true rfl) ⟨(Nat.le_of_ble_eq_true rfl), (Nat.le_of_ble_eq_true rfl)⟩ dL_live_32 rfl ?_
      refine v_if_eqN C0 45 (pc' := 38) (by have := @le_isOn xn xf xc (s_L_sums_xd xf xc (fun _ => 0)) i_L1; omega) dL_live_35 (by decide) rfl (fun h3 => ?_) (fun h3 => ?_)
      · refine v_lconst C0 (pc' := 46) (nJ 0) rfl dL_live_45 rfl ?_
        refine v_lorN C0 (pc' := 47) dL_live_46 rfl ?_
        refine v_lstore C0 (lv' := [(4, .long (nJ (set_L1 ||| 0))), (6, .int (nI i_L1)), (3, .ref da), (0, .ref na), (1, .ref fa), (2, .ref ca)]) (pc' := 49) (by decide) rfl dL_live_47 rfl ?_
        refine v_iincN C0 (lv' := [(6, .int (nI (i_L1 + 1))), (4, .long (nJ (set_L1 ||| 0))), (3, .ref da), (0, .ref na), (1, .ref fa), (2, .ref ca)]) (y := 1) (pc' := 52) 1 rfl (by decide) rfl dL_live_49 rfl ?_
        refine v_goto C0 17 dL_live_52 (by decide) ?_
        have hb := ih_L1 (i_L1 + 1) (set_L1 ||| 0) (by omega) (by rw [lp_succ, ← hs_L1]; simp only [s_L_live_L1, if_neg h2, if_pos h3])
        exact v_sub (lv' := [(6, .int (nI (i_L1 + 1))), (4, .long (nJ (set_L1 ||| 0))), (3, .ref da), (0, .ref na), (1, .ref fa), (2, .ref ca)]) [0, 1, 2, 3, 4, 5] rfl hb
      · refine v_lconst C0 (pc' := 39) 1 rfl dL_live_38 rfl ?_
        refine v_iload C0 (pc' := 41) 0 rfl dL_live_39 rfl ?_
        refine v_lshlN C0 (pc' := 42) (by omega) dL_live_41 rfl ?_
        refine v_goto C0 46 dL_live_42 (by decide) ?_
        refine v_lorN C0 (pc' := 47) dL_live_46 rfl ?_
        refine v_lstore C0 (lv' := [(4, .long (nJ (set_L1 ||| (2 ^ i_L1)))), (6, .int (nI i_L1)), (3, .ref da), (0, .ref na), (1, .ref fa), (2, .ref ca)]) (pc' := 49) (by decide) rfl dL_live_47 rfl ?_
        refine v_iincN C0 (lv' := [(6, .int (nI (i_L1 + 1))), (4, .long (nJ (set_L1 ||| (2 ^ i_L1)))), (3, .ref da), (0, .ref na), (1, .ref fa), (2, .ref ca)]) (y := 1) (pc' := 52) 1 rfl (by decide) rfl dL_live_49 rfl ?_
        refine v_goto C0 17 dL_live_52 (by decide) ?_
        have hb := ih_L1 (i_L1 + 1) (set_L1 ||| (2 ^ i_L1)) (by omega) (by rw [lp_succ, ← hs_L1]; simp only [s_L_live_L1, if_neg h2, if_neg h3])
        exact v_sub (lv' := [(6, .int (nI (i_L1 + 1))), (4, .long (nJ (set_L1 ||| (2 ^ i_L1)))), (3, .ref da), (0, .ref na), (1, .ref fa), (2, .ref ca)]) [0, 1, 2, 3, 4, 5] rfl hb
