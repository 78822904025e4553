/-! the law's cases (by program: wip/gen/law.py) -/
section KX
variable {tm : Nat} {g h : kG}
theorem K.xI (k : K tm g h) : xI g := by
  obtain ⟨nf, na, nm, R, E, rs, rl, g1, g2, g3, g4, g5, g6⟩ := k
  exact R.xI ⟨rs, rl, g1, g2, g4⟩
theorem K.mJ (k : K tm g h) : mJ h := by
  obtain ⟨nf, na, nm, R, E, rs, rl, g1, g2, g3, g4, g5, g6⟩ := k
  exact R.mJ (kNof g5 (by decide) g3)
theorem K.mI (k : K tm g h) : mI h := k.mJ.1
theorem xTree_w (g : kG) (f : Nat) : ∃ w : Nat, w ≤ 4 ∧ xTree g f = nI w := by
  unfold xTree
  split
  · exact ⟨0, by decide, rfl⟩
  · split
    · exact ⟨0, by decide, rfl⟩
    · obtain ⟨w, h1, h2, -⟩ := tree5 (g.2 5 f 1)
      exact ⟨w, h1, h2⟩
theorem mMof_w (h : kG) (f : Nat) : ∃ w : Nat, w ≤ 4 ∧ mMof h f = nI w := by
  unfold mMof
  split
  · exact ⟨0, by decide, rfl⟩
  · split
    · exact ⟨0, by decide, rfl⟩
    · obtain ⟨w, h1, -, h3⟩ := tree5 (h.2 6 0 f)
      exact ⟨w, h1, h3⟩
end KX
abbrev lLs (i : Nat) : List (Option kV) := [some (.inr (.inr (2, 0))), some (.inr (.inr (0, 0))), some (.inr (.inr (1, 0))), some (.inl (nI i))]
set_option maxHeartbeats 4000000 in
theorem law_c0 {l : Launch} {bx bm : Nat → Nat → Nat} {dA : Nat → ClassId} {D : va_G} {b L : Nat} {xs : Nat → Int32} {x : kCx} {nn : Nat × Nat} {Q : State → Prop} {g h : kG} {tm i : Nat} (X : lIn l bx bm dA D b L xs x) (hn : nn.1 ≤ 600000 ∧ nn.2 ≤ 7302250) (hL : L ≤ 2561) (hi : i + 5 ≤ L) (kk : K tm g h) (K9 : ∀ g2 h2, K tm g2 h2 → Wk (lWd bx bm dA D) (lA x) (lAd bx bm b) x nn Q 750 (lLs i) [] (g2, h2)) : Wk (lWd bx bm dA D) (lA x) (lAd bx bm b) x nn Q 128 (lLs i) [] (g, h) := by
  have C := X.1
  have hX := X.2.2.2.2.2.2.1
  have hbl := X.2.2.2.2.2.2.2.1
  have hbA : ¬ lA x b := Nat.not_le.mpr hbl
  refine k_aload_n C d_L_law_128 rfl rfl ?_
  refine k_aload_n C d_L_law_129 rfl rfl ?_
  refine k_iload_n C d_L_law_130 rfl rfl ?_
  refine k_iconst C (v := 1) d_L_law_131 (by decide) ?_
  refine k_iadd C d_L_law_132 ?_
  refine k_sld C hX hbl hbA rfl d_L_law_133 (q := i + 1) (nI_add i 1) (by omega) (by omega) ?_
  refine k_i2l C d_L_law_134 ?_
  refine k_bipush C (v := 32) d_L_law_135 (by decide) ?_
  refine k_lshl C d_L_law_137 rfl ?_
  refine k_aload_n C d_L_law_138 rfl rfl ?_
  refine k_iload_n C d_L_law_139 rfl rfl ?_
  refine k_iconst C (v := 2) d_L_law_140 (by decide) ?_
  refine k_iadd C d_L_law_141 ?_
  refine k_sld C hX hbl hbA rfl d_L_law_142 (q := i + 2) (nI_add i 2) (by omega) (by omega) ?_
  refine k_i2l C d_L_law_143 ?_
  refine k_ldc2 C (v := 4294967295) d_L_law_144 (by decide +kernel) ?_
  refine k_land C d_L_law_147 ?_
  refine k_lor C d_L_law_148 ?_
  refine k_topl (fun d ed => ?_)
  refine l_cx X (as := [.inr (.inl d)]) d_L_law_149 (c_X_file l bx dA D g d kk.xI) cv_L_23 rfl rfl ⟨by decide, by decide⟩ hn rfl rfl (Nat.le_of_ble_eq_true rfl) ?_
  refine k_aload_n C d_L_law_152 rfl rfl ?_
  refine k_aload_n C d_L_law_153 rfl rfl ?_
  refine k_iload_n C d_L_law_154 rfl rfl ?_
  refine k_iconst C (v := 1) d_L_law_155 (by decide) ?_
  refine k_iadd C d_L_law_156 ?_
  refine k_sld C hX hbl hbA rfl d_L_law_157 (q := i + 1) (nI_add i 1) (by omega) (by omega) ?_
  refine k_i2l C d_L_law_158 ?_
  refine k_bipush C (v := 32) d_L_law_159 (by decide) ?_
  refine k_lshl C d_L_law_161 rfl ?_
  refine k_aload_n C d_L_law_162 rfl rfl ?_
  refine k_iload_n C d_L_law_163 rfl rfl ?_
  refine k_iconst C (v := 2) d_L_law_164 (by decide) ?_
  refine k_iadd C d_L_law_165 ?_
  refine k_sld C hX hbl hbA rfl d_L_law_166 (q := i + 2) (nI_add i 2) (by omega) (by omega) ?_
  refine k_i2l C d_L_law_167 ?_
  refine k_ldc2 C (v := 4294967295) d_L_law_168 (by decide +kernel) ?_
  refine k_land C d_L_law_171 ?_
  refine k_lor C d_L_law_172 ?_
  refine k_topl (fun d2 ed2 => ?_)
  rw [show d2 = d from ed2.trans ed.symm]
  refine l_cm X (as := [.inr (.inl d)]) d_L_law_173 (c_M_file l bm dA D h d kk.mI) cv_L_27 rfl rfl ⟨by decide, by decide⟩ hn rfl rfl (Nat.le_of_ble_eq_true rfl) ?_
  exact k_icmp_eq C (tgt := 750) d_L_law_176 (by decide) (fun _ => K9 _ _ ((file_ok kk d).2)) (fun c9 => absurd ((file_ok kk d).1) c9)
set_option maxHeartbeats 4000000 in
theorem law_c1 {l : Launch} {bx bm : Nat → Nat → Nat} {dA : Nat → ClassId} {D : va_G} {b L : Nat} {xs : Nat → Int32} {x : kCx} {nn : Nat × Nat} {Q : State → Prop} {g h : kG} {tm i : Nat} (X : lIn l bx bm dA D b L xs x) (hn : nn.1 ≤ 600000 ∧ nn.2 ≤ 7302250) (hL : L ≤ 2561) (hi : i + 5 ≤ L) (kk : K tm g h) (K9 : ∀ g2 h2, K tm g2 h2 → Wk (lWd bx bm dA D) (lA x) (lAd bx bm b) x nn Q 750 (lLs i) [] (g2, h2)) : Wk (lWd bx bm dA D) (lA x) (lAd bx bm b) x nn Q 181 (lLs i) [] (g, h) := by
  have C := X.1
  have hX := X.2.2.2.2.2.2.1
  have hbl := X.2.2.2.2.2.2.2.1
  have hbA : ¬ lA x b := Nat.not_le.mpr hbl
  refine k_aload_n C d_L_law_181 rfl rfl ?_
  refine k_aload_n C d_L_law_182 rfl rfl ?_
  refine k_iload_n C d_L_law_183 rfl rfl ?_
  refine k_iconst C (v := 1) d_L_law_184 (by decide) ?_
  refine k_iadd C d_L_law_185 ?_
  refine k_sld C hX hbl hbA rfl d_L_law_186 (q := i + 1) (nI_add i 1) (by omega) (by omega) ?_
  refine k_aload_n C d_L_law_187 rfl rfl ?_
  refine k_iload_n C d_L_law_188 rfl rfl ?_
  refine k_iconst C (v := 2) d_L_law_189 (by decide) ?_
  refine k_iadd C d_L_law_190 ?_
  refine k_sld C hX hbl hbA rfl d_L_law_191 (q := i + 2) (nI_add i 2) (by omega) (by omega) ?_
  refine k_if_eq C (tgt := 199) d_L_law_192 (by decide) (fun c1 => ?_) (fun c1 => ?_)
  · skip
    refine k_iconst C (v := 0) d_L_law_199 (by decide) ?_
    refine k_aload_n C d_L_law_200 rfl rfl ?_
    refine k_iload_n C d_L_law_201 rfl rfl ?_
    refine k_iconst C (v := 3) d_L_law_202 (by decide) ?_
    refine k_iadd C d_L_law_203 ?_
    refine k_sld C hX hbl hbA rfl d_L_law_204 (q := i + 3) (nI_add i 3) (by omega) (by omega) ?_
    refine k_i2l C d_L_law_205 ?_
    refine k_bipush C (v := 32) d_L_law_206 (by decide) ?_
    refine k_lshl C d_L_law_208 rfl ?_
    refine k_aload_n C d_L_law_209 rfl rfl ?_
    refine k_iload_n C d_L_law_210 rfl rfl ?_
    refine k_iconst C (v := 4) d_L_law_211 (by decide) ?_
    refine k_iadd C d_L_law_212 ?_
    refine k_sld C hX hbl hbA rfl d_L_law_213 (q := i + 4) (nI_add i 4) (by omega) (by omega) ?_
    refine k_i2l C d_L_law_214 ?_
    refine k_ldc2 C (v := 4294967295) d_L_law_215 (by decide +kernel) ?_
    refine k_land C d_L_law_218 ?_
    refine k_lor C d_L_law_219 ?_
    refine k_topl (fun d ed => ?_)
    refine l_cx X (as := [.inl (xs (i + 1)), .inl 0, .inr (.inl d)]) d_L_law_220 (c_X_change l bx dA D g (xs (i + 1)) 0 d kk.xI) cv_L_28 rfl rfl ⟨by decide, by decide⟩ hn rfl rfl (Nat.le_of_ble_eq_true rfl) ?_
    refine k_aload_n C d_L_law_223 rfl rfl ?_
    refine k_aload_n C d_L_law_224 rfl rfl ?_
    refine k_iload_n C d_L_law_225 rfl rfl ?_
    refine k_iconst C (v := 1) d_L_law_226 (by decide) ?_
    refine k_iadd C d_L_law_227 ?_
    refine k_sld C hX hbl hbA rfl d_L_law_228 (q := i + 1) (nI_add i 1) (by omega) (by omega) ?_
    refine k_aload_n C d_L_law_229 rfl rfl ?_
    refine k_iload_n C d_L_law_230 rfl rfl ?_
    refine k_iconst C (v := 2) d_L_law_231 (by decide) ?_
    refine k_iadd C d_L_law_232 ?_
    refine k_sld C hX hbl hbA rfl d_L_law_233 (q := i + 2) (nI_add i 2) (by omega) (by omega) ?_
    refine k_if_eq C (tgt := 241) d_L_law_234 (by decide) (fun _ => ?_) (fun c2 => absurd c1 c2)
    refine k_iconst C (v := 0) d_L_law_241 (by decide) ?_
    refine k_aload_n C d_L_law_242 rfl rfl ?_
    refine k_iload_n C d_L_law_243 rfl rfl ?_
    refine k_iconst C (v := 3) d_L_law_244 (by decide) ?_
    refine k_iadd C d_L_law_245 ?_
    refine k_sld C hX hbl hbA rfl d_L_law_246 (q := i + 3) (nI_add i 3) (by omega) (by omega) ?_
    refine k_i2l C d_L_law_247 ?_
    refine k_bipush C (v := 32) d_L_law_248 (by decide) ?_
    refine k_lshl C d_L_law_250 rfl ?_
    refine k_aload_n C d_L_law_251 rfl rfl ?_
    refine k_iload_n C d_L_law_252 rfl rfl ?_
    refine k_iconst C (v := 4) d_L_law_253 (by decide) ?_
    refine k_iadd C d_L_law_254 ?_
    refine k_sld C hX hbl hbA rfl d_L_law_255 (q := i + 4) (nI_add i 4) (by omega) (by omega) ?_
    refine k_i2l C d_L_law_256 ?_
    refine k_ldc2 C (v := 4294967295) d_L_law_257 (by decide +kernel) ?_
    refine k_land C d_L_law_260 ?_
    refine k_lor C d_L_law_261 ?_
    refine k_topl (fun d2 ed2 => ?_)
    rw [show d2 = d from ed2.trans ed.symm]
    refine l_cm X (as := [.inl (xs (i + 1)), .inl 0, .inr (.inl d)]) d_L_law_262 (c_M_change l bm dA D h (xs (i + 1)) 0 (Or.inl rfl) d kk.mI) cv_L_32 rfl rfl ⟨by decide, by decide⟩ hn rfl rfl (Nat.le_of_ble_eq_true rfl) ?_
    exact k_icmp_eq C (tgt := 750) d_L_law_265 (by decide) (fun _ => K9 _ _ ((change_ok kk (xs (i + 1)) 0 (Or.inl rfl) d).2)) (fun c9 => absurd ((change_ok kk (xs (i + 1)) 0 (Or.inl rfl) d).1) c9)
  · skip
    refine k_iconst C (v := 1) d_L_law_195 (by decide) ?_
    refine k_goto C (tgt := 200) d_L_law_196 (by decide) ?_
    refine k_aload_n C d_L_law_200 rfl rfl ?_
    refine k_iload_n C d_L_law_201 rfl rfl ?_
    refine k_iconst C (v := 3) d_L_law_202 (by decide) ?_
    refine k_iadd C d_L_law_203 ?_
    refine k_sld C hX hbl hbA rfl d_L_law_204 (q := i + 3) (nI_add i 3) (by omega) (by omega) ?_
    refine k_i2l C d_L_law_205 ?_
    refine k_bipush C (v := 32) d_L_law_206 (by decide) ?_
    refine k_lshl C d_L_law_208 rfl ?_
    refine k_aload_n C d_L_law_209 rfl rfl ?_
    refine k_iload_n C d_L_law_210 rfl rfl ?_
    refine k_iconst C (v := 4) d_L_law_211 (by decide) ?_
    refine k_iadd C d_L_law_212 ?_
    refine k_sld C hX hbl hbA rfl d_L_law_213 (q := i + 4) (nI_add i 4) (by omega) (by omega) ?_
    refine k_i2l C d_L_law_214 ?_
    refine k_ldc2 C (v := 4294967295) d_L_law_215 (by decide +kernel) ?_
    refine k_land C d_L_law_218 ?_
    refine k_lor C d_L_law_219 ?_
    refine k_topl (fun d ed => ?_)
    refine l_cx X (as := [.inl (xs (i + 1)), .inl 1, .inr (.inl d)]) d_L_law_220 (c_X_change l bx dA D g (xs (i + 1)) 1 d kk.xI) cv_L_28 rfl rfl ⟨by decide, by decide⟩ hn rfl rfl (Nat.le_of_ble_eq_true rfl) ?_
    refine k_aload_n C d_L_law_223 rfl rfl ?_
    refine k_aload_n C d_L_law_224 rfl rfl ?_
    refine k_iload_n C d_L_law_225 rfl rfl ?_
    refine k_iconst C (v := 1) d_L_law_226 (by decide) ?_
    refine k_iadd C d_L_law_227 ?_
    refine k_sld C hX hbl hbA rfl d_L_law_228 (q := i + 1) (nI_add i 1) (by omega) (by omega) ?_
    refine k_aload_n C d_L_law_229 rfl rfl ?_
    refine k_iload_n C d_L_law_230 rfl rfl ?_
    refine k_iconst C (v := 2) d_L_law_231 (by decide) ?_
    refine k_iadd C d_L_law_232 ?_
    refine k_sld C hX hbl hbA rfl d_L_law_233 (q := i + 2) (nI_add i 2) (by omega) (by omega) ?_
    refine k_if_eq C (tgt := 241) d_L_law_234 (by decide) (fun c2 => absurd c2 c1) (fun _ => ?_)
    refine k_iconst C (v := 1) d_L_law_237 (by decide) ?_
    refine k_goto C (tgt := 242) d_L_law_238 (by decide) ?_
    refine k_aload_n C d_L_law_242 rfl rfl ?_
    refine k_iload_n C d_L_law_243 rfl rfl ?_
    refine k_iconst C (v := 3) d_L_law_244 (by decide) ?_
    refine k_iadd C d_L_law_245 ?_
    refine k_sld C hX hbl hbA rfl d_L_law_246 (q := i + 3) (nI_add i 3) (by omega) (by omega) ?_
    refine k_i2l C d_L_law_247 ?_
    refine k_bipush C (v := 32) d_L_law_248 (by decide) ?_
    refine k_lshl C d_L_law_250 rfl ?_
    refine k_aload_n C d_L_law_251 rfl rfl ?_
    refine k_iload_n C d_L_law_252 rfl rfl ?_
    refine k_iconst C (v := 4) d_L_law_253 (by decide) ?_
    refine k_iadd C d_L_law_254 ?_
    refine k_sld C hX hbl hbA rfl d_L_law_255 (q := i + 4) (nI_add i 4) (by omega) (by omega) ?_
    refine k_i2l C d_L_law_256 ?_
    refine k_ldc2 C (v := 4294967295) d_L_law_257 (by decide +kernel) ?_
    refine k_land C d_L_law_260 ?_
    refine k_lor C d_L_law_261 ?_
    refine k_topl (fun d2 ed2 => ?_)
    rw [show d2 = d from ed2.trans ed.symm]
    refine l_cm X (as := [.inl (xs (i + 1)), .inl 1, .inr (.inl d)]) d_L_law_262 (c_M_change l bm dA D h (xs (i + 1)) 1 (Or.inr rfl) d kk.mI) cv_L_32 rfl rfl ⟨by decide, by decide⟩ hn rfl rfl (Nat.le_of_ble_eq_true rfl) ?_
    exact k_icmp_eq C (tgt := 750) d_L_law_265 (by decide) (fun _ => K9 _ _ ((change_ok kk (xs (i + 1)) 1 (Or.inr rfl) d).2)) (fun c9 => absurd ((change_ok kk (xs (i + 1)) 1 (Or.inr rfl) d).1) c9)
set_option maxHeartbeats 4000000 in
theorem law_c2 {l : Launch} {bx bm : Nat → Nat → Nat} {dA : Nat → ClassId} {D : va_G} {b L : Nat} {xs : Nat → Int32} {x : kCx} {nn : Nat × Nat} {Q : State → Prop} {g h : kG} {tm i : Nat} (X : lIn l bx bm dA D b L xs x) (hn : nn.1 ≤ 600000 ∧ nn.2 ≤ 7302250) (hL : L ≤ 2561) (hi : i + 5 ≤ L) (kk : K tm g h) (K9 : ∀ g2 h2, K tm g2 h2 → Wk (lWd bx bm dA D) (lA x) (lAd bx bm b) x nn Q 750 (lLs i) [] (g2, h2)) : Wk (lWd bx bm dA D) (lA x) (lAd bx bm b) x nn Q 270 (lLs i) [] (g, h) := by
  have C := X.1
  have hX := X.2.2.2.2.2.2.1
  have hbl := X.2.2.2.2.2.2.2.1
  have hbA : ¬ lA x b := Nat.not_le.mpr hbl
  refine k_aload_n C d_L_law_270 rfl rfl ?_
  refine k_aload_n C d_L_law_271 rfl rfl ?_
  refine k_iload_n C d_L_law_272 rfl rfl ?_
  refine k_iconst C (v := 1) d_L_law_273 (by decide) ?_
  refine k_iadd C d_L_law_274 ?_
  refine k_sld C hX hbl hbA rfl d_L_law_275 (q := i + 1) (nI_add i 1) (by omega) (by omega) ?_
  refine l_cx X (as := [.inl (xs (i + 1))]) d_L_law_276 (c_X_action l bx dA D g (xs (i + 1)) kk.xI) cv_L_33 rfl rfl ⟨by decide, by decide⟩ hn rfl rfl (Nat.le_of_ble_eq_true rfl) ?_
  refine k_aload_n C d_L_law_279 rfl rfl ?_
  refine k_aload_n C d_L_law_280 rfl rfl ?_
  refine k_iload_n C d_L_law_281 rfl rfl ?_
  refine k_iconst C (v := 1) d_L_law_282 (by decide) ?_
  refine k_iadd C d_L_law_283 ?_
  refine k_sld C hX hbl hbA rfl d_L_law_284 (q := i + 1) (nI_add i 1) (by omega) (by omega) ?_
  refine l_cm X (as := [.inl (xs (i + 1))]) d_L_law_285 (c_M_action l bm dA D h (xs (i + 1)) kk.mI) cv_L_37 rfl rfl ⟨by decide, by decide⟩ hn rfl rfl (Nat.le_of_ble_eq_true rfl) ?_
  exact k_icmp_eq C (tgt := 750) d_L_law_288 (by decide) (fun _ => K9 _ _ ((action_ok kk (xs (i + 1))).2)) (fun c9 => absurd ((action_ok kk (xs (i + 1))).1) c9)
set_option maxHeartbeats 4000000 in
theorem law_c3 {l : Launch} {bx bm : Nat → Nat → Nat} {dA : Nat → ClassId} {D : va_G} {b L : Nat} {xs : Nat → Int32} {x : kCx} {nn : Nat × Nat} {Q : State → Prop} {g h : kG} {tm i : Nat} (X : lIn l bx bm dA D b L xs x) (hn : nn.1 ≤ 600000 ∧ nn.2 ≤ 7302250) (hL : L ≤ 2561) (hi : i + 5 ≤ L) (kk : K tm g h) (K9 : ∀ g2 h2, K tm g2 h2 → Wk (lWd bx bm dA D) (lA x) (lAd bx bm b) x nn Q 750 (lLs i) [] (g2, h2)) : Wk (lWd bx bm dA D) (lA x) (lAd bx bm b) x nn Q 293 (lLs i) [] (g, h) := by
  have C := X.1
  have hX := X.2.2.2.2.2.2.1
  have hbl := X.2.2.2.2.2.2.2.1
  have hbA : ¬ lA x b := Nat.not_le.mpr hbl
  refine k_aload_n C d_L_law_293 rfl rfl ?_
  refine k_aload_n C d_L_law_294 rfl rfl ?_
  refine k_iload_n C d_L_law_295 rfl rfl ?_
  refine k_iconst C (v := 1) d_L_law_296 (by decide) ?_
  refine k_iadd C d_L_law_297 ?_
  refine k_sld C hX hbl hbA rfl d_L_law_298 (q := i + 1) (nI_add i 1) (by omega) (by omega) ?_
  refine k_aload_n C d_L_law_299 rfl rfl ?_
  refine k_iload_n C d_L_law_300 rfl rfl ?_
  refine k_iconst C (v := 2) d_L_law_301 (by decide) ?_
  refine k_iadd C d_L_law_302 ?_
  refine k_sld C hX hbl hbA rfl d_L_law_303 (q := i + 2) (nI_add i 2) (by omega) (by omega) ?_
  refine l_cx X (as := [.inl (xs (i + 1)), .inl (xs (i + 2))]) d_L_law_304 (c_X_makes l bx dA D g (xs (i + 1)) (xs (i + 2)) kk.xI) cv_L_38 rfl rfl ⟨by decide, by decide⟩ hn rfl rfl (Nat.le_of_ble_eq_true rfl) ?_
  refine k_aload_n C d_L_law_307 rfl rfl ?_
  refine k_aload_n C d_L_law_308 rfl rfl ?_
  refine k_iload_n C d_L_law_309 rfl rfl ?_
  refine k_iconst C (v := 1) d_L_law_310 (by decide) ?_
  refine k_iadd C d_L_law_311 ?_
  refine k_sld C hX hbl hbA rfl d_L_law_312 (q := i + 1) (nI_add i 1) (by omega) (by omega) ?_
  refine k_aload_n C d_L_law_313 rfl rfl ?_
  refine k_iload_n C d_L_law_314 rfl rfl ?_
  refine k_iconst C (v := 2) d_L_law_315 (by decide) ?_
  refine k_iadd C d_L_law_316 ?_
  refine k_sld C hX hbl hbA rfl d_L_law_317 (q := i + 2) (nI_add i 2) (by omega) (by omega) ?_
  refine l_cm X (as := [.inl (xs (i + 1)), .inl (xs (i + 2))]) d_L_law_318 (c_M_makes l bm dA D h (xs (i + 1)) (xs (i + 2)) kk.mI) cv_L_42 rfl rfl ⟨by decide, by decide⟩ hn rfl rfl (Nat.le_of_ble_eq_true rfl) ?_
  exact k_icmp_eq C (tgt := 750) d_L_law_321 (by decide) (fun _ => K9 _ _ ((makes_ok kk (xs (i + 1)) (xs (i + 2))).2)) (fun c9 => absurd ((makes_ok kk (xs (i + 1)) (xs (i + 2))).1) c9)
set_option maxHeartbeats 4000000 in
theorem law_c4 {l : Launch} {bx bm : Nat → Nat → Nat} {dA : Nat → ClassId} {D : va_G} {b L : Nat} {xs : Nat → Int32} {x : kCx} {nn : Nat × Nat} {Q : State → Prop} {g h : kG} {tm i : Nat} (X : lIn l bx bm dA D b L xs x) (hn : nn.1 ≤ 600000 ∧ nn.2 ≤ 7302250) (hL : L ≤ 2561) (hi : i + 5 ≤ L) (kk : K tm g h) (K9 : ∀ g2 h2, K tm g2 h2 → Wk (lWd bx bm dA D) (lA x) (lAd bx bm b) x nn Q 750 (lLs i) [] (g2, h2)) : Wk (lWd bx bm dA D) (lA x) (lAd bx bm b) x nn Q 326 (lLs i) [] (g, h) := by
  have C := X.1
  have hX := X.2.2.2.2.2.2.1
  have hbl := X.2.2.2.2.2.2.2.1
  have hbA : ¬ lA x b := Nat.not_le.mpr hbl
  refine k_aload_n C d_L_law_326 rfl rfl ?_
  refine k_aload_n C d_L_law_327 rfl rfl ?_
  refine k_iload_n C d_L_law_328 rfl rfl ?_
  refine k_iconst C (v := 1) d_L_law_329 (by decide) ?_
  refine k_iadd C d_L_law_330 ?_
  refine k_sld C hX hbl hbA rfl d_L_law_331 (q := i + 1) (nI_add i 1) (by omega) (by omega) ?_
  refine k_aload_n C d_L_law_332 rfl rfl ?_
  refine k_iload_n C d_L_law_333 rfl rfl ?_
  refine k_iconst C (v := 2) d_L_law_334 (by decide) ?_
  refine k_iadd C d_L_law_335 ?_
  refine k_sld C hX hbl hbA rfl d_L_law_336 (q := i + 2) (nI_add i 2) (by omega) (by omega) ?_
  refine k_aload_n C d_L_law_337 rfl rfl ?_
  refine k_iload_n C d_L_law_338 rfl rfl ?_
  refine k_iconst C (v := 3) d_L_law_339 (by decide) ?_
  refine k_iadd C d_L_law_340 ?_
  refine k_sld C hX hbl hbA rfl d_L_law_341 (q := i + 3) (nI_add i 3) (by omega) (by omega) ?_
  refine l_cx X (as := [.inl (xs (i + 1)), .inl (xs (i + 2)), .inl (xs (i + 3))]) d_L_law_342 (c_X_row l bx dA D g (xs (i + 1)) (xs (i + 2)) (xs (i + 3)) kk.xI) cv_L_43 rfl rfl ⟨by decide, by decide⟩ hn rfl rfl (Nat.le_of_ble_eq_true rfl) ?_
  refine k_aload_n C d_L_law_345 rfl rfl ?_
  refine k_aload_n C d_L_law_346 rfl rfl ?_
  refine k_iload_n C d_L_law_347 rfl rfl ?_
  refine k_iconst C (v := 1) d_L_law_348 (by decide) ?_
  refine k_iadd C d_L_law_349 ?_
  refine k_sld C hX hbl hbA rfl d_L_law_350 (q := i + 1) (nI_add i 1) (by omega) (by omega) ?_
  refine k_aload_n C d_L_law_351 rfl rfl ?_
  refine k_iload_n C d_L_law_352 rfl rfl ?_
  refine k_iconst C (v := 2) d_L_law_353 (by decide) ?_
  refine k_iadd C d_L_law_354 ?_
  refine k_sld C hX hbl hbA rfl d_L_law_355 (q := i + 2) (nI_add i 2) (by omega) (by omega) ?_
  refine k_aload_n C d_L_law_356 rfl rfl ?_
  refine k_iload_n C d_L_law_357 rfl rfl ?_
  refine k_iconst C (v := 3) d_L_law_358 (by decide) ?_
  refine k_iadd C d_L_law_359 ?_
  refine k_sld C hX hbl hbA rfl d_L_law_360 (q := i + 3) (nI_add i 3) (by omega) (by omega) ?_
  refine l_cm X (as := [.inl (xs (i + 1)), .inl (xs (i + 2)), .inl (xs (i + 3))]) d_L_law_361 (c_M_row l bm dA D h (xs (i + 1)) (xs (i + 2)) (xs (i + 3)) kk.mI) cv_L_47 rfl rfl ⟨by decide, by decide⟩ hn rfl rfl (Nat.le_of_ble_eq_true rfl) ?_
  exact k_icmp_eq C (tgt := 750) d_L_law_364 (by decide) (fun _ => K9 _ _ ((row_ok kk (xs (i + 1)) (xs (i + 2)) (xs (i + 3))).2)) (fun c9 => absurd ((row_ok kk (xs (i + 1)) (xs (i + 2)) (xs (i + 3))).1) c9)
set_option maxHeartbeats 4000000 in
theorem law_c5 {l : Launch} {bx bm : Nat → Nat → Nat} {dA : Nat → ClassId} {D : va_G} {b L : Nat} {xs : Nat → Int32} {x : kCx} {nn : Nat × Nat} {Q : State → Prop} {g h : kG} {tm i : Nat} (X : lIn l bx bm dA D b L xs x) (hn : nn.1 ≤ 600000 ∧ nn.2 ≤ 7302250) (hL : L ≤ 2561) (hi : i + 5 ≤ L) (kk : K tm g h) (K9 : ∀ g2 h2, K tm g2 h2 → Wk (lWd bx bm dA D) (lA x) (lAd bx bm b) x nn Q 750 (lLs i) [] (g2, h2)) : Wk (lWd bx bm dA D) (lA x) (lAd bx bm b) x nn Q 369 (lLs i) [] (g, h) := by
  have C := X.1
  have hX := X.2.2.2.2.2.2.1
  have hbl := X.2.2.2.2.2.2.2.1
  have hbA : ¬ lA x b := Nat.not_le.mpr hbl
  refine k_aload_n C d_L_law_369 rfl rfl ?_
  refine k_aload_n C d_L_law_370 rfl rfl ?_
  refine k_iload_n C d_L_law_371 rfl rfl ?_
  refine k_iconst C (v := 1) d_L_law_372 (by decide) ?_
  refine k_iadd C d_L_law_373 ?_
  refine k_sld C hX hbl hbA rfl d_L_law_374 (q := i + 1) (nI_add i 1) (by omega) (by omega) ?_
  refine l_cx X (as := [.inl (xs (i + 1))]) d_L_law_375 (c_X_run l bx dA D g (xs (i + 1)) kk.xI) cv_L_48 rfl rfl ⟨by decide, by decide⟩ hn rfl rfl (Nat.le_of_ble_eq_true rfl) ?_
  refine k_aload_n C d_L_law_378 rfl rfl ?_
  refine k_aload_n C d_L_law_379 rfl rfl ?_
  refine k_iload_n C d_L_law_380 rfl rfl ?_
  refine k_iconst C (v := 1) d_L_law_381 (by decide) ?_
  refine k_iadd C d_L_law_382 ?_
  refine k_sld C hX hbl hbA rfl d_L_law_383 (q := i + 1) (nI_add i 1) (by omega) (by omega) ?_
  refine l_cm X (as := [.inl (xs (i + 1))]) d_L_law_384 (c_M_run l bm dA D h (xs (i + 1)) kk.mJ) cv_L_51 rfl rfl ⟨by decide, by decide⟩ hn rfl rfl (Nat.le_of_ble_eq_true rfl) ?_
  exact k_icmp_eq C (tgt := 750) d_L_law_387 (by decide) (fun _ => K9 _ _ ((run_okK kk (xs (i + 1))).2)) (fun c9 => absurd ((run_okK kk (xs (i + 1))).1) c9)
set_option maxHeartbeats 4000000 in
theorem law_c6 {l : Launch} {bx bm : Nat → Nat → Nat} {dA : Nat → ClassId} {D : va_G} {b L : Nat} {xs : Nat → Int32} {x : kCx} {nn : Nat × Nat} {Q : State → Prop} {g h : kG} {tm i : Nat} (X : lIn l bx bm dA D b L xs x) (hn : nn.1 ≤ 600000 ∧ nn.2 ≤ 7302250) (hL : L ≤ 2561) (hi : i + 5 ≤ L) (kk : K tm g h) (K9 : ∀ g2 h2, K tm g2 h2 → Wk (lWd bx bm dA D) (lA x) (lAd bx bm b) x nn Q 750 (lLs i) [] (g2, h2)) : Wk (lWd bx bm dA D) (lA x) (lAd bx bm b) x nn Q 392 (lLs i) [] (g, h) := by
  have C := X.1
  have hX := X.2.2.2.2.2.2.1
  have hbl := X.2.2.2.2.2.2.2.1
  have hbA : ¬ lA x b := Nat.not_le.mpr hbl
  refine k_aload_n C d_L_law_392 rfl rfl ?_
  refine k_aload_n C d_L_law_393 rfl rfl ?_
  refine k_iload_n C d_L_law_394 rfl rfl ?_
  refine k_iconst C (v := 1) d_L_law_395 (by decide) ?_
  refine k_iadd C d_L_law_396 ?_
  refine k_sld C hX hbl hbA rfl d_L_law_397 (q := i + 1) (nI_add i 1) (by omega) (by omega) ?_
  refine l_cx X (as := [.inl (xs (i + 1))]) d_L_law_398 (cx_resolve l bx dA D kk (xs (i + 1))) cv_L_52 rfl rfl ⟨by decide, by decide⟩ hn rfl rfl (Nat.le_of_ble_eq_true rfl) ?_
  refine k_aload_n C d_L_law_401 rfl rfl ?_
  refine k_aload_n C d_L_law_402 rfl rfl ?_
  refine k_iload_n C d_L_law_403 rfl rfl ?_
  refine k_iconst C (v := 1) d_L_law_404 (by decide) ?_
  refine k_iadd C d_L_law_405 ?_
  refine k_sld C hX hbl hbA rfl d_L_law_406 (q := i + 1) (nI_add i 1) (by omega) (by omega) ?_
  refine l_cm X (as := [.inl (xs (i + 1))]) d_L_law_407 (cm_resolve l bm dA D kk (xs (i + 1))) cv_L_55 rfl rfl ⟨by decide, by decide⟩ hn rfl rfl (Nat.le_of_ble_eq_true rfl) ?_
  exact k_icmp_eq C (tgt := 750) d_L_law_410 (by decide) (fun _ => K9 _ _ ((resolve_ok kk (xs (i + 1))).2)) (fun c9 => absurd ((resolve_ok kk (xs (i + 1))).1) c9)
set_option maxHeartbeats 4000000 in
theorem law_c7 {l : Launch} {bx bm : Nat → Nat → Nat} {dA : Nat → ClassId} {D : va_G} {b L : Nat} {xs : Nat → Int32} {x : kCx} {nn : Nat × Nat} {Q : State → Prop} {g h : kG} {tm i : Nat} (X : lIn l bx bm dA D b L xs x) (hn : nn.1 ≤ 600000 ∧ nn.2 ≤ 7302250) (hL : L ≤ 2561) (hi : i + 5 ≤ L) (kk : K tm g h) (K9 : ∀ g2 h2, K tm g2 h2 → Wk (lWd bx bm dA D) (lA x) (lAd bx bm b) x nn Q 750 (lLs i) [] (g2, h2)) : Wk (lWd bx bm dA D) (lA x) (lAd bx bm b) x nn Q 415 (lLs i) [] (g, h) := by
  have C := X.1
  have hX := X.2.2.2.2.2.2.1
  have hbl := X.2.2.2.2.2.2.2.1
  have hbA : ¬ lA x b := Nat.not_le.mpr hbl
  refine k_aload_n C d_L_law_415 rfl rfl ?_
  refine k_aload_n C d_L_law_416 rfl rfl ?_
  refine k_iload_n C d_L_law_417 rfl rfl ?_
  refine k_iconst C (v := 1) d_L_law_418 (by decide) ?_
  refine k_iadd C d_L_law_419 ?_
  refine k_sld C hX hbl hbA rfl d_L_law_420 (q := i + 1) (nI_add i 1) (by omega) (by omega) ?_
  refine l_cx X (as := [.inl (xs (i + 1))]) d_L_law_421 (c_X_ring l bx dA D g (xs (i + 1)) kk.xI) cv_L_56 rfl rfl ⟨by decide, by decide⟩ hn rfl rfl (Nat.le_of_ble_eq_true rfl) ?_
  refine k_aload_n C d_L_law_424 rfl rfl ?_
  refine k_aload_n C d_L_law_425 rfl rfl ?_
  refine k_iload_n C d_L_law_426 rfl rfl ?_
  refine k_iconst C (v := 1) d_L_law_427 (by decide) ?_
  refine k_iadd C d_L_law_428 ?_
  refine k_sld C hX hbl hbA rfl d_L_law_429 (q := i + 1) (nI_add i 1) (by omega) (by omega) ?_
  refine l_cm X (as := [.inl (xs (i + 1))]) d_L_law_430 (c_M_ring l bm dA D h (xs (i + 1)) kk.mI) cv_L_59 rfl rfl ⟨by decide, by decide⟩ hn rfl rfl (Nat.le_of_ble_eq_true rfl) ?_
  exact k_icmp_eq C (tgt := 750) d_L_law_433 (by decide) (fun _ => K9 _ _ (kk.m0)) (fun c9 => absurd ((ring_ok kk (xs (i + 1)))) c9)
set_option maxHeartbeats 4000000 in
theorem law_c8 {l : Launch} {bx bm : Nat → Nat → Nat} {dA : Nat → ClassId} {D : va_G} {b L : Nat} {xs : Nat → Int32} {x : kCx} {nn : Nat × Nat} {Q : State → Prop} {g h : kG} {tm i : Nat} (X : lIn l bx bm dA D b L xs x) (hn : nn.1 ≤ 600000 ∧ nn.2 ≤ 7302250) (hL : L ≤ 2561) (hi : i + 5 ≤ L) (kk : K tm g h) (K9 : ∀ g2 h2, K tm g2 h2 → Wk (lWd bx bm dA D) (lA x) (lAd bx bm b) x nn Q 750 (lLs i) [] (g2, h2)) : Wk (lWd bx bm dA D) (lA x) (lAd bx bm b) x nn Q 438 (lLs i) [] (g, h) := by
  have C := X.1
  have hX := X.2.2.2.2.2.2.1
  have hbl := X.2.2.2.2.2.2.2.1
  have hbA : ¬ lA x b := Nat.not_le.mpr hbl
  refine k_aload_n C d_L_law_438 rfl rfl ?_
  refine k_aload_n C d_L_law_439 rfl rfl ?_
  refine k_iload_n C d_L_law_440 rfl rfl ?_
  refine k_iconst C (v := 1) d_L_law_441 (by decide) ?_
  refine k_iadd C d_L_law_442 ?_
  refine k_sld C hX hbl hbA rfl d_L_law_443 (q := i + 1) (nI_add i 1) (by omega) (by omega) ?_
  refine l_cx X (as := [.inl (xs (i + 1))]) d_L_law_444 (c_X_waits l bx dA D g (xs (i + 1)) kk.xI) cv_L_60 rfl rfl ⟨by decide, by decide⟩ hn rfl rfl (Nat.le_of_ble_eq_true rfl) ?_
  refine k_aload_n C d_L_law_447 rfl rfl ?_
  refine k_aload_n C d_L_law_448 rfl rfl ?_
  refine k_iload_n C d_L_law_449 rfl rfl ?_
  refine k_iconst C (v := 1) d_L_law_450 (by decide) ?_
  refine k_iadd C d_L_law_451 ?_
  refine k_sld C hX hbl hbA rfl d_L_law_452 (q := i + 1) (nI_add i 1) (by omega) (by omega) ?_
  refine l_cm X (as := [.inl (xs (i + 1))]) d_L_law_453 (c_M_waits l bm dA D h (xs (i + 1)) kk.mI) cv_L_63 rfl rfl ⟨by decide, by decide⟩ hn rfl rfl (Nat.le_of_ble_eq_true rfl) ?_
  exact k_icmp_eq C (tgt := 750) d_L_law_456 (by decide) (fun _ => K9 _ _ (kk.m0)) (fun c9 => absurd ((waits_ok kk (xs (i + 1)))) c9)
set_option maxHeartbeats 4000000 in
theorem law_c9 {l : Launch} {bx bm : Nat → Nat → Nat} {dA : Nat → ClassId} {D : va_G} {b L : Nat} {xs : Nat → Int32} {x : kCx} {nn : Nat × Nat} {Q : State → Prop} {g h : kG} {tm i : Nat} (X : lIn l bx bm dA D b L xs x) (hn : nn.1 ≤ 600000 ∧ nn.2 ≤ 7302250) (hL : L ≤ 2561) (hi : i + 5 ≤ L) (kk : K tm g h) (K9 : ∀ g2 h2, K tm g2 h2 → Wk (lWd bx bm dA D) (lA x) (lAd bx bm b) x nn Q 750 (lLs i) [] (g2, h2)) : Wk (lWd bx bm dA D) (lA x) (lAd bx bm b) x nn Q 461 (lLs i) [] (g, h) := by
  have C := X.1
  have hX := X.2.2.2.2.2.2.1
  have hbl := X.2.2.2.2.2.2.2.1
  have hbA : ¬ lA x b := Nat.not_le.mpr hbl
  refine k_aload_n C d_L_law_461 rfl rfl ?_
  refine k_aload_n C d_L_law_462 rfl rfl ?_
  refine k_iload_n C d_L_law_463 rfl rfl ?_
  refine k_iconst C (v := 1) d_L_law_464 (by decide) ?_
  refine k_iadd C d_L_law_465 ?_
  refine k_sld C hX hbl hbA rfl d_L_law_466 (q := i + 1) (nI_add i 1) (by omega) (by omega) ?_
  refine l_cx X (as := [.inl (xs (i + 1))]) d_L_law_467 (c_X_fresh l bx dA D g (xs (i + 1)) kk.xI) cv_L_64 rfl rfl ⟨by decide, by decide⟩ hn rfl rfl (Nat.le_of_ble_eq_true rfl) ?_
  refine k_aload_n C d_L_law_470 rfl rfl ?_
  refine k_aload_n C d_L_law_471 rfl rfl ?_
  refine k_iload_n C d_L_law_472 rfl rfl ?_
  refine k_iconst C (v := 1) d_L_law_473 (by decide) ?_
  refine k_iadd C d_L_law_474 ?_
  refine k_sld C hX hbl hbA rfl d_L_law_475 (q := i + 1) (nI_add i 1) (by omega) (by omega) ?_
  refine l_cm X (as := [.inl (xs (i + 1))]) d_L_law_476 (c_M_fresh l bm dA D h (xs (i + 1)) kk.mJ) cv_L_68 rfl rfl ⟨by decide, by decide⟩ hn rfl rfl (Nat.le_of_ble_eq_true rfl) ?_
  exact k_icmp_eq C (tgt := 750) d_L_law_479 (by decide) (fun _ => K9 _ _ ((fresh_ok kk (xs (i + 1))).2)) (fun c9 => absurd ((fresh_ok kk (xs (i + 1))).1) c9)
set_option maxHeartbeats 4000000 in
theorem law_c10 {l : Launch} {bx bm : Nat → Nat → Nat} {dA : Nat → ClassId} {D : va_G} {b L : Nat} {xs : Nat → Int32} {x : kCx} {nn : Nat × Nat} {Q : State → Prop} {g h : kG} {tm i : Nat} (X : lIn l bx bm dA D b L xs x) (hn : nn.1 ≤ 600000 ∧ nn.2 ≤ 7302250) (hL : L ≤ 2561) (hi : i + 5 ≤ L) (kk : K tm g h) (K9 : ∀ g2 h2, K tm g2 h2 → Wk (lWd bx bm dA D) (lA x) (lAd bx bm b) x nn Q 750 (lLs i) [] (g2, h2)) : Wk (lWd bx bm dA D) (lA x) (lAd bx bm b) x nn Q 484 (lLs i) [] (g, h) := by
  have C := X.1
  have hX := X.2.2.2.2.2.2.1
  have hbl := X.2.2.2.2.2.2.2.1
  have hbA : ¬ lA x b := Nat.not_le.mpr hbl
  refine k_aload_n C d_L_law_484 rfl rfl ?_
  refine k_aload_n C d_L_law_485 rfl rfl ?_
  refine k_iload_n C d_L_law_486 rfl rfl ?_
  refine k_iconst C (v := 1) d_L_law_487 (by decide) ?_
  refine k_iadd C d_L_law_488 ?_
  refine k_sld C hX hbl hbA rfl d_L_law_489 (q := i + 1) (nI_add i 1) (by omega) (by omega) ?_
  refine k_aload_n C d_L_law_490 rfl rfl ?_
  refine k_iload_n C d_L_law_491 rfl rfl ?_
  refine k_iconst C (v := 2) d_L_law_492 (by decide) ?_
  refine k_iadd C d_L_law_493 ?_
  refine k_sld C hX hbl hbA rfl d_L_law_494 (q := i + 2) (nI_add i 2) (by omega) (by omega) ?_
  refine k_aload_n C d_L_law_495 rfl rfl ?_
  refine k_iload_n C d_L_law_496 rfl rfl ?_
  refine k_iconst C (v := 3) d_L_law_497 (by decide) ?_
  refine k_iadd C d_L_law_498 ?_
  refine k_sld C hX hbl hbA rfl d_L_law_499 (q := i + 3) (nI_add i 3) (by omega) (by omega) ?_
  refine l_cx X (as := [.inl (xs (i + 1)), .inl (xs (i + 2)), .inl (xs (i + 3))]) d_L_law_500 (c_X_kept l bx dA D g (xs (i + 1)) (xs (i + 2)) (xs (i + 3)) kk.xI) cv_L_69 rfl rfl ⟨by decide, by decide⟩ hn rfl rfl (Nat.le_of_ble_eq_true rfl) ?_
  refine k_aload_n C d_L_law_503 rfl rfl ?_
  refine k_aload_n C d_L_law_504 rfl rfl ?_
  refine k_iload_n C d_L_law_505 rfl rfl ?_
  refine k_iconst C (v := 1) d_L_law_506 (by decide) ?_
  refine k_iadd C d_L_law_507 ?_
  refine k_sld C hX hbl hbA rfl d_L_law_508 (q := i + 1) (nI_add i 1) (by omega) (by omega) ?_
  refine k_aload_n C d_L_law_509 rfl rfl ?_
  refine k_iload_n C d_L_law_510 rfl rfl ?_
  refine k_iconst C (v := 2) d_L_law_511 (by decide) ?_
  refine k_iadd C d_L_law_512 ?_
  refine k_sld C hX hbl hbA rfl d_L_law_513 (q := i + 2) (nI_add i 2) (by omega) (by omega) ?_
  refine k_aload_n C d_L_law_514 rfl rfl ?_
  refine k_iload_n C d_L_law_515 rfl rfl ?_
  refine k_iconst C (v := 3) d_L_law_516 (by decide) ?_
  refine k_iadd C d_L_law_517 ?_
  refine k_sld C hX hbl hbA rfl d_L_law_518 (q := i + 3) (nI_add i 3) (by omega) (by omega) ?_
  refine l_cm X (as := [.inl (xs (i + 1)), .inl (xs (i + 2)), .inl (xs (i + 3))]) d_L_law_519 (c_M_kept l bm dA D h (xs (i + 1)) (xs (i + 2)) (xs (i + 3)) kk.mI) cv_L_73 rfl rfl ⟨by decide, by decide⟩ hn rfl rfl (Nat.le_of_ble_eq_true rfl) ?_
  exact k_icmp_eq C (tgt := 750) d_L_law_522 (by decide) (fun _ => K9 _ _ (kk.m0)) (fun c9 => absurd ((kept_ok kk (xs (i + 1)) (xs (i + 2)) (xs (i + 3)))) c9)
set_option maxHeartbeats 4000000 in
theorem law_c11 {l : Launch} {bx bm : Nat → Nat → Nat} {dA : Nat → ClassId} {D : va_G} {b L : Nat} {xs : Nat → Int32} {x : kCx} {nn : Nat × Nat} {Q : State → Prop} {g h : kG} {tm i : Nat} (X : lIn l bx bm dA D b L xs x) (hn : nn.1 ≤ 600000 ∧ nn.2 ≤ 7302250) (hL : L ≤ 2561) (hi : i + 5 ≤ L) (kk : K tm g h) (K9 : ∀ g2 h2, K tm g2 h2 → Wk (lWd bx bm dA D) (lA x) (lAd bx bm b) x nn Q 750 (lLs i) [] (g2, h2)) : Wk (lWd bx bm dA D) (lA x) (lAd bx bm b) x nn Q 527 (lLs i) [] (g, h) := by
  have C := X.1
  have hX := X.2.2.2.2.2.2.1
  have hbl := X.2.2.2.2.2.2.2.1
  have hbA : ¬ lA x b := Nat.not_le.mpr hbl
  refine k_aload_n C d_L_law_527 rfl rfl ?_
  refine k_aload_n C d_L_law_528 rfl rfl ?_
  refine k_iload_n C d_L_law_529 rfl rfl ?_
  refine k_iconst C (v := 1) d_L_law_530 (by decide) ?_
  refine k_iadd C d_L_law_531 ?_
  refine k_sld C hX hbl hbA rfl d_L_law_532 (q := i + 1) (nI_add i 1) (by omega) (by omega) ?_
  refine l_cx X (as := [.inl (xs (i + 1))]) d_L_law_533 (c_X_unused l bx dA D g (xs (i + 1)) kk.xI) cv_L_74 rfl rfl ⟨by decide, by decide⟩ hn rfl rfl (Nat.le_of_ble_eq_true rfl) ?_
  refine k_aload_n C d_L_law_536 rfl rfl ?_
  refine k_aload_n C d_L_law_537 rfl rfl ?_
  refine k_iload_n C d_L_law_538 rfl rfl ?_
  refine k_iconst C (v := 1) d_L_law_539 (by decide) ?_
  refine k_iadd C d_L_law_540 ?_
  refine k_sld C hX hbl hbA rfl d_L_law_541 (q := i + 1) (nI_add i 1) (by omega) (by omega) ?_
  refine l_cm X (as := [.inl (xs (i + 1))]) d_L_law_542 (c_M_unused l bm dA D h (xs (i + 1)) kk.mI) cv_L_77 rfl rfl ⟨by decide, by decide⟩ hn rfl rfl (Nat.le_of_ble_eq_true rfl) ?_
  exact k_icmp_eq C (tgt := 750) d_L_law_545 (by decide) (fun _ => K9 _ _ (kk.m0)) (fun c9 => absurd ((unused_ok kk (xs (i + 1)))) c9)
set_option maxHeartbeats 4000000 in
theorem law_c12 {l : Launch} {bx bm : Nat → Nat → Nat} {dA : Nat → ClassId} {D : va_G} {b L : Nat} {xs : Nat → Int32} {x : kCx} {nn : Nat × Nat} {Q : State → Prop} {g h : kG} {tm i : Nat} (X : lIn l bx bm dA D b L xs x) (hn : nn.1 ≤ 600000 ∧ nn.2 ≤ 7302250) (hL : L ≤ 2561) (hi : i + 5 ≤ L) (kk : K tm g h) (K9 : ∀ g2 h2, K tm g2 h2 → Wk (lWd bx bm dA D) (lA x) (lAd bx bm b) x nn Q 750 (lLs i) [] (g2, h2)) : Wk (lWd bx bm dA D) (lA x) (lAd bx bm b) x nn Q 550 (lLs i) [] (g, h) := by
  have C := X.1
  have hX := X.2.2.2.2.2.2.1
  have hbl := X.2.2.2.2.2.2.2.1
  have hbA : ¬ lA x b := Nat.not_le.mpr hbl
  refine k_aload_n C d_L_law_550 rfl rfl ?_
  refine k_aload_n C d_L_law_551 rfl rfl ?_
  refine k_iload_n C d_L_law_552 rfl rfl ?_
  refine k_iconst C (v := 1) d_L_law_553 (by decide) ?_
  refine k_iadd C d_L_law_554 ?_
  refine k_sld C hX hbl hbA rfl d_L_law_555 (q := i + 1) (nI_add i 1) (by omega) (by omega) ?_
  refine l_cx X (as := [.inl (xs (i + 1))]) d_L_law_556 (c_X_digest l bx dA D g (xs (i + 1)) kk.xI) cv_L_78 rfl rfl ⟨by decide, by decide⟩ hn rfl rfl (Nat.le_of_ble_eq_true rfl) ?_
  refine k_aload_n C d_L_law_559 rfl rfl ?_
  refine k_aload_n C d_L_law_560 rfl rfl ?_
  refine k_iload_n C d_L_law_561 rfl rfl ?_
  refine k_iconst C (v := 1) d_L_law_562 (by decide) ?_
  refine k_iadd C d_L_law_563 ?_
  refine k_sld C hX hbl hbA rfl d_L_law_564 (q := i + 1) (nI_add i 1) (by omega) (by omega) ?_
  refine l_cm X (as := [.inl (xs (i + 1))]) d_L_law_565 (c_M_digest l bm dA D h (xs (i + 1)) kk.mI) cv_L_82 rfl rfl ⟨by decide, by decide⟩ hn rfl rfl (Nat.le_of_ble_eq_true rfl) ?_
  refine k_lcmp C d_L_law_568 ?_
  exact k_if_eq C (tgt := 750) d_L_law_569 (by decide) (fun _ => K9 _ _ (kk.m0)) (fun c9 => absurd ((lg0 _ _).mpr ((digest_ok kk (xs (i + 1))))) c9)
set_option maxHeartbeats 4000000 in
theorem law_c13 {l : Launch} {bx bm : Nat → Nat → Nat} {dA : Nat → ClassId} {D : va_G} {b L : Nat} {xs : Nat → Int32} {x : kCx} {nn : Nat × Nat} {Q : State → Prop} {g h : kG} {tm i : Nat} (X : lIn l bx bm dA D b L xs x) (hn : nn.1 ≤ 600000 ∧ nn.2 ≤ 7302250) (hL : L ≤ 2561) (hi : i + 5 ≤ L) (kk : K tm g h) (K9 : ∀ g2 h2, K tm g2 h2 → Wk (lWd bx bm dA D) (lA x) (lAd bx bm b) x nn Q 750 (lLs i) [] (g2, h2)) : Wk (lWd bx bm dA D) (lA x) (lAd bx bm b) x nn Q 574 (lLs i) [] (g, h) := by
  have C := X.1
  have hX := X.2.2.2.2.2.2.1
  have hbl := X.2.2.2.2.2.2.2.1
  have hbA : ¬ lA x b := Nat.not_le.mpr hbl
  refine k_aload_n C d_L_law_574 rfl rfl ?_
  refine k_aload_n C d_L_law_575 rfl rfl ?_
  refine k_iload_n C d_L_law_576 rfl rfl ?_
  refine k_iconst C (v := 1) d_L_law_577 (by decide) ?_
  refine k_iadd C d_L_law_578 ?_
  refine k_sld C hX hbl hbA rfl d_L_law_579 (q := i + 1) (nI_add i 1) (by omega) (by omega) ?_
  refine k_aload_n C d_L_law_580 rfl rfl ?_
  refine k_iload_n C d_L_law_581 rfl rfl ?_
  refine k_iconst C (v := 2) d_L_law_582 (by decide) ?_
  refine k_iadd C d_L_law_583 ?_
  refine k_sld C hX hbl hbA rfl d_L_law_584 (q := i + 2) (nI_add i 2) (by omega) (by omega) ?_
  refine l_cx X (as := [.inl (xs (i + 1)), .inl (xs (i + 2))]) d_L_law_585 (c_X_counted l bx dA D g (xs (i + 1)) (xs (i + 2)) kk.xI) cv_L_83 rfl rfl ⟨by decide, by decide⟩ hn rfl rfl (Nat.le_of_ble_eq_true rfl) ?_
  refine k_aload_n C d_L_law_588 rfl rfl ?_
  refine k_aload_n C d_L_law_589 rfl rfl ?_
  refine k_iload_n C d_L_law_590 rfl rfl ?_
  refine k_iconst C (v := 1) d_L_law_591 (by decide) ?_
  refine k_iadd C d_L_law_592 ?_
  refine k_sld C hX hbl hbA rfl d_L_law_593 (q := i + 1) (nI_add i 1) (by omega) (by omega) ?_
  refine k_aload_n C d_L_law_594 rfl rfl ?_
  refine k_iload_n C d_L_law_595 rfl rfl ?_
  refine k_iconst C (v := 2) d_L_law_596 (by decide) ?_
  refine k_iadd C d_L_law_597 ?_
  refine k_sld C hX hbl hbA rfl d_L_law_598 (q := i + 2) (nI_add i 2) (by omega) (by omega) ?_
  refine l_cm X (as := [.inl (xs (i + 1)), .inl (xs (i + 2))]) d_L_law_599 (c_M_counted l bm dA D h (xs (i + 1)) (xs (i + 2)) kk.mI) cv_L_87 rfl rfl ⟨by decide, by decide⟩ hn rfl rfl (Nat.le_of_ble_eq_true rfl) ?_
  exact k_icmp_eq C (tgt := 750) d_L_law_602 (by decide) (fun _ => K9 _ _ (kk.m0)) (fun c9 => absurd ((counted_ok kk (xs (i + 1)) (xs (i + 2)))) c9)
set_option maxHeartbeats 4000000 in
theorem law_c14 {l : Launch} {bx bm : Nat → Nat → Nat} {dA : Nat → ClassId} {D : va_G} {b L : Nat} {xs : Nat → Int32} {x : kCx} {nn : Nat × Nat} {Q : State → Prop} {g h : kG} {tm i : Nat} (X : lIn l bx bm dA D b L xs x) (hn : nn.1 ≤ 600000 ∧ nn.2 ≤ 7302250) (hL : L ≤ 2561) (hi : i + 5 ≤ L) (kk : K tm g h) (K9 : ∀ g2 h2, K tm g2 h2 → Wk (lWd bx bm dA D) (lA x) (lAd bx bm b) x nn Q 750 (lLs i) [] (g2, h2)) : Wk (lWd bx bm dA D) (lA x) (lAd bx bm b) x nn Q 607 (lLs i) [] (g, h) := by
  have C := X.1
  have hX := X.2.2.2.2.2.2.1
  have hbl := X.2.2.2.2.2.2.2.1
  have hbA : ¬ lA x b := Nat.not_le.mpr hbl
  refine k_aload_n C d_L_law_607 rfl rfl ?_
  refine k_aload_n C d_L_law_608 rfl rfl ?_
  refine k_iload_n C d_L_law_609 rfl rfl ?_
  refine k_iconst C (v := 1) d_L_law_610 (by decide) ?_
  refine k_iadd C d_L_law_611 ?_
  refine k_sld C hX hbl hbA rfl d_L_law_612 (q := i + 1) (nI_add i 1) (by omega) (by omega) ?_
  refine l_cx X (as := [.inl (xs (i + 1))]) d_L_law_613 (c_X_members l bx dA D g (xs (i + 1)) kk.xI) cv_L_88 rfl rfl ⟨by decide, by decide⟩ hn rfl rfl (Nat.le_of_ble_eq_true rfl) ?_
  refine k_aload_n C d_L_law_616 rfl rfl ?_
  refine k_aload_n C d_L_law_617 rfl rfl ?_
  refine k_iload_n C d_L_law_618 rfl rfl ?_
  refine k_iconst C (v := 1) d_L_law_619 (by decide) ?_
  refine k_iadd C d_L_law_620 ?_
  refine k_sld C hX hbl hbA rfl d_L_law_621 (q := i + 1) (nI_add i 1) (by omega) (by omega) ?_
  refine l_cm X (as := [.inl (xs (i + 1))]) d_L_law_622 (c_M_members l bm dA D h (xs (i + 1)) kk.mI) cv_L_91 rfl rfl ⟨by decide, by decide⟩ hn rfl rfl (Nat.le_of_ble_eq_true rfl) ?_
  exact k_icmp_eq C (tgt := 750) d_L_law_625 (by decide) (fun _ => K9 _ _ (kk.m0)) (fun c9 => absurd ((members_ok kk (xs (i + 1)))) c9)
set_option maxHeartbeats 4000000 in
theorem law_c15 {l : Launch} {bx bm : Nat → Nat → Nat} {dA : Nat → ClassId} {D : va_G} {b L : Nat} {xs : Nat → Int32} {x : kCx} {nn : Nat × Nat} {Q : State → Prop} {g h : kG} {tm i : Nat} (X : lIn l bx bm dA D b L xs x) (hn : nn.1 ≤ 600000 ∧ nn.2 ≤ 7302250) (hL : L ≤ 2561) (hi : i + 5 ≤ L) (kk : K tm g h) (K9 : ∀ g2 h2, K tm g2 h2 → Wk (lWd bx bm dA D) (lA x) (lAd bx bm b) x nn Q 750 (lLs i) [] (g2, h2)) : Wk (lWd bx bm dA D) (lA x) (lAd bx bm b) x nn Q 630 (lLs i) [] (g, h) := by
  have C := X.1
  have hX := X.2.2.2.2.2.2.1
  have hbl := X.2.2.2.2.2.2.2.1
  have hbA : ¬ lA x b := Nat.not_le.mpr hbl
  refine k_aload_n C d_L_law_630 rfl rfl ?_
  refine k_aload_n C d_L_law_631 rfl rfl ?_
  refine k_iload_n C d_L_law_632 rfl rfl ?_
  refine k_iconst C (v := 1) d_L_law_633 (by decide) ?_
  refine k_iadd C d_L_law_634 ?_
  refine k_sld C hX hbl hbA rfl d_L_law_635 (q := i + 1) (nI_add i 1) (by omega) (by omega) ?_
  refine k_aload_n C d_L_law_636 rfl rfl ?_
  refine k_iload_n C d_L_law_637 rfl rfl ?_
  refine k_iconst C (v := 2) d_L_law_638 (by decide) ?_
  refine k_iadd C d_L_law_639 ?_
  refine k_sld C hX hbl hbA rfl d_L_law_640 (q := i + 2) (nI_add i 2) (by omega) (by omega) ?_
  refine k_i2l C d_L_law_641 ?_
  refine k_bipush C (v := 32) d_L_law_642 (by decide) ?_
  refine k_lshl C d_L_law_644 rfl ?_
  refine k_aload_n C d_L_law_645 rfl rfl ?_
  refine k_iload_n C d_L_law_646 rfl rfl ?_
  refine k_iconst C (v := 3) d_L_law_647 (by decide) ?_
  refine k_iadd C d_L_law_648 ?_
  refine k_sld C hX hbl hbA rfl d_L_law_649 (q := i + 3) (nI_add i 3) (by omega) (by omega) ?_
  refine k_i2l C d_L_law_650 ?_
  refine k_ldc2 C (v := 4294967295) d_L_law_651 (by decide +kernel) ?_
  refine k_land C d_L_law_654 ?_
  refine k_lor C d_L_law_655 ?_
  refine k_topl (fun d ed => ?_)
  refine l_cx X (as := [.inl (xs (i + 1)), .inr (.inl d)]) d_L_law_656 (c_X_mapping l bx dA D g (xs (i + 1)) d kk.xI) cv_L_92 rfl rfl ⟨by decide, by decide⟩ hn rfl rfl (Nat.le_of_ble_eq_true rfl) ?_
  refine k_aload_n C d_L_law_659 rfl rfl ?_
  refine k_aload_n C d_L_law_660 rfl rfl ?_
  refine k_iload_n C d_L_law_661 rfl rfl ?_
  refine k_iconst C (v := 1) d_L_law_662 (by decide) ?_
  refine k_iadd C d_L_law_663 ?_
  refine k_sld C hX hbl hbA rfl d_L_law_664 (q := i + 1) (nI_add i 1) (by omega) (by omega) ?_
  refine k_aload_n C d_L_law_665 rfl rfl ?_
  refine k_iload_n C d_L_law_666 rfl rfl ?_
  refine k_iconst C (v := 2) d_L_law_667 (by decide) ?_
  refine k_iadd C d_L_law_668 ?_
  refine k_sld C hX hbl hbA rfl d_L_law_669 (q := i + 2) (nI_add i 2) (by omega) (by omega) ?_
  refine k_i2l C d_L_law_670 ?_
  refine k_bipush C (v := 32) d_L_law_671 (by decide) ?_
  refine k_lshl C d_L_law_673 rfl ?_
  refine k_aload_n C d_L_law_674 rfl rfl ?_
  refine k_iload_n C d_L_law_675 rfl rfl ?_
  refine k_iconst C (v := 3) d_L_law_676 (by decide) ?_
  refine k_iadd C d_L_law_677 ?_
  refine k_sld C hX hbl hbA rfl d_L_law_678 (q := i + 3) (nI_add i 3) (by omega) (by omega) ?_
  refine k_i2l C d_L_law_679 ?_
  refine k_ldc2 C (v := 4294967295) d_L_law_680 (by decide +kernel) ?_
  refine k_land C d_L_law_683 ?_
  refine k_lor C d_L_law_684 ?_
  refine k_topl (fun d2 ed2 => ?_)
  rw [show d2 = d from ed2.trans ed.symm]
  refine l_cm X (as := [.inl (xs (i + 1)), .inr (.inl d)]) d_L_law_685 (c_M_mapping l bm dA D h (xs (i + 1)) d kk.mI) cv_L_96 rfl rfl ⟨by decide, by decide⟩ hn rfl rfl (Nat.le_of_ble_eq_true rfl) ?_
  exact k_icmp_eq C (tgt := 750) d_L_law_688 (by decide) (fun _ => K9 _ _ ((mapping_ok kk (xs (i + 1)) d).2)) (fun c9 => absurd ((mapping_ok kk (xs (i + 1)) d).1) c9)
set_option maxHeartbeats 4000000 in
theorem law_c16 {l : Launch} {bx bm : Nat → Nat → Nat} {dA : Nat → ClassId} {D : va_G} {b L : Nat} {xs : Nat → Int32} {x : kCx} {nn : Nat × Nat} {Q : State → Prop} {g h : kG} {tm i : Nat} (X : lIn l bx bm dA D b L xs x) (hn : nn.1 ≤ 600000 ∧ nn.2 ≤ 7302250) (hL : L ≤ 2561) (hi : i + 5 ≤ L) (kk : K tm g h) (K9 : ∀ g2 h2, K tm g2 h2 → Wk (lWd bx bm dA D) (lA x) (lAd bx bm b) x nn Q 750 (lLs i) [] (g2, h2)) : Wk (lWd bx bm dA D) (lA x) (lAd bx bm b) x nn Q 693 (lLs i) [] (g, h) := by
  have C := X.1
  have hX := X.2.2.2.2.2.2.1
  have hbl := X.2.2.2.2.2.2.2.1
  have hbA : ¬ lA x b := Nat.not_le.mpr hbl
  refine k_aload_n C d_L_law_693 rfl rfl ?_
  refine k_aload_n C d_L_law_694 rfl rfl ?_
  refine k_iload_n C d_L_law_695 rfl rfl ?_
  refine k_iconst C (v := 1) d_L_law_696 (by decide) ?_
  refine k_iadd C d_L_law_697 ?_
  refine k_sld C hX hbl hbA rfl d_L_law_698 (q := i + 1) (nI_add i 1) (by omega) (by omega) ?_
  refine l_cx X (as := [.inl (xs (i + 1))]) d_L_law_699 (c_X_map l bx dA D g (xs (i + 1)) kk.xI (xTree_w _ _)) cv_L_97 rfl rfl ⟨by decide, by decide⟩ hn rfl rfl (Nat.le_of_ble_eq_true rfl) ?_
  refine k_aload_n C d_L_law_702 rfl rfl ?_
  refine k_aload_n C d_L_law_703 rfl rfl ?_
  refine k_iload_n C d_L_law_704 rfl rfl ?_
  refine k_iconst C (v := 1) d_L_law_705 (by decide) ?_
  refine k_iadd C d_L_law_706 ?_
  refine k_sld C hX hbl hbA rfl d_L_law_707 (q := i + 1) (nI_add i 1) (by omega) (by omega) ?_
  refine l_cm X (as := [.inl (xs (i + 1))]) d_L_law_708 (c_M_map l bm dA D h (xs (i + 1)) kk.mJ (mMof_w _ _)) cv_L_100 rfl rfl ⟨by decide, by decide⟩ hn rfl rfl (Nat.le_of_ble_eq_true rfl) ?_
  exact k_icmp_eq C (tgt := 750) d_L_law_711 (by decide) (fun _ => K9 _ _ ((map_ok kk (xs (i + 1))).2)) (fun c9 => absurd ((map_ok kk (xs (i + 1))).1) c9)
set_option maxHeartbeats 4000000 in
theorem law_c17 {l : Launch} {bx bm : Nat → Nat → Nat} {dA : Nat → ClassId} {D : va_G} {b L : Nat} {xs : Nat → Int32} {x : kCx} {nn : Nat × Nat} {Q : State → Prop} {g h : kG} {tm i : Nat} (X : lIn l bx bm dA D b L xs x) (hn : nn.1 ≤ 600000 ∧ nn.2 ≤ 7302250) (hL : L ≤ 2561) (hi : i + 5 ≤ L) (kk : K tm g h) (K9 : ∀ g2 h2, K tm g2 h2 → Wk (lWd bx bm dA D) (lA x) (lAd bx bm b) x nn Q 750 (lLs i) [] (g2, h2)) : Wk (lWd bx bm dA D) (lA x) (lAd bx bm b) x nn Q 716 (lLs i) [] (g, h) := by
  have C := X.1
  have hX := X.2.2.2.2.2.2.1
  have hbl := X.2.2.2.2.2.2.2.1
  have hbA : ¬ lA x b := Nat.not_le.mpr hbl
  refine k_aload_n C d_L_law_716 rfl rfl ?_
  refine k_aload_n C d_L_law_717 rfl rfl ?_
  refine k_iload_n C d_L_law_718 rfl rfl ?_
  refine k_iconst C (v := 1) d_L_law_719 (by decide) ?_
  refine k_iadd C d_L_law_720 ?_
  refine k_sld C hX hbl hbA rfl d_L_law_721 (q := i + 1) (nI_add i 1) (by omega) (by omega) ?_
  refine k_aload_n C d_L_law_722 rfl rfl ?_
  refine k_iload_n C d_L_law_723 rfl rfl ?_
  refine k_iconst C (v := 2) d_L_law_724 (by decide) ?_
  refine k_iadd C d_L_law_725 ?_
  refine k_sld C hX hbl hbA rfl d_L_law_726 (q := i + 2) (nI_add i 2) (by omega) (by omega) ?_
  refine l_cx X (as := [.inl (xs (i + 1)), .inl (xs (i + 2))]) d_L_law_727 (c_X_result l bx dA D g (xs (i + 1)) (xs (i + 2)) kk.xI) cv_L_101 rfl rfl ⟨by decide, by decide⟩ hn rfl rfl (Nat.le_of_ble_eq_true rfl) ?_
  refine k_aload_n C d_L_law_730 rfl rfl ?_
  refine k_aload_n C d_L_law_731 rfl rfl ?_
  refine k_iload_n C d_L_law_732 rfl rfl ?_
  refine k_iconst C (v := 1) d_L_law_733 (by decide) ?_
  refine k_iadd C d_L_law_734 ?_
  refine k_sld C hX hbl hbA rfl d_L_law_735 (q := i + 1) (nI_add i 1) (by omega) (by omega) ?_
  refine k_aload_n C d_L_law_736 rfl rfl ?_
  refine k_iload_n C d_L_law_737 rfl rfl ?_
  refine k_iconst C (v := 2) d_L_law_738 (by decide) ?_
  refine k_iadd C d_L_law_739 ?_
  refine k_sld C hX hbl hbA rfl d_L_law_740 (q := i + 2) (nI_add i 2) (by omega) (by omega) ?_
  refine l_cm X (as := [.inl (xs (i + 1)), .inl (xs (i + 2))]) d_L_law_741 (c_M_result l bm dA D h (xs (i + 1)) (xs (i + 2)) kk.mI) cv_L_105 rfl rfl ⟨by decide, by decide⟩ hn rfl rfl (Nat.le_of_ble_eq_true rfl) ?_
  refine k_lcmp C d_L_law_744 ?_
  exact k_if_eq C (tgt := 750) d_L_law_745 (by decide) (fun _ => K9 _ _ (kk.m0)) (fun c9 => absurd ((lg0 _ _).mpr ((result_ok kk (xs (i + 1)) (xs (i + 2))))) c9)
