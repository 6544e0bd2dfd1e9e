theorem cs_L_law_13 : zCV RL wsL_law 13 8 yX8_set wsX8_set cX8_set 3 (some .int) rm_L_law rm_X8_set 2 := ⟨_, _, gL_law_X8_set, rfl, ⟨by decide +kernel, by decide +kernel, by decide +kernel⟩, ⟨Nat.le_of_ble_eq_true rfl, Nat.le_of_ble_eq_true rfl⟩, rfl, rfl⟩
theorem cs_L_law_17 : zCV RL wsL_law 17 9 yX9_set wsX9_set cX9_set 4 (some .int) rm_L_law rm_X9_set 2 := ⟨_, _, gL_law_X9_set, rfl, ⟨by decide +kernel, by decide +kernel, by decide +kernel⟩, ⟨Nat.le_of_ble_eq_true rfl, Nat.le_of_ble_eq_true rfl⟩, rfl, rfl⟩
set_option maxRecDepth 100000 in
set_option maxHeartbeats 4000000 in
theorem lc_set {K : zC} {D : zD} {base : Nat} (X : GX K cL_law RL wsL_law D base rm_L_law 4) {b L : Nat} {xs : Nat → Int32} (hX : va_X b L xs (zs K) (zs K).heap) (hbl : b < (zs K).heap.size) (hbb : b < base) (hL : L ≤ 2048) {x : Nat} (hq : base ≤ x) {i : Int} (hi : 0 ≤ i ∧ i + 4 ≤ (L : Int)) {c : Nat} (hc : 4 * (c : Int) = i) {m n : Int} {H : Heap} (hW : Wld D x m n H)
    (kk : ∀ (m2 n2 : Int) (H2 : Heap), Wld D x m2 n2 H2 → G K (151 + 121 * c + 121) (17884 + 4272 * c + 4272) H2 796 [(0, .ref b), (1, .ref x), (2, .ref (x + 140)), (3, .int (J i))] []) : G K (151 + 121 * c) (17884 + 4272 * c) H 144 [(0, .ref b), (1, .ref x), (2, .ref (x + 140)), (3, .int (J i))] [] := by
  obtain ⟨sa, sl, st, ss, f, P, hb, hA, hMd, hI, hIs, hIv, hHb, hPr, hsz⟩ := hW
  obtain ⟨hO8, -, -, -, hPd8, -, hHs8, -⟩ := id hA
  have hm6 : 0 ≤ m ∧ m ≤ 6 := hHs8.2.2.2.2
  have hpd := hPd8.bd
  clear hPd8 hHs8
  obtain ⟨a1, ha1⟩ : ∃ z, sx xs (i + 1) = z := ⟨_, rfl⟩
  have ra1 : rg a1 := by rw [← ha1]; exact sx_rg xs (i + 1)
  obtain ⟨a2, ha2⟩ : ∃ z, sx xs (i + 2) = z := ⟨_, rfl⟩
  have ra2 : rg a2 := by rw [← ha2]; exact sx_rg xs (i + 2)
  refine g_aload_n (pc := 144) (pl := 1) X dL_law_144 rfl ?_
  refine g_aload_n (pc := 145) (pl := 0) X dL_law_145 rfl ?_
  refine g_iload_n (pc := 146) (pl := 3) X dL_law_146 rfl ?_
  refine g_iconst (pc := 147) X dL_law_147 ?_
  refine g_iadd (pc := 148) X dL_law_148 ?_
  refine g_sld (pc := 149) (i := i + 1) X hX hbl hbb (by omega) dL_law_149 ?_
  rw [ha1]
  refine g_aload_n (pc := 150) (pl := 0) X dL_law_150 rfl ?_
  refine g_iload_n (pc := 151) (pl := 3) X dL_law_151 rfl ?_
  refine g_iconst (pc := 152) X dL_law_152 ?_
  refine g_iadd (pc := 153) X dL_law_153 ?_
  refine g_sld (pc := 154) (i := i + 2) X hX hbl hbb (by omega) dL_law_154 ?_
  rw [ha2]
  refine gVi (pc := 155) (n2 := 151 + 121 * c + 121) (k2 := 17884 + 4272 * c + 4272) X cs_L_law_13 (c_X8_set (zl K) D base x (x + 151) m sa sl st ss f n P a1 a2 hq (by omega) hI ra1 ra2) rfl hO8 (by omega) ⟨hA, hsz⟩ rfl ⟨(by show 151 + 121 * c + 121 ≤ 600000; omega), (by show 17884 + 4272 * c + 4272 ≤ 7302250; omega)⟩ dL_law_155 (Nat.le_of_ble_eq_true rfl) rfl rfl (fun v155 H1 hp155 hs155 => ?_)
  obtain ⟨rfl, sa2, hA1, hFx⟩ := hp155
  have hMd1 := hMd.fx hFx (by omega)
  have hsz1 : x + 151 ≤ H1.size := by have := hFx.1; omega
  obtain ⟨⟨q1, q2, q3, q4, q5, hO9⟩, hNw, hPa, hSv, hPd, ⟨W, hOr⟩, hLn, ⟨T, hTk⟩⟩ := id hMd1
  refine g_aload_n (pc := 158) (pl := 2) X dL_law_158 rfl ?_
  refine g_aload_n (pc := 159) (pl := 0) X dL_law_159 rfl ?_
  refine g_iload_n (pc := 160) (pl := 3) X dL_law_160 rfl ?_
  refine g_iconst (pc := 161) X dL_law_161 ?_
  refine g_iadd (pc := 162) X dL_law_162 ?_
  refine g_sld (pc := 163) (i := i + 1) X hX hbl hbb (by omega) dL_law_163 ?_
  rw [ha1]
  refine g_aload_n (pc := 164) (pl := 0) X dL_law_164 rfl ?_
  refine g_iload_n (pc := 165) (pl := 3) X dL_law_165 rfl ?_
  refine g_iconst (pc := 166) X dL_law_166 ?_
  refine g_iadd (pc := 167) X dL_law_167 ?_
  refine g_sld (pc := 168) (i := i + 2) X hX hbl hbb (by omega) dL_law_168 ?_
  rw [ha2]
  refine gVi (pc := 169) (n2 := 151 + 121 * c + 121 + 0) (k2 := 17884 + 4272 * c + 4272 + 0) X cs_L_law_17 (c_X9_set (zl K) D base (x + 140) m n q1 q2 q3 q4 q5 f st a1 a2 (by omega) hI hm6 ra1 ra2) rfl hO9 (by omega) ⟨hO9, hNw, hPa⟩ rfl ⟨(by show 151 + 121 * c + 121 + 0 ≤ 600000; omega), (by show 17884 + 4272 * c + 4272 + 0 ≤ 7302250; omega)⟩ dL_law_169 (Nat.le_of_ble_eq_true rfl) rfl rfl (fun v169 H2 hp169 hs169 => ?_)
  obtain ⟨hv9, hO2, hNw2, hPa2, hf2⟩ := hp169
  subst hv9
  refine g_icmp_same (pc := 172) X 796 dL_law_172 (by decide) ?_
  have hFr : Fr (Iv (x + 140) (x + 151)) 0 H1 H2 := hf2.wide (by omega) (by omega)
  have hMd2 : MdAt D (x + 140) (hsN m (setR f a1 a2)) n _ (hsS m (setR f a1 a2) st f) hb ss P H2 := ⟨⟨_, _, _, _, _, hO2⟩, hNw2, hPa2, hSv.fr hf2 (by omega), hPd.fr hf2 (by omega), ⟨W, hOr.fr hf2 (by omega)⟩, hLn.fr hf2 (by omega), ⟨T, hTk.fr hf2 (by omega)⟩⟩
  have hW2 := Wld.ed (r := setR f a1 a2) hm6 hI hIs hIv hHb hPr hsz1 hA1 (hI.st a1 a2) (MEq.refl _) hMd2 hFr
  refine G.widen (n' := 151 + 121 * c + 121) (k' := 17884 + 4272 * c + 4272) (by omega) (by omega) ?_
  exact kk _ _ _ hW2

theorem cs_L_law_18 : zCV RL wsL_law 18 8 yX8_write wsX8_write cX8_write 3 (some .int) rm_L_law rm_X8_write 2 := ⟨_, _, gL_law_X8_write, rfl, ⟨by decide +kernel, by decide +kernel, by decide +kernel⟩, ⟨Nat.le_of_ble_eq_true rfl, Nat.le_of_ble_eq_true rfl⟩, rfl, rfl⟩
theorem cs_L_law_21 : zCV RL wsL_law 21 9 yX9_write wsX9_write cX9_write 4 (some .int) rm_L_law rm_X9_write 2 := ⟨_, _, gL_law_X9_write, rfl, ⟨by decide +kernel, by decide +kernel, by decide +kernel⟩, ⟨Nat.le_of_ble_eq_true rfl, Nat.le_of_ble_eq_true rfl⟩, rfl, rfl⟩
set_option maxRecDepth 100000 in
set_option maxHeartbeats 4000000 in
theorem lc_write {K : zC} {D : zD} {base : Nat} (X : GX K cL_law RL wsL_law D base rm_L_law 4) {b L : Nat} {xs : Nat → Int32} (hX : va_X b L xs (zs K) (zs K).heap) (hbl : b < (zs K).heap.size) (hbb : b < base) (hL : L ≤ 2048) {x : Nat} (hq : base ≤ x) {i : Int} (hi : 0 ≤ i ∧ i + 4 ≤ (L : Int)) {c : Nat} (hc : 4 * (c : Int) = i) {m n : Int} {H : Heap} (hW : Wld D x m n H)
    (kk : ∀ (m2 n2 : Int) (H2 : Heap), Wld D x m2 n2 H2 → G K (151 + 121 * c + 121) (17884 + 4272 * c + 4272) H2 796 [(0, .ref b), (1, .ref x), (2, .ref (x + 140)), (3, .int (J i))] []) : G K (151 + 121 * c) (17884 + 4272 * c) H 177 [(0, .ref b), (1, .ref x), (2, .ref (x + 140)), (3, .int (J i))] [] := by
  obtain ⟨sa, sl, st, ss, f, P, hb, hA, hMd, hI, hIs, hIv, hHb, hPr, hsz⟩ := hW
  obtain ⟨hO8, -, -, -, hPd8, -, hHs8, -⟩ := id hA
  have hm6 : 0 ≤ m ∧ m ≤ 6 := hHs8.2.2.2.2
  have hpd := hPd8.bd
  clear hPd8 hHs8
  obtain ⟨a1, ha1⟩ : ∃ z, sx xs (i + 1) = z := ⟨_, rfl⟩
  have ra1 : rg a1 := by rw [← ha1]; exact sx_rg xs (i + 1)
  obtain ⟨a2, ha2⟩ : ∃ z, sx xs (i + 2) = z := ⟨_, rfl⟩
  have ra2 : rg a2 := by rw [← ha2]; exact sx_rg xs (i + 2)
  refine g_aload_n (pc := 177) (pl := 1) X dL_law_177 rfl ?_
  refine g_aload_n (pc := 178) (pl := 0) X dL_law_178 rfl ?_
  refine g_iload_n (pc := 179) (pl := 3) X dL_law_179 rfl ?_
  refine g_iconst (pc := 180) X dL_law_180 ?_
  refine g_iadd (pc := 181) X dL_law_181 ?_
  refine g_sld (pc := 182) (i := i + 1) X hX hbl hbb (by omega) dL_law_182 ?_
  rw [ha1]
  refine g_aload_n (pc := 183) (pl := 0) X dL_law_183 rfl ?_
  refine g_iload_n (pc := 184) (pl := 3) X dL_law_184 rfl ?_
  refine g_iconst (pc := 185) X dL_law_185 ?_
  refine g_iadd (pc := 186) X dL_law_186 ?_
  refine g_sld (pc := 187) (i := i + 2) X hX hbl hbb (by omega) dL_law_187 ?_
  rw [ha2]
  refine gVi (pc := 188) (n2 := 151 + 121 * c + 121) (k2 := 17884 + 4272 * c + 4272) X cs_L_law_18 (c_X8_write (zl K) D base x (x + 151) m sa sl st ss f n P a1 a2 hq (by omega) hI ra1 ra2) rfl hO8 (by omega) ⟨hA, hsz⟩ rfl ⟨(by show 151 + 121 * c + 121 ≤ 600000; omega), (by show 17884 + 4272 * c + 4272 ≤ 7302250; omega)⟩ dL_law_188 (Nat.le_of_ble_eq_true rfl) rfl rfl (fun v188 H1 hp188 hs188 => ?_)
  obtain ⟨rfl, sa2, hA1, hFx⟩ := hp188
  have hMd1 := hMd.fx hFx (by omega)
  have hsz1 : x + 151 ≤ H1.size := by have := hFx.1; omega
  obtain ⟨⟨q1, q2, q3, q4, q5, hO9⟩, hNw, hPa, hSv, hPd, ⟨W, hOr⟩, hLn, ⟨T, hTk⟩⟩ := id hMd1
  refine g_aload_n (pc := 191) (pl := 2) X dL_law_191 rfl ?_
  refine g_aload_n (pc := 192) (pl := 0) X dL_law_192 rfl ?_
  refine g_iload_n (pc := 193) (pl := 3) X dL_law_193 rfl ?_
  refine g_iconst (pc := 194) X dL_law_194 ?_
  refine g_iadd (pc := 195) X dL_law_195 ?_
  refine g_sld (pc := 196) (i := i + 1) X hX hbl hbb (by omega) dL_law_196 ?_
  rw [ha1]
  refine g_aload_n (pc := 197) (pl := 0) X dL_law_197 rfl ?_
  refine g_iload_n (pc := 198) (pl := 3) X dL_law_198 rfl ?_
  refine g_iconst (pc := 199) X dL_law_199 ?_
  refine g_iadd (pc := 200) X dL_law_200 ?_
  refine g_sld (pc := 201) (i := i + 2) X hX hbl hbb (by omega) dL_law_201 ?_
  rw [ha2]
  refine gVi (pc := 202) (n2 := 151 + 121 * c + 121 + 0) (k2 := 17884 + 4272 * c + 4272 + 0) X cs_L_law_21 (c_X9_write (zl K) D base (x + 140) m n q1 q2 q3 q4 q5 f st a1 a2 (by omega) hI hm6 ra1 ra2) rfl hO9 (by omega) ⟨hO9, hNw, hPa⟩ rfl ⟨(by show 151 + 121 * c + 121 + 0 ≤ 600000; omega), (by show 17884 + 4272 * c + 4272 + 0 ≤ 7302250; omega)⟩ dL_law_202 (Nat.le_of_ble_eq_true rfl) rfl rfl (fun v202 H2 hp202 hs202 => ?_)
  obtain ⟨hv9, ⟨f2, hE2, hNw2⟩, hO2, hPa2, hf2⟩ := hp202
  subst hv9
  refine g_icmp_same (pc := 205) X 796 dL_law_205 (by decide) ?_
  have hFr : Fr (Iv (x + 140) (x + 151)) 0 H1 H2 := hf2.wide (by omega) (by omega)
  have hMd2 : MdAt D (x + 140) (hsN m (wrR f a1 a2)) n _ (hsS m (wrR f a1 a2) st f) hb ss P H2 := ⟨⟨_, _, _, _, _, hO2⟩, hNw2, hPa2, hSv.fr hf2 (by omega), hPd.fr hf2 (by omega), ⟨W, hOr.fr hf2 (by omega)⟩, hLn.fr hf2 (by omega), ⟨T, hTk.fr hf2 (by omega)⟩⟩
  have hW2 := Wld.ed (r := wrR f a1 a2) hm6 hI hIs hIv hHb hPr hsz1 hA1 (hI.wr a1 a2) hE2 hMd2 hFr
  refine G.widen (n' := 151 + 121 * c + 121) (k' := 17884 + 4272 * c + 4272) (by omega) (by omega) ?_
  exact kk _ _ _ hW2

theorem cs_L_law_22 : zCV RL wsL_law 22 8 yX8_erase wsX8_erase cX8_erase 3 (some .int) rm_L_law rm_X8_erase 2 := ⟨_, _, gL_law_X8_erase, rfl, ⟨by decide +kernel, by decide +kernel, by decide +kernel⟩, ⟨Nat.le_of_ble_eq_true rfl, Nat.le_of_ble_eq_true rfl⟩, rfl, rfl⟩
theorem cs_L_law_25 : zCV RL wsL_law 25 9 yX9_erase wsX9_erase cX9_erase 4 (some .int) rm_L_law rm_X9_erase 2 := ⟨_, _, gL_law_X9_erase, rfl, ⟨by decide +kernel, by decide +kernel, by decide +kernel⟩, ⟨Nat.le_of_ble_eq_true rfl, Nat.le_of_ble_eq_true rfl⟩, rfl, rfl⟩
set_option maxRecDepth 100000 in
set_option maxHeartbeats 4000000 in
theorem lc_erase {K : zC} {D : zD} {base : Nat} (X : GX K cL_law RL wsL_law D base rm_L_law 4) {b L : Nat} {xs : Nat → Int32} (hX : va_X b L xs (zs K) (zs K).heap) (hbl : b < (zs K).heap.size) (hbb : b < base) (hL : L ≤ 2048) {x : Nat} (hq : base ≤ x) {i : Int} (hi : 0 ≤ i ∧ i + 4 ≤ (L : Int)) {c : Nat} (hc : 4 * (c : Int) = i) {m n : Int} {H : Heap} (hW : Wld D x m n H)
    (kk : ∀ (m2 n2 : Int) (H2 : Heap), Wld D x m2 n2 H2 → G K (151 + 121 * c + 121) (17884 + 4272 * c + 4272) H2 796 [(0, .ref b), (1, .ref x), (2, .ref (x + 140)), (3, .int (J i))] []) : G K (151 + 121 * c) (17884 + 4272 * c) H 210 [(0, .ref b), (1, .ref x), (2, .ref (x + 140)), (3, .int (J i))] [] := by
  obtain ⟨sa, sl, st, ss, f, P, hb, hA, hMd, hI, hIs, hIv, hHb, hPr, hsz⟩ := hW
  obtain ⟨hO8, -, -, -, hPd8, -, hHs8, -⟩ := id hA
  have hm6 : 0 ≤ m ∧ m ≤ 6 := hHs8.2.2.2.2
  have hpd := hPd8.bd
  clear hPd8 hHs8
  obtain ⟨a1, ha1⟩ : ∃ z, sx xs (i + 1) = z := ⟨_, rfl⟩
  have ra1 : rg a1 := by rw [← ha1]; exact sx_rg xs (i + 1)
  obtain ⟨a2, ha2⟩ : ∃ z, sx xs (i + 2) = z := ⟨_, rfl⟩
  have ra2 : rg a2 := by rw [← ha2]; exact sx_rg xs (i + 2)
  refine g_aload_n (pc := 210) (pl := 1) X dL_law_210 rfl ?_
  refine g_aload_n (pc := 211) (pl := 0) X dL_law_211 rfl ?_
  refine g_iload_n (pc := 212) (pl := 3) X dL_law_212 rfl ?_
  refine g_iconst (pc := 213) X dL_law_213 ?_
  refine g_iadd (pc := 214) X dL_law_214 ?_
  refine g_sld (pc := 215) (i := i + 1) X hX hbl hbb (by omega) dL_law_215 ?_
  rw [ha1]
  refine g_aload_n (pc := 216) (pl := 0) X dL_law_216 rfl ?_
  refine g_iload_n (pc := 217) (pl := 3) X dL_law_217 rfl ?_
  refine g_iconst (pc := 218) X dL_law_218 ?_
  refine g_iadd (pc := 219) X dL_law_219 ?_
  refine g_sld (pc := 220) (i := i + 2) X hX hbl hbb (by omega) dL_law_220 ?_
  rw [ha2]
  refine gVi (pc := 221) (n2 := 151 + 121 * c + 121) (k2 := 17884 + 4272 * c + 4272) X cs_L_law_22 (c_X8_erase (zl K) D base x (x + 151) m sa sl st ss f n P a1 a2 hq (by omega) hI ra1 ra2) rfl hO8 (by omega) ⟨hA, hsz⟩ rfl ⟨(by show 151 + 121 * c + 121 ≤ 600000; omega), (by show 17884 + 4272 * c + 4272 ≤ 7302250; omega)⟩ dL_law_221 (Nat.le_of_ble_eq_true rfl) rfl rfl (fun v221 H1 hp221 hs221 => ?_)
  obtain ⟨rfl, sa2, hA1, hFx⟩ := hp221
  have hMd1 := hMd.fx hFx (by omega)
  have hsz1 : x + 151 ≤ H1.size := by have := hFx.1; omega
  obtain ⟨⟨q1, q2, q3, q4, q5, hO9⟩, hNw, hPa, hSv, hPd, ⟨W, hOr⟩, hLn, ⟨T, hTk⟩⟩ := id hMd1
  refine g_aload_n (pc := 224) (pl := 2) X dL_law_224 rfl ?_
  refine g_aload_n (pc := 225) (pl := 0) X dL_law_225 rfl ?_
  refine g_iload_n (pc := 226) (pl := 3) X dL_law_226 rfl ?_
  refine g_iconst (pc := 227) X dL_law_227 ?_
  refine g_iadd (pc := 228) X dL_law_228 ?_
  refine g_sld (pc := 229) (i := i + 1) X hX hbl hbb (by omega) dL_law_229 ?_
  rw [ha1]
  refine g_aload_n (pc := 230) (pl := 0) X dL_law_230 rfl ?_
  refine g_iload_n (pc := 231) (pl := 3) X dL_law_231 rfl ?_
  refine g_iconst (pc := 232) X dL_law_232 ?_
  refine g_iadd (pc := 233) X dL_law_233 ?_
  refine g_sld (pc := 234) (i := i + 2) X hX hbl hbb (by omega) dL_law_234 ?_
  rw [ha2]
  refine gVi (pc := 235) (n2 := 151 + 121 * c + 121 + 0) (k2 := 17884 + 4272 * c + 4272 + 0) X cs_L_law_25 (c_X9_erase (zl K) D base (x + 140) m n q1 q2 q3 q4 q5 f st a1 a2 (by omega) hI hm6 ra1 ra2) rfl hO9 (by omega) ⟨hO9, hNw, hPa⟩ rfl ⟨(by show 151 + 121 * c + 121 + 0 ≤ 600000; omega), (by show 17884 + 4272 * c + 4272 + 0 ≤ 7302250; omega)⟩ dL_law_235 (Nat.le_of_ble_eq_true rfl) rfl rfl (fun v235 H2 hp235 hs235 => ?_)
  obtain ⟨hv9, ⟨f2, hE2, hNw2⟩, hO2, hPa2, hf2⟩ := hp235
  subst hv9
  refine g_icmp_same (pc := 238) X 796 dL_law_238 (by decide) ?_
  have hFr : Fr (Iv (x + 140) (x + 151)) 0 H1 H2 := hf2.wide (by omega) (by omega)
  have hMd2 : MdAt D (x + 140) (hsN m (erR f a1 a2)) n _ (hsS m (erR f a1 a2) st f) hb ss P H2 := ⟨⟨_, _, _, _, _, hO2⟩, hNw2, hPa2, hSv.fr hf2 (by omega), hPd.fr hf2 (by omega), ⟨W, hOr.fr hf2 (by omega)⟩, hLn.fr hf2 (by omega), ⟨T, hTk.fr hf2 (by omega)⟩⟩
  have hW2 := Wld.ed (r := erR f a1 a2) hm6 hI hIs hIv hHb hPr hsz1 hA1 (hI.er a1 a2) hE2 hMd2 hFr
  refine G.widen (n' := 151 + 121 * c + 121) (k' := 17884 + 4272 * c + 4272) (by omega) (by omega) ?_
  exact kk _ _ _ hW2

theorem cs_L_law_26 : zCV RL wsL_law 26 8 yX8_move wsX8_move cX8_move 4 (some .int) rm_L_law rm_X8_move 3 := ⟨_, _, gL_law_X8_move, rfl, ⟨by decide +kernel, by decide +kernel, by decide +kernel⟩, ⟨Nat.le_of_ble_eq_true rfl, Nat.le_of_ble_eq_true rfl⟩, rfl, rfl⟩
theorem cs_L_law_30 : zCV RL wsL_law 30 9 yX9_move wsX9_move cX9_move 5 (some .int) rm_L_law rm_X9_move 3 := ⟨_, _, gL_law_X9_move, rfl, ⟨by decide +kernel, by decide +kernel, by decide +kernel⟩, ⟨Nat.le_of_ble_eq_true rfl, Nat.le_of_ble_eq_true rfl⟩, rfl, rfl⟩
set_option maxRecDepth 100000 in
set_option maxHeartbeats 4000000 in
theorem lc_move {K : zC} {D : zD} {base : Nat} (X : GX K cL_law RL wsL_law D base rm_L_law 4) {b L : Nat} {xs : Nat → Int32} (hX : va_X b L xs (zs K) (zs K).heap) (hbl : b < (zs K).heap.size) (hbb : b < base) (hL : L ≤ 2048) {x : Nat} (hq : base ≤ x) {i : Int} (hi : 0 ≤ i ∧ i + 4 ≤ (L : Int)) {c : Nat} (hc : 4 * (c : Int) = i) {m n : Int} {H : Heap} (hW : Wld D x m n H)
    (kk : ∀ (m2 n2 : Int) (H2 : Heap), Wld D x m2 n2 H2 → G K (151 + 121 * c + 121) (17884 + 4272 * c + 4272) H2 796 [(0, .ref b), (1, .ref x), (2, .ref (x + 140)), (3, .int (J i))] []) : G K (151 + 121 * c) (17884 + 4272 * c) H 243 [(0, .ref b), (1, .ref x), (2, .ref (x + 140)), (3, .int (J i))] [] := by
  obtain ⟨sa, sl, st, ss, f, P, hb, hA, hMd, hI, hIs, hIv, hHb, hPr, hsz⟩ := hW
  obtain ⟨hO8, -, -, -, hPd8, -, hHs8, -⟩ := id hA
  have hm6 : 0 ≤ m ∧ m ≤ 6 := hHs8.2.2.2.2
  have hpd := hPd8.bd
  clear hPd8 hHs8
  obtain ⟨a1, ha1⟩ : ∃ z, sx xs (i + 1) = z := ⟨_, rfl⟩
  have ra1 : rg a1 := by rw [← ha1]; exact sx_rg xs (i + 1)
  obtain ⟨a2, ha2⟩ : ∃ z, sx xs (i + 2) = z := ⟨_, rfl⟩
  have ra2 : rg a2 := by rw [← ha2]; exact sx_rg xs (i + 2)
  obtain ⟨a3, ha3⟩ : ∃ z, sx xs (i + 3) = z := ⟨_, rfl⟩
  have ra3 : rg a3 := by rw [← ha3]; exact sx_rg xs (i + 3)
  refine g_aload_n (pc := 243) (pl := 1) X dL_law_243 rfl ?_
  refine g_aload_n (pc := 244) (pl := 0) X dL_law_244 rfl ?_
  refine g_iload_n (pc := 245) (pl := 3) X dL_law_245 rfl ?_
  refine g_iconst (pc := 246) X dL_law_246 ?_
  refine g_iadd (pc := 247) X dL_law_247 ?_
  refine g_sld (pc := 248) (i := i + 1) X hX hbl hbb (by omega) dL_law_248 ?_
  rw [ha1]
  refine g_aload_n (pc := 249) (pl := 0) X dL_law_249 rfl ?_
  refine g_iload_n (pc := 250) (pl := 3) X dL_law_250 rfl ?_
  refine g_iconst (pc := 251) X dL_law_251 ?_
  refine g_iadd (pc := 252) X dL_law_252 ?_
  refine g_sld (pc := 253) (i := i + 2) X hX hbl hbb (by omega) dL_law_253 ?_
  rw [ha2]
  refine g_aload_n (pc := 254) (pl := 0) X dL_law_254 rfl ?_
  refine g_iload_n (pc := 255) (pl := 3) X dL_law_255 rfl ?_
  refine g_iconst (pc := 256) X dL_law_256 ?_
  refine g_iadd (pc := 257) X dL_law_257 ?_
  refine g_sld (pc := 258) (i := i + 3) X hX hbl hbb (by omega) dL_law_258 ?_
  rw [ha3]
  refine gVi (pc := 259) (n2 := 151 + 121 * c + 121) (k2 := 17884 + 4272 * c + 4272) X cs_L_law_26 (c_X8_move (zl K) D base x (x + 151) m sa sl st ss f n P a1 a2 a3 hq (by omega) hI ra1 ra2 ra3) rfl hO8 (by omega) ⟨hA, hsz⟩ rfl ⟨(by show 151 + 121 * c + 121 ≤ 600000; omega), (by show 17884 + 4272 * c + 4272 ≤ 7302250; omega)⟩ dL_law_259 (Nat.le_of_ble_eq_true rfl) rfl rfl (fun v259 H1 hp259 hs259 => ?_)
  obtain ⟨rfl, sa2, hA1, hFx⟩ := hp259
  have hMd1 := hMd.fx hFx (by omega)
  have hsz1 : x + 151 ≤ H1.size := by have := hFx.1; omega
  obtain ⟨⟨q1, q2, q3, q4, q5, hO9⟩, hNw, hPa, hSv, hPd, ⟨W, hOr⟩, hLn, ⟨T, hTk⟩⟩ := id hMd1
  refine g_aload_n (pc := 262) (pl := 2) X dL_law_262 rfl ?_
  refine g_aload_n (pc := 263) (pl := 0) X dL_law_263 rfl ?_
  refine g_iload_n (pc := 264) (pl := 3) X dL_law_264 rfl ?_
  refine g_iconst (pc := 265) X dL_law_265 ?_
  refine g_iadd (pc := 266) X dL_law_266 ?_
  refine g_sld (pc := 267) (i := i + 1) X hX hbl hbb (by omega) dL_law_267 ?_
  rw [ha1]
  refine g_aload_n (pc := 268) (pl := 0) X dL_law_268 rfl ?_
  refine g_iload_n (pc := 269) (pl := 3) X dL_law_269 rfl ?_
  refine g_iconst (pc := 270) X dL_law_270 ?_
  refine g_iadd (pc := 271) X dL_law_271 ?_
  refine g_sld (pc := 272) (i := i + 2) X hX hbl hbb (by omega) dL_law_272 ?_
  rw [ha2]
  refine g_aload_n (pc := 273) (pl := 0) X dL_law_273 rfl ?_
  refine g_iload_n (pc := 274) (pl := 3) X dL_law_274 rfl ?_
  refine g_iconst (pc := 275) X dL_law_275 ?_
  refine g_iadd (pc := 276) X dL_law_276 ?_
  refine g_sld (pc := 277) (i := i + 3) X hX hbl hbb (by omega) dL_law_277 ?_
  rw [ha3]
  refine gVi (pc := 278) (n2 := 151 + 121 * c + 121 + 0) (k2 := 17884 + 4272 * c + 4272 + 0) X cs_L_law_30 (c_X9_move (zl K) D base (x + 140) m n q1 q2 q3 q4 q5 f st T a1 a2 a3 (by omega) hI hm6 ra1 ra2 ra3) rfl hO9 (by omega) ⟨hO9, hNw, hPa, hTk⟩ rfl ⟨(by show 151 + 121 * c + 121 + 0 ≤ 600000; omega), (by show 17884 + 4272 * c + 4272 + 0 ≤ 7302250; omega)⟩ dL_law_278 (Nat.le_of_ble_eq_true rfl) rfl rfl (fun v278 H2 hp278 hs278 => ?_)
  obtain ⟨hv9, ⟨f2, hE2, hNw2⟩, hE9, hPa2, hTk2, hu2⟩ := hp278
  subst hv9
  refine g_icmp_same (pc := 281) X 796 dL_law_281 (by decide) ?_
  have hFr : Fr (Iv (x + 140) (x + 151)) 0 H1 H2 := hu2.unI (by omega)
  obtain ⟨Hm, g1, g2⟩ := hu2.part
  have hMd2 : MdAt D (x + 140) (hsN m (mvR f a1 a2 a3)) n _ (hsS m (mvR f a1 a2 a3) st f) hb ss P H2 := ⟨hE9, hNw2, hPa2, (hSv.fr g1 (by omega)).fr g2 (by omega), (hPd.fr g1 (by omega)).fr g2 (by omega), ⟨W, (hOr.fr g1 (by omega)).fr g2 (by omega)⟩, (hLn.fr g1 (by omega)).fr g2 (by omega), hTk2⟩
  have hW2 := Wld.ed (r := mvR f a1 a2 a3) hm6 hI hIs hIv hHb hPr hsz1 hA1 (hI.mvs a1 a2 a3) hE2 hMd2 hFr
  refine G.widen (n' := 151 + 121 * c + 121) (k' := 17884 + 4272 * c + 4272) (by omega) (by omega) ?_
  exact kk _ _ _ hW2

theorem cs_L_law_31 : zCV RL wsL_law 31 8 yX8_note wsX8_note cX8_note 3 (some .int) rm_L_law rm_X8_note 2 := ⟨_, _, gL_law_X8_note, rfl, ⟨by decide +kernel, by decide +kernel, by decide +kernel⟩, ⟨Nat.le_of_ble_eq_true rfl, Nat.le_of_ble_eq_true rfl⟩, rfl, rfl⟩
theorem cs_L_law_34 : zCV RL wsL_law 34 9 yX9_note wsX9_note cX9_note 4 (some .int) rm_L_law rm_X9_note 2 := ⟨_, _, gL_law_X9_note, rfl, ⟨by decide +kernel, by decide +kernel, by decide +kernel⟩, ⟨Nat.le_of_ble_eq_true rfl, Nat.le_of_ble_eq_true rfl⟩, rfl, rfl⟩
set_option maxRecDepth 100000 in
set_option maxHeartbeats 4000000 in
theorem lc_note {K : zC} {D : zD} {base : Nat} (X : GX K cL_law RL wsL_law D base rm_L_law 4) {b L : Nat} {xs : Nat → Int32} (hX : va_X b L xs (zs K) (zs K).heap) (hbl : b < (zs K).heap.size) (hbb : b < base) (hL : L ≤ 2048) {x : Nat} (hq : base ≤ x) {i : Int} (hi : 0 ≤ i ∧ i + 4 ≤ (L : Int)) {c : Nat} (hc : 4 * (c : Int) = i) {m n : Int} {H : Heap} (hW : Wld D x m n H)
    (kk : ∀ (m2 n2 : Int) (H2 : Heap), Wld D x m2 n2 H2 → G K (151 + 121 * c + 121) (17884 + 4272 * c + 4272) H2 796 [(0, .ref b), (1, .ref x), (2, .ref (x + 140)), (3, .int (J i))] []) : G K (151 + 121 * c) (17884 + 4272 * c) H 286 [(0, .ref b), (1, .ref x), (2, .ref (x + 140)), (3, .int (J i))] [] := by
  obtain ⟨sa, sl, st, ss, f, P, hb, hA, hMd, hI, hIs, hIv, hHb, hPr, hsz⟩ := hW
  obtain ⟨hO8, -, -, -, hPd8, -, hHs8, -⟩ := id hA
  have hm6 : 0 ≤ m ∧ m ≤ 6 := hHs8.2.2.2.2
  have hpd := hPd8.bd
  clear hPd8 hHs8
  obtain ⟨a1, ha1⟩ : ∃ z, sx xs (i + 1) = z := ⟨_, rfl⟩
  have ra1 : rg a1 := by rw [← ha1]; exact sx_rg xs (i + 1)
  obtain ⟨a2, ha2⟩ : ∃ z, sx xs (i + 2) = z := ⟨_, rfl⟩
  have ra2 : rg a2 := by rw [← ha2]; exact sx_rg xs (i + 2)
  refine g_aload_n (pc := 286) (pl := 1) X dL_law_286 rfl ?_
  refine g_aload_n (pc := 287) (pl := 0) X dL_law_287 rfl ?_
  refine g_iload_n (pc := 288) (pl := 3) X dL_law_288 rfl ?_
  refine g_iconst (pc := 289) X dL_law_289 ?_
  refine g_iadd (pc := 290) X dL_law_290 ?_
  refine g_sld (pc := 291) (i := i + 1) X hX hbl hbb (by omega) dL_law_291 ?_
  rw [ha1]
  refine g_aload_n (pc := 292) (pl := 0) X dL_law_292 rfl ?_
  refine g_iload_n (pc := 293) (pl := 3) X dL_law_293 rfl ?_
  refine g_iconst (pc := 294) X dL_law_294 ?_
  refine g_iadd (pc := 295) X dL_law_295 ?_
  refine g_sld (pc := 296) (i := i + 2) X hX hbl hbb (by omega) dL_law_296 ?_
  rw [ha2]
  refine gVi (pc := 297) (n2 := 151 + 121 * c + 121) (k2 := 17884 + 4272 * c + 4272) X cs_L_law_31 (c_X8_note (zl K) D base x (x + 151) m sa sl st ss f n P a1 a2 hq (by omega) hI ra1 ra2) rfl hO8 (by omega) ⟨hA, hsz⟩ rfl ⟨(by show 151 + 121 * c + 121 ≤ 600000; omega), (by show 17884 + 4272 * c + 4272 ≤ 7302250; omega)⟩ dL_law_297 (Nat.le_of_ble_eq_true rfl) rfl rfl (fun v297 H1 hp297 hs297 => ?_)
  obtain ⟨rfl, sa2, hA1, hFx⟩ := hp297
  have hMd1 := hMd.fx hFx (by omega)
  have hsz1 : x + 151 ≤ H1.size := by have := hFx.1; omega
  obtain ⟨⟨q1, q2, q3, q4, q5, hO9⟩, hNw, hPa, hSv, hPd, ⟨W, hOr⟩, hLn, ⟨T, hTk⟩⟩ := id hMd1
  refine g_aload_n (pc := 300) (pl := 2) X dL_law_300 rfl ?_
  refine g_aload_n (pc := 301) (pl := 0) X dL_law_301 rfl ?_
  refine g_iload_n (pc := 302) (pl := 3) X dL_law_302 rfl ?_
  refine g_iconst (pc := 303) X dL_law_303 ?_
  refine g_iadd (pc := 304) X dL_law_304 ?_
  refine g_sld (pc := 305) (i := i + 1) X hX hbl hbb (by omega) dL_law_305 ?_
  rw [ha1]
  refine g_aload_n (pc := 306) (pl := 0) X dL_law_306 rfl ?_
  refine g_iload_n (pc := 307) (pl := 3) X dL_law_307 rfl ?_
  refine g_iconst (pc := 308) X dL_law_308 ?_
  refine g_iadd (pc := 309) X dL_law_309 ?_
  refine g_sld (pc := 310) (i := i + 2) X hX hbl hbb (by omega) dL_law_310 ?_
  rw [ha2]
  refine gVi (pc := 311) (n2 := 151 + 121 * c + 121 + 0) (k2 := 17884 + 4272 * c + 4272 + 0) X cs_L_law_34 (c_X9_note (zl K) D base (x + 140) m n q1 q2 q3 q4 q5 f st a1 a2 (by omega) hI hm6 ra1 ra2) rfl hO9 (by omega) ⟨hO9, hNw, hPa⟩ rfl ⟨(by show 151 + 121 * c + 121 + 0 ≤ 600000; omega), (by show 17884 + 4272 * c + 4272 + 0 ≤ 7302250; omega)⟩ dL_law_311 (Nat.le_of_ble_eq_true rfl) rfl rfl (fun v311 H2 hp311 hs311 => ?_)
  obtain ⟨hv9, ⟨f2, hE2, hNw2⟩, hO2, hPa2, hf2⟩ := hp311
  subst hv9
  refine g_icmp_same (pc := 314) X 796 dL_law_314 (by decide) ?_
  have hFr : Fr (Iv (x + 140) (x + 151)) 0 H1 H2 := hf2.wide (by omega) (by omega)
  have hMd2 : MdAt D (x + 140) (hsN m (ntR f a1 a2)) n _ (hsS m (ntR f a1 a2) st f) hb ss P H2 := ⟨⟨_, _, _, _, _, hO2⟩, hNw2, hPa2, hSv.fr hf2 (by omega), hPd.fr hf2 (by omega), ⟨W, hOr.fr hf2 (by omega)⟩, hLn.fr hf2 (by omega), ⟨T, hTk.fr hf2 (by omega)⟩⟩
  have hW2 := Wld.ed (r := ntR f a1 a2) hm6 hI hIs hIv hHb hPr hsz1 hA1 (hI.nt' a1 a2) hE2 hMd2 hFr
  refine G.widen (n' := 151 + 121 * c + 121) (k' := 17884 + 4272 * c + 4272) (by omega) (by omega) ?_
  exact kk _ _ _ hW2

theorem cs_L_law_35 : zCV RL wsL_law 35 8 yX8_reply wsX8_reply cX8_reply 2 (some .int) rm_L_law rm_X8_reply 1 := ⟨_, _, gL_law_X8_reply, rfl, ⟨by decide +kernel, by decide +kernel, by decide +kernel⟩, ⟨Nat.le_of_ble_eq_true rfl, Nat.le_of_ble_eq_true rfl⟩, rfl, rfl⟩
theorem cs_L_law_39 : zCV RL wsL_law 39 9 yX9_reply wsX9_reply cX9_reply 3 (some .int) rm_L_law rm_X9_reply 1 := ⟨_, _, gL_law_X9_reply, rfl, ⟨by decide +kernel, by decide +kernel, by decide +kernel⟩, ⟨Nat.le_of_ble_eq_true rfl, Nat.le_of_ble_eq_true rfl⟩, rfl, rfl⟩
set_option maxRecDepth 100000 in
set_option maxHeartbeats 4000000 in
theorem lc_reply {K : zC} {D : zD} {base : Nat} (X : GX K cL_law RL wsL_law D base rm_L_law 4) {b L : Nat} {xs : Nat → Int32} (hX : va_X b L xs (zs K) (zs K).heap) (hbl : b < (zs K).heap.size) (hbb : b < base) (hL : L ≤ 2048) {x : Nat} (hq : base ≤ x) {i : Int} (hi : 0 ≤ i ∧ i + 4 ≤ (L : Int)) {c : Nat} (hc : 4 * (c : Int) = i) {m n : Int} {H : Heap} (hW : Wld D x m n H)
    (kk : ∀ (m2 n2 : Int) (H2 : Heap), Wld D x m2 n2 H2 → G K (151 + 121 * c + 121) (17884 + 4272 * c + 4272) H2 796 [(0, .ref b), (1, .ref x), (2, .ref (x + 140)), (3, .int (J i))] []) : G K (151 + 121 * c) (17884 + 4272 * c) H 319 [(0, .ref b), (1, .ref x), (2, .ref (x + 140)), (3, .int (J i))] [] := by
  obtain ⟨sa, sl, st, ss, f, P, hb, hA, hMd, hI, hIs, hIv, hHb, hPr, hsz⟩ := hW
  obtain ⟨hO8, -, -, -, hPd8, -, hHs8, -⟩ := id hA
  have hm6 : 0 ≤ m ∧ m ≤ 6 := hHs8.2.2.2.2
  have hpd := hPd8.bd
  clear hPd8 hHs8
  obtain ⟨a1, ha1⟩ : ∃ z, sx xs (i + 1) = z := ⟨_, rfl⟩
  have ra1 : rg a1 := by rw [← ha1]; exact sx_rg xs (i + 1)
  refine g_aload_n (pc := 319) (pl := 1) X dL_law_319 rfl ?_
  refine g_aload_n (pc := 320) (pl := 0) X dL_law_320 rfl ?_
  refine g_iload_n (pc := 321) (pl := 3) X dL_law_321 rfl ?_
  refine g_iconst (pc := 322) X dL_law_322 ?_
  refine g_iadd (pc := 323) X dL_law_323 ?_
  refine g_sld (pc := 324) (i := i + 1) X hX hbl hbb (by omega) dL_law_324 ?_
  rw [ha1]
  refine gVi (pc := 325) (n2 := 151 + 121 * c + 121) (k2 := 17884 + 4272 * c + 4272) X cs_L_law_35 (c_X8_reply (zl K) D base x (x + 151) m sa sl st ss f n P a1 hq (by omega) hI ra1) rfl hO8 (by omega) ⟨hA, hsz⟩ rfl ⟨(by show 151 + 121 * c + 121 ≤ 600000; omega), (by show 17884 + 4272 * c + 4272 ≤ 7302250; omega)⟩ dL_law_325 (Nat.le_of_ble_eq_true rfl) rfl rfl (fun v325 H1 hp325 hs325 => ?_)
  obtain ⟨rfl, sa2, hA1, hFx⟩ := hp325
  have hMd1 := hMd.fx hFx (by omega)
  have hsz1 : x + 151 ≤ H1.size := by have := hFx.1; omega
  obtain ⟨⟨q1, q2, q3, q4, q5, hO9⟩, hNw, hPa, hSv, hPd, ⟨W, hOr⟩, hLn, ⟨T, hTk⟩⟩ := id hMd1
  refine g_aload_n (pc := 328) (pl := 2) X dL_law_328 rfl ?_
  refine g_aload_n (pc := 329) (pl := 0) X dL_law_329 rfl ?_
  refine g_iload_n (pc := 330) (pl := 3) X dL_law_330 rfl ?_
  refine g_iconst (pc := 331) X dL_law_331 ?_
  refine g_iadd (pc := 332) X dL_law_332 ?_
  refine g_sld (pc := 333) (i := i + 1) X hX hbl hbb (by omega) dL_law_333 ?_
  rw [ha1]
  refine gVi (pc := 334) (n2 := 151 + 121 * c + 121 + 0) (k2 := 17884 + 4272 * c + 4272 + 0) X cs_L_law_39 (c_X9_reply (zl K) D base (x + 140) m n q1 q2 q3 q4 q5 f st a1 (by omega) hI hm6 ra1) rfl hO9 (by omega) ⟨hO9, hNw, hPa⟩ rfl ⟨(by show 151 + 121 * c + 121 + 0 ≤ 600000; omega), (by show 17884 + 4272 * c + 4272 + 0 ≤ 7302250; omega)⟩ dL_law_334 (Nat.le_of_ble_eq_true rfl) rfl rfl (fun v334 H2 hp334 hs334 => ?_)
  obtain ⟨hv9, hNw2, hO2, hPa2, hf2⟩ := hp334
  subst hv9
  refine g_icmp_same (pc := 337) X 796 dL_law_337 (by decide) ?_
  have hFr : Fr (Iv (x + 140) (x + 151)) 0 H1 H2 := hf2.wide (by omega) (by omega)
  have hMd2 : MdAt D (x + 140) (hsN m (rpR f a1)) n _ (hsS m (rpR f a1) st f) hb ss P H2 := ⟨⟨_, _, _, _, _, hO2⟩, hNw2, hPa2, hSv.fr hf2 (by omega), hPd.fr hf2 (by omega), ⟨W, hOr.fr hf2 (by omega)⟩, hLn.fr hf2 (by omega), ⟨T, hTk.fr hf2 (by omega)⟩⟩
  have hW2 := Wld.ed (r := rpR f a1) hm6 hI hIs hIv hHb hPr hsz1 hA1 (hI.rp a1) (MEq.refl _) hMd2 hFr
  refine G.widen (n' := 151 + 121 * c + 121) (k' := 17884 + 4272 * c + 4272) (by omega) (by omega) ?_
  exact kk _ _ _ hW2

theorem cs_L_law_40 : zCV RL wsL_law 40 8 yX8_drop wsX8_drop cX8_drop 2 (some .int) rm_L_law rm_X8_drop 1 := ⟨_, _, gL_law_X8_drop, rfl, ⟨by decide +kernel, by decide +kernel, by decide +kernel⟩, ⟨Nat.le_of_ble_eq_true rfl, Nat.le_of_ble_eq_true rfl⟩, rfl, rfl⟩
theorem cs_L_law_43 : zCV RL wsL_law 43 9 yX9_drop wsX9_drop cX9_drop 2 (some .int) rm_L_law rm_X9_drop 1 := ⟨_, _, gL_law_X9_drop, rfl, ⟨by decide +kernel, by decide +kernel, by decide +kernel⟩, ⟨Nat.le_of_ble_eq_true rfl, Nat.le_of_ble_eq_true rfl⟩, rfl, rfl⟩
set_option maxRecDepth 100000 in
set_option maxHeartbeats 4000000 in
theorem lc_drop {K : zC} {D : zD} {base : Nat} (X : GX K cL_law RL wsL_law D base rm_L_law 4) {b L : Nat} {xs : Nat → Int32} (hX : va_X b L xs (zs K) (zs K).heap) (hbl : b < (zs K).heap.size) (hbb : b < base) (hL : L ≤ 2048) {x : Nat} (hq : base ≤ x) {i : Int} (hi : 0 ≤ i ∧ i + 4 ≤ (L : Int)) {c : Nat} (hc : 4 * (c : Int) = i) {m n : Int} {H : Heap} (hW : Wld D x m n H)
    (kk : ∀ (m2 n2 : Int) (H2 : Heap), Wld D x m2 n2 H2 → G K (151 + 121 * c + 121) (17884 + 4272 * c + 4272) H2 796 [(0, .ref b), (1, .ref x), (2, .ref (x + 140)), (3, .int (J i))] []) : G K (151 + 121 * c) (17884 + 4272 * c) H 342 [(0, .ref b), (1, .ref x), (2, .ref (x + 140)), (3, .int (J i))] [] := by
  obtain ⟨sa, sl, st, ss, f, P, hb, hA, hMd, hI, hIs, hIv, hHb, hPr, hsz⟩ := hW
  obtain ⟨hO8, -, -, -, hPd8, -, hHs8, -⟩ := id hA
  have hm6 : 0 ≤ m ∧ m ≤ 6 := hHs8.2.2.2.2
  have hpd := hPd8.bd
  clear hPd8 hHs8
  obtain ⟨a1, ha1⟩ : ∃ z, sx xs (i + 1) = z := ⟨_, rfl⟩
  have ra1 : rg a1 := by rw [← ha1]; exact sx_rg xs (i + 1)
  refine g_aload_n (pc := 342) (pl := 1) X dL_law_342 rfl ?_
  refine g_aload_n (pc := 343) (pl := 0) X dL_law_343 rfl ?_
  refine g_iload_n (pc := 344) (pl := 3) X dL_law_344 rfl ?_
  refine g_iconst (pc := 345) X dL_law_345 ?_
  refine g_iadd (pc := 346) X dL_law_346 ?_
  refine g_sld (pc := 347) (i := i + 1) X hX hbl hbb (by omega) dL_law_347 ?_
  rw [ha1]
  refine gVi (pc := 348) (n2 := 151 + 121 * c + 121) (k2 := 17884 + 4272 * c + 4272) X cs_L_law_40 (c_X8_drop (zl K) D base x (x + 151) m sa sl st ss f n P a1 hq (by omega) hI ra1) rfl hO8 (by omega) ⟨hA, hsz⟩ rfl ⟨(by show 151 + 121 * c + 121 ≤ 600000; omega), (by show 17884 + 4272 * c + 4272 ≤ 7302250; omega)⟩ dL_law_348 (Nat.le_of_ble_eq_true rfl) rfl rfl (fun v348 H1 hp348 hs348 => ?_)
  obtain ⟨rfl, sa2, hA1, hFx⟩ := hp348
  have hMd1 := hMd.fx hFx (by omega)
  have hsz1 : x + 151 ≤ H1.size := by have := hFx.1; omega
  obtain ⟨⟨q1, q2, q3, q4, q5, hO9⟩, hNw, hPa, hSv, hPd, ⟨W, hOr⟩, hLn, ⟨T, hTk⟩⟩ := id hMd1
  refine g_aload_n (pc := 351) (pl := 2) X dL_law_351 rfl ?_
  refine g_aload_n (pc := 352) (pl := 0) X dL_law_352 rfl ?_
  refine g_iload_n (pc := 353) (pl := 3) X dL_law_353 rfl ?_
  refine g_iconst (pc := 354) X dL_law_354 ?_
  refine g_iadd (pc := 355) X dL_law_355 ?_
  refine g_sld (pc := 356) (i := i + 1) X hX hbl hbb (by omega) dL_law_356 ?_
  rw [ha1]
  refine gVi (pc := 357) (n2 := 151 + 121 * c + 121 + 0) (k2 := 17884 + 4272 * c + 4272 + 0) X cs_L_law_43 (c_X9_drop (zl K) D base (x + 140) m n q1 q2 q3 q4 q5 f st a1 (by omega) hI hm6 ra1) rfl hO9 (by omega) ⟨hO9, hNw, hPa⟩ rfl ⟨(by show 151 + 121 * c + 121 + 0 ≤ 600000; omega), (by show 17884 + 4272 * c + 4272 + 0 ≤ 7302250; omega)⟩ dL_law_357 (Nat.le_of_ble_eq_true rfl) rfl rfl (fun v357 H2 hp357 hs357 => ?_)
  obtain ⟨hv9, ⟨f2, hE2, hNw2⟩, hO2, hPa2, hf2⟩ := hp357
  subst hv9
  refine g_icmp_same (pc := 360) X 796 dL_law_360 (by decide) ?_
  have hFr : Fr (Iv (x + 140) (x + 151)) 0 H1 H2 := hf2.wide (by omega) (by omega)
  have hMd2 : MdAt D (x + 140) (hsN m (dpR f a1)) n _ (hsS m (dpR f a1) st f) hb ss P H2 := ⟨⟨_, _, _, _, _, hO2⟩, hNw2, hPa2, hSv.fr hf2 (by omega), hPd.fr hf2 (by omega), ⟨W, hOr.fr hf2 (by omega)⟩, hLn.fr hf2 (by omega), ⟨T, hTk.fr hf2 (by omega)⟩⟩
  have hW2 := Wld.ed (r := dpR f a1) hm6 hI hIs hIv hHb hPr hsz1 hA1 (hI.dp a1) hE2 hMd2 hFr
  refine G.widen (n' := 151 + 121 * c + 121) (k' := 17884 + 4272 * c + 4272) (by omega) (by omega) ?_
  exact kk _ _ _ hW2

theorem cs_L_law_44 : zCV RL wsL_law 44 8 yX8_reclaim wsX8_reclaim cX8_reclaim 2 (some .int) rm_L_law rm_X8_reclaim 1 := ⟨_, _, gL_law_X8_reclaim, rfl, ⟨by decide +kernel, by decide +kernel, by decide +kernel⟩, ⟨Nat.le_of_ble_eq_true rfl, Nat.le_of_ble_eq_true rfl⟩, rfl, rfl⟩
theorem cs_L_law_47 : zCV RL wsL_law 47 9 yX9_reclaim wsX9_reclaim cX9_reclaim 3 (some .int) rm_L_law rm_X9_reclaim 1 := ⟨_, _, gL_law_X9_reclaim, rfl, ⟨by decide +kernel, by decide +kernel, by decide +kernel⟩, ⟨Nat.le_of_ble_eq_true rfl, Nat.le_of_ble_eq_true rfl⟩, rfl, rfl⟩
set_option maxRecDepth 100000 in
set_option maxHeartbeats 4000000 in
theorem lc_reclaim {K : zC} {D : zD} {base : Nat} (X : GX K cL_law RL wsL_law D base rm_L_law 4) {b L : Nat} {xs : Nat → Int32} (hX : va_X b L xs (zs K) (zs K).heap) (hbl : b < (zs K).heap.size) (hbb : b < base) (hL : L ≤ 2048) {x : Nat} (hq : base ≤ x) {i : Int} (hi : 0 ≤ i ∧ i + 4 ≤ (L : Int)) {c : Nat} (hc : 4 * (c : Int) = i) {m n : Int} {H : Heap} (hW : Wld D x m n H)
    (kk : ∀ (m2 n2 : Int) (H2 : Heap), Wld D x m2 n2 H2 → G K (151 + 121 * c + 121) (17884 + 4272 * c + 4272) H2 796 [(0, .ref b), (1, .ref x), (2, .ref (x + 140)), (3, .int (J i))] []) : G K (151 + 121 * c) (17884 + 4272 * c) H 365 [(0, .ref b), (1, .ref x), (2, .ref (x + 140)), (3, .int (J i))] [] := by
  obtain ⟨sa, sl, st, ss, f, P, hb, hA, hMd, hI, hIs, hIv, hHb, hPr, hsz⟩ := hW
  obtain ⟨hO8, -, -, -, hPd8, -, hHs8, -⟩ := id hA
  have hm6 : 0 ≤ m ∧ m ≤ 6 := hHs8.2.2.2.2
  have hpd := hPd8.bd
  clear hPd8 hHs8
  obtain ⟨a1, ha1⟩ : ∃ z, sx xs (i + 1) = z := ⟨_, rfl⟩
  have ra1 : rg a1 := by rw [← ha1]; exact sx_rg xs (i + 1)
  refine g_aload_n (pc := 365) (pl := 1) X dL_law_365 rfl ?_
  refine g_aload_n (pc := 366) (pl := 0) X dL_law_366 rfl ?_
  refine g_iload_n (pc := 367) (pl := 3) X dL_law_367 rfl ?_
  refine g_iconst (pc := 368) X dL_law_368 ?_
  refine g_iadd (pc := 369) X dL_law_369 ?_
  refine g_sld (pc := 370) (i := i + 1) X hX hbl hbb (by omega) dL_law_370 ?_
  rw [ha1]
  refine gVi (pc := 371) (n2 := 151 + 121 * c + 121) (k2 := 17884 + 4272 * c + 4272) X cs_L_law_44 (c_X8_reclaim (zl K) D base x (x + 151) m sa sl st ss f n P a1 hq (by omega) hI ra1) rfl hO8 (by omega) ⟨hA, hsz⟩ rfl ⟨(by show 151 + 121 * c + 121 ≤ 600000; omega), (by show 17884 + 4272 * c + 4272 ≤ 7302250; omega)⟩ dL_law_371 (Nat.le_of_ble_eq_true rfl) rfl rfl (fun v371 H1 hp371 hs371 => ?_)
  obtain ⟨rfl, sa2, hA1, hFx⟩ := hp371
  have hMd1 := hMd.fx hFx (by omega)
  have hsz1 : x + 151 ≤ H1.size := by have := hFx.1; omega
  obtain ⟨⟨q1, q2, q3, q4, q5, hO9⟩, hNw, hPa, hSv, hPd, ⟨W, hOr⟩, hLn, ⟨T, hTk⟩⟩ := id hMd1
  refine g_aload_n (pc := 374) (pl := 2) X dL_law_374 rfl ?_
  refine g_aload_n (pc := 375) (pl := 0) X dL_law_375 rfl ?_
  refine g_iload_n (pc := 376) (pl := 3) X dL_law_376 rfl ?_
  refine g_iconst (pc := 377) X dL_law_377 ?_
  refine g_iadd (pc := 378) X dL_law_378 ?_
  refine g_sld (pc := 379) (i := i + 1) X hX hbl hbb (by omega) dL_law_379 ?_
  rw [ha1]
  refine gVi (pc := 380) (n2 := 151 + 121 * c + 121 + 0) (k2 := 17884 + 4272 * c + 4272 + 0) X cs_L_law_47 (c_X9_reclaim (zl K) D base (x + 140) m n q1 q2 q3 q4 q5 f st a1 (by omega) hI hm6 ra1) rfl hO9 (by omega) ⟨hO9, hNw, hPa⟩ rfl ⟨(by show 151 + 121 * c + 121 + 0 ≤ 600000; omega), (by show 17884 + 4272 * c + 4272 + 0 ≤ 7302250; omega)⟩ dL_law_380 (Nat.le_of_ble_eq_true rfl) rfl rfl (fun v380 H2 hp380 hs380 => ?_)
  obtain ⟨hv9, ⟨f2, hE2, hNw2⟩, hO2, hPa2, hf2⟩ := hp380
  subst hv9
  refine g_icmp_same (pc := 383) X 796 dL_law_383 (by decide) ?_
  have hFr : Fr (Iv (x + 140) (x + 151)) 0 H1 H2 := hf2.wide (by omega) (by omega)
  have hMd2 : MdAt D (x + 140) (hsN m (rcR f a1)) n _ (hsS m (rcR f a1) st f) hb ss P H2 := ⟨⟨_, _, _, _, _, hO2⟩, hNw2, hPa2, hSv.fr hf2 (by omega), hPd.fr hf2 (by omega), ⟨W, hOr.fr hf2 (by omega)⟩, hLn.fr hf2 (by omega), ⟨T, hTk.fr hf2 (by omega)⟩⟩
  have hW2 := Wld.ed (r := rcR f a1) hm6 hI hIs hIv hHb hPr hsz1 hA1 (hI.rc a1) hE2 hMd2 hFr
  refine G.widen (n' := 151 + 121 * c + 121) (k' := 17884 + 4272 * c + 4272) (by omega) (by omega) ?_
  exact kk _ _ _ hW2
