/-! the room is never filled: what every row of the law needs of it -/
theorem rm_c {a : Nat} (h : a ≤ 10000) : a ≤ room_1.cells := Nat.le_trans h (Nat.le_of_ble_eq_true rfl)
theorem rm_s {a : Nat} (h : a ≤ 100000) : a ≤ room_1.slots := Nat.le_trans h (Nat.le_of_ble_eq_true rfl)
set_option maxHeartbeats 8000000 in
set_option maxRecDepth 100000 in
theorem lc_pile {p : Program} {l : Launch} {e : Env} {s : State} {m : MethodId} {below : List Frame} {meth : Method} {c : Code} {z : Nat} {D : va_G} {Q : State → Prop} {cI cZ cP cR : ClassId} {b n0 : Nat} {xs : Nat → Int32} (C : gC p s m #[.ref b] c RL cL_law 4 wsL_law z D cI cZ cP cR) (hX : va_X b n0 xs s s.heap) (hb0 : b < s.heap.size) (hz : z = s.heap.size) (hn0 : n0 ≤ 2048) {i kq : Nat} {F : Nat → va_E} (hi : i + 4 ≤ n0) (hkq : 4 * kq ≤ i) (hI : LI z cI cZ cP cR kq F) (K : ∀ (kq2 : Nat) (F2 : Nat → va_E), kq2 ≤ kq + 1 → LI z cI cZ cP cR kq2 F2 → gX p l e room_1 s m #[.ref b] below meth c 4 z D Q (132 + 14 * kq2) F2 (132 + 14 * kq2) (3833 + 90 * kq2) [(3, .int (nI i)), (2, .ref (z + 123)), (1, .ref (z + 0)), (0, .ref b)] 669 []) : gX p l e room_1 s m #[.ref b] below meth c 4 z D Q (132 + 14 * kq) F (132 + 14 * kq) (3833 + 90 * kq) [(3, .int (nI i)), (2, .ref (z + 123)), (1, .ref (z + 0)), (0, .ref b)] 140 [] := by
  obtain ⟨n, kk, cw, c0, wi, rl, sp, pd, bs, od, pi, T, hn, hb, hd, sl, sd, len, pa, f0, spt, wrg, rd, a, ps, slr, sv, sda, wy, pa2, nu, cd, hR, hC, hM, hA, hpi, hrk, hps, hds, hsl, hcd, hcd2⟩ := hI
  obtain ⟨-, -, -, -, -, -, -, hnn, hkk, hcw, hcnt, hc0, hsp, hrl, hwi, hod⟩ := id hA
  obtain ⟨hf0, hn6, -⟩ := id hps
  have hlen : len ≤ 80 := hC.2.2.2.2.2.2.2.1
  have h2n := two_lt hnn
  have hkq2 : kq ≤ 512 := by omega
  have hmR := mR.mk hA hpi hrk
  by_cases he : epF (xs (i + 1)) (xs (i + 2)) (xs (i + 3)) n (nI kk) = 0
  · obtain ⟨g1, g2, g3, hn9, hk0⟩ := epF_0 hnn hkk he
    refine x_aload_n C (pc := 140) 2 dL_law_140 rfl ?_
    refine x_aload_n C (pc := 141) 3 dL_law_141 rfl ?_
    refine x_iload_n C (pc := 142) 0 dL_law_142 rfl ?_
    refine x_iconst C (pc := 143) (v := 1) dL_law_143 (by decide) ?_
    refine x_iadd C (pc := 144) (v := nI (i + 1)) dL_law_144 (nI_add i 1) ?_
    refine x_sld C hX hb0 hz (pc := 145) (j := i + 1) (by omega) hn0 dL_law_145 ?_
    refine x_aload_n C (pc := 146) 3 dL_law_146 rfl ?_
    refine x_iload_n C (pc := 147) 0 dL_law_147 rfl ?_
    refine x_iconst C (pc := 148) (v := 2) dL_law_148 (by decide) ?_
    refine x_iadd C (pc := 149) (v := nI (i + 2)) dL_law_149 (nI_add i 2) ?_
    refine x_sld C hX hb0 hz (pc := 150) (j := i + 2) (by omega) hn0 dL_law_150 ?_
    refine x_aload_n C (pc := 151) 3 dL_law_151 rfl ?_
    refine x_iload_n C (pc := 152) 0 dL_law_152 rfl ?_
    refine x_iconst C (pc := 153) (v := 3) dL_law_153 (by decide) ?_
    refine x_iadd C (pc := 154) (v := nI (i + 3)) dL_law_154 (nI_add i 3) ?_
    refine x_sld C hX hb0 hz (pc := 155) (j := i + 3) (by omega) hn0 dL_law_155 ?_
    refine x_cViE C (pc := 156) (st := []) (c_X6_pile_s l D z cI cZ cP cR (132 + 14 * kq) F n kk cw c0 wi rl sp pd bs od pi T hn hb hd sl sd len pa (xs (i + 1)) (xs (i + 2)) (xs (i + 3)) hR hnn hkk hcw hc0 hcnt hsp hpi hC he hn9) (cwV 3 C.2.2.2.2.1 gL_law_X6_pile rfl rfl rfl hd_X6_pile ⟨Nat.le_of_ble_eq_true rfl, Nat.le_of_ble_eq_true rfl⟩) (by omega) hC.1.1 rfl rfl rfl (Nat.le_of_ble_eq_true rfl) dL_law_156 ⟨rm_c (by show 132 + 14 * kq + 0 ≤ 10000; omega), rm_s (by show 3833 + 90 * kq + 0 ≤ 100000; omega)⟩ (fun F_156 h_156 => ?_)
    obtain ⟨hb2, bn, hR2, ⟨pi2, hpi2, hrk2⟩, hC2, fr2⟩ := h_156
    have hM2 := hM.same (F2 := F_156) (fun q h1 h2 => fr2 q (by omega))
    refine x_aload_n C (pc := 159) 1 dL_law_159 rfl ?_
    refine x_aload_n C (pc := 160) 3 dL_law_160 rfl ?_
    refine x_iload_n C (pc := 161) 0 dL_law_161 rfl ?_
    refine x_iconst C (pc := 162) (v := 1) dL_law_162 (by decide) ?_
    refine x_iadd C (pc := 163) (v := nI (i + 1)) dL_law_163 (nI_add i 1) ?_
    refine x_sld C hX hb0 hz (pc := 164) (j := i + 1) (by omega) hn0 dL_law_164 ?_
    refine x_aload_n C (pc := 165) 3 dL_law_165 rfl ?_
    refine x_iload_n C (pc := 166) 0 dL_law_166 rfl ?_
    refine x_iconst C (pc := 167) (v := 2) dL_law_167 (by decide) ?_
    refine x_iadd C (pc := 168) (v := nI (i + 2)) dL_law_168 (nI_add i 2) ?_
    refine x_sld C hX hb0 hz (pc := 169) (j := i + 2) (by omega) hn0 dL_law_169 ?_
    refine x_aload_n C (pc := 170) 3 dL_law_170 rfl ?_
    refine x_iload_n C (pc := 171) 0 dL_law_171 rfl ?_
    refine x_iconst C (pc := 172) (v := 3) dL_law_172 (by decide) ?_
    refine x_iadd C (pc := 173) (v := nI (i + 3)) dL_law_173 (nI_add i 3) ?_
    refine x_sld C hX hb0 hz (pc := 174) (j := i + 3) (by omega) hn0 dL_law_174 ?_
    refine x_cViE C (pc := 175) (st := [.int (nI n)]) (c_X7_pile_s l D z cI cZ cP cR (132 + 14 * kq) F_156 123 f0 hn (nI len) spt wrg rd a ps slr sv sda wy pa2 nu n kk cw c0 wi rl sp pd od (xs (i + 1)) (xs (i + 2)) (xs (i + 3)) hM2 (by omega) hf0 hn6 hA he) (cwV 3 C.2.2.2.2.1 gL_law_X7_pile rfl rfl rfl hd_X7_pile ⟨Nat.le_of_ble_eq_true rfl, Nat.le_of_ble_eq_true rfl⟩) (by omega) hM2.ob rfl rfl rfl (Nat.le_of_ble_eq_true rfl) dL_law_175 ⟨rm_c (by show 132 + 14 * kq + 0 ≤ 10000; omega), rm_s (by show 3833 + 90 * kq + 0 ≤ 100000; omega)⟩ (fun F_175 h_175 => ?_)
    obtain ⟨a3, hM3, hA3, fr3⟩ := h_175
    have hR3 := hR2.same (F2 := F_175) (fun q h1 h2 => fr3 q (by omega))
    have hC3 := isCl_same (F2 := F_175) hC2 (fun q hq => fr3 q (by omega))
    refine x_icmp_eq C (pc := 178) (tgt := 669) dL_law_178 (by decide) (fun c_178 => ?_) (fun c_178 => absurd c_178 (not_not_intro rfl))
    exact K kq F_175 (Nat.le_succ _) (by have hM3k := hM3; rw [kpM_eq] at hM3k; exact (LI.mk hR3 hC3 hM3k hA3 hpi2 hrk2 (by have h9 := ps_keep hps hmR; rw [kpM_eq] at h9; exact h9) (hds_keep hds hsp) hsl hcd hcd2))
  · refine x_aload_n C (pc := 140) 2 dL_law_140 rfl ?_
    refine x_aload_n C (pc := 141) 3 dL_law_141 rfl ?_
    refine x_iload_n C (pc := 142) 0 dL_law_142 rfl ?_
    refine x_iconst C (pc := 143) (v := 1) dL_law_143 (by decide) ?_
    refine x_iadd C (pc := 144) (v := nI (i + 1)) dL_law_144 (nI_add i 1) ?_
    refine x_sld C hX hb0 hz (pc := 145) (j := i + 1) (by omega) hn0 dL_law_145 ?_
    refine x_aload_n C (pc := 146) 3 dL_law_146 rfl ?_
    refine x_iload_n C (pc := 147) 0 dL_law_147 rfl ?_
    refine x_iconst C (pc := 148) (v := 2) dL_law_148 (by decide) ?_
    refine x_iadd C (pc := 149) (v := nI (i + 2)) dL_law_149 (nI_add i 2) ?_
    refine x_sld C hX hb0 hz (pc := 150) (j := i + 2) (by omega) hn0 dL_law_150 ?_
    refine x_aload_n C (pc := 151) 3 dL_law_151 rfl ?_
    refine x_iload_n C (pc := 152) 0 dL_law_152 rfl ?_
    refine x_iconst C (pc := 153) (v := 3) dL_law_153 (by decide) ?_
    refine x_iadd C (pc := 154) (v := nI (i + 3)) dL_law_154 (nI_add i 3) ?_
    refine x_sld C hX hb0 hz (pc := 155) (j := i + 3) (by omega) hn0 dL_law_155 ?_
    refine x_cViR C (pc := 156) (st := []) (c_X6_pile_e l D z cI cZ cP cR (132 + 14 * kq) F n kk cw c0 wi rl sp pd bs od pi T hn hb hd sl sd len pa (xs (i + 1)) (xs (i + 2)) (xs (i + 3)) hR hnn hkk hcw hc0 hcnt hsp hpi hC he) (cwV 3 C.2.2.2.2.1 gL_law_X6_pile rfl rfl rfl hd_X6_pile ⟨Nat.le_of_ble_eq_true rfl, Nat.le_of_ble_eq_true rfl⟩) (by omega) hC.1.1 rfl rfl rfl (Nat.le_of_ble_eq_true rfl) dL_law_156 ⟨rm_c (by show 132 + 14 * kq + 0 ≤ 10000; omega), rm_s (by show 3833 + 90 * kq + 0 ≤ 100000; omega)⟩ ?_
    refine x_aload_n C (pc := 159) 1 dL_law_159 rfl ?_
    refine x_aload_n C (pc := 160) 3 dL_law_160 rfl ?_
    refine x_iload_n C (pc := 161) 0 dL_law_161 rfl ?_
    refine x_iconst C (pc := 162) (v := 1) dL_law_162 (by decide) ?_
    refine x_iadd C (pc := 163) (v := nI (i + 1)) dL_law_163 (nI_add i 1) ?_
    refine x_sld C hX hb0 hz (pc := 164) (j := i + 1) (by omega) hn0 dL_law_164 ?_
    refine x_aload_n C (pc := 165) 3 dL_law_165 rfl ?_
    refine x_iload_n C (pc := 166) 0 dL_law_166 rfl ?_
    refine x_iconst C (pc := 167) (v := 2) dL_law_167 (by decide) ?_
    refine x_iadd C (pc := 168) (v := nI (i + 2)) dL_law_168 (nI_add i 2) ?_
    refine x_sld C hX hb0 hz (pc := 169) (j := i + 2) (by omega) hn0 dL_law_169 ?_
    refine x_aload_n C (pc := 170) 3 dL_law_170 rfl ?_
    refine x_iload_n C (pc := 171) 0 dL_law_171 rfl ?_
    refine x_iconst C (pc := 172) (v := 3) dL_law_172 (by decide) ?_
    refine x_iadd C (pc := 173) (v := nI (i + 3)) dL_law_173 (nI_add i 3) ?_
    refine x_sld C hX hb0 hz (pc := 174) (j := i + 3) (by omega) hn0 dL_law_174 ?_
    refine x_cViR C (pc := 175) (st := [.int (epF (xs (i + 1)) (xs (i + 2)) (xs (i + 3)) n (nI kk))]) (c_X7_pile_e l D z cI cZ cP cR (132 + 14 * kq) F 123 f0 hn (nI len) spt wrg rd a ps slr sv sda wy pa2 nu n kk cw c0 wi rl sp pd od (xs (i + 1)) (xs (i + 2)) (xs (i + 3)) hM (by omega) hf0 hn6 hA he) (cwV 3 C.2.2.2.2.1 gL_law_X7_pile rfl rfl rfl hd_X7_pile ⟨Nat.le_of_ble_eq_true rfl, Nat.le_of_ble_eq_true rfl⟩) (by omega) hM.ob rfl rfl rfl (Nat.le_of_ble_eq_true rfl) dL_law_175 ⟨rm_c (by show 132 + 14 * kq + 0 ≤ 10000; omega), rm_s (by show 3833 + 90 * kq + 0 ≤ 100000; omega)⟩ ?_
    refine x_icmp_eq C (pc := 178) (tgt := 669) dL_law_178 (by decide) (fun c_178 => ?_) (fun c_178 => absurd c_178 (not_not_intro rfl))
    exact K kq F (Nat.le_succ _) (LI.mk hR hC hM hA hpi hrk hps hds hsl hcd hcd2)
set_option maxHeartbeats 8000000 in
set_option maxRecDepth 100000 in
theorem lc_finds {p : Program} {l : Launch} {e : Env} {s : State} {m : MethodId} {below : List Frame} {meth : Method} {c : Code} {z : Nat} {D : va_G} {Q : State → Prop} {cI cZ cP cR : ClassId} {b n0 : Nat} {xs : Nat → Int32} (C : gC p s m #[.ref b] c RL cL_law 4 wsL_law z D cI cZ cP cR) (hX : va_X b n0 xs s s.heap) (hb0 : b < s.heap.size) (hz : z = s.heap.size) (hn0 : n0 ≤ 2048) {i kq : Nat} {F : Nat → va_E} (hi : i + 4 ≤ n0) (hkq : 4 * kq ≤ i) (hI : LI z cI cZ cP cR kq F) (K : ∀ (kq2 : Nat) (F2 : Nat → va_E), kq2 ≤ kq + 1 → LI z cI cZ cP cR kq2 F2 → gX p l e room_1 s m #[.ref b] below meth c 4 z D Q (132 + 14 * kq2) F2 (132 + 14 * kq2) (3833 + 90 * kq2) [(3, .int (nI i)), (2, .ref (z + 123)), (1, .ref (z + 0)), (0, .ref b)] 669 []) : gX p l e room_1 s m #[.ref b] below meth c 4 z D Q (132 + 14 * kq) F (132 + 14 * kq) (3833 + 90 * kq) [(3, .int (nI i)), (2, .ref (z + 123)), (1, .ref (z + 0)), (0, .ref b)] 183 [] := by
  obtain ⟨n, kk, cw, c0, wi, rl, sp, pd, bs, od, pi, T, hn, hb, hd, sl, sd, len, pa, f0, spt, wrg, rd, a, ps, slr, sv, sda, wy, pa2, nu, cd, hR, hC, hM, hA, hpi, hrk, hps, hds, hsl, hcd, hcd2⟩ := hI
  obtain ⟨-, -, -, -, -, -, -, hnn, hkk, hcw, hcnt, hc0, hsp, hrl, hwi, hod⟩ := id hA
  obtain ⟨hf0, hn6, -⟩ := id hps
  have hlen : len ≤ 80 := hC.2.2.2.2.2.2.2.1
  have h2n := two_lt hnn
  have hkq2 : kq ≤ 512 := by omega
  have hmR := mR.mk hA hpi hrk
  by_cases he : efF (xs (i + 1)) (xs (i + 2)) (xs (i + 3)) (nI n) pd cw = 0
  · obtain ⟨v, hvn, hve⟩ := inP_nat (by omega) (efF_in he)
    rw [hve] at he
    refine x_aload_n C (pc := 183) 2 dL_law_183 rfl ?_
    refine x_aload_n C (pc := 184) 3 dL_law_184 rfl ?_
    refine x_iload_n C (pc := 185) 0 dL_law_185 rfl ?_
    refine x_iconst C (pc := 186) (v := 1) dL_law_186 (by decide) ?_
    refine x_iadd C (pc := 187) (v := nI (i + 1)) dL_law_187 (nI_add i 1) ?_
    refine x_sld C hX hb0 hz (pc := 188) (j := i + 1) (by omega) hn0 dL_law_188 ?_
    refine x_eqi hve ?_
    refine x_aload_n C (pc := 189) 3 dL_law_189 rfl ?_
    refine x_iload_n C (pc := 190) 0 dL_law_190 rfl ?_
    refine x_iconst C (pc := 191) (v := 2) dL_law_191 (by decide) ?_
    refine x_iadd C (pc := 192) (v := nI (i + 2)) dL_law_192 (nI_add i 2) ?_
    refine x_sld C hX hb0 hz (pc := 193) (j := i + 2) (by omega) hn0 dL_law_193 ?_
    refine x_aload_n C (pc := 194) 3 dL_law_194 rfl ?_
    refine x_iload_n C (pc := 195) 0 dL_law_195 rfl ?_
    refine x_iconst C (pc := 196) (v := 3) dL_law_196 (by decide) ?_
    refine x_iadd C (pc := 197) (v := nI (i + 3)) dL_law_197 (nI_add i 3) ?_
    refine x_sld C hX hb0 hz (pc := 198) (j := i + 3) (by omega) hn0 dL_law_198 ?_
    refine x_cViE C (pc := 199) (st := []) (c_X6_finds_s l D z cI cZ cP cR (132 + 14 * kq) F n kk cw c0 wi rl sp pd bs od pi T hn hb hd sl sd len pa v (xs (i + 2)) (xs (i + 3)) hR hnn hkk hcw hc0 hcnt hsp hpi hC he hvn) (cwV 3 C.2.2.2.2.1 gL_law_X6_finds rfl rfl rfl hd_X6_finds ⟨Nat.le_of_ble_eq_true rfl, Nat.le_of_ble_eq_true rfl⟩) (by omega) hC.1.1 rfl rfl rfl (Nat.le_of_ble_eq_true rfl) dL_law_199 ⟨rm_c (by show 132 + 14 * kq + 0 ≤ 10000; omega), rm_s (by show 3833 + 90 * kq + 0 ≤ 100000; omega)⟩ (fun F_199 h_199 => ?_)
    obtain ⟨hb2, hR2, hC2, fr2⟩ := h_199
    have hM2 := hM.same (F2 := F_199) (fun q h1 h2 => fr2 q (by omega))
    refine x_aload_n C (pc := 202) 1 dL_law_202 rfl ?_
    refine x_aload_n C (pc := 203) 3 dL_law_203 rfl ?_
    refine x_iload_n C (pc := 204) 0 dL_law_204 rfl ?_
    refine x_iconst C (pc := 205) (v := 1) dL_law_205 (by decide) ?_
    refine x_iadd C (pc := 206) (v := nI (i + 1)) dL_law_206 (nI_add i 1) ?_
    refine x_sld C hX hb0 hz (pc := 207) (j := i + 1) (by omega) hn0 dL_law_207 ?_
    refine x_eqi hve ?_
    refine x_aload_n C (pc := 208) 3 dL_law_208 rfl ?_
    refine x_iload_n C (pc := 209) 0 dL_law_209 rfl ?_
    refine x_iconst C (pc := 210) (v := 2) dL_law_210 (by decide) ?_
    refine x_iadd C (pc := 211) (v := nI (i + 2)) dL_law_211 (nI_add i 2) ?_
    refine x_sld C hX hb0 hz (pc := 212) (j := i + 2) (by omega) hn0 dL_law_212 ?_
    refine x_aload_n C (pc := 213) 3 dL_law_213 rfl ?_
    refine x_iload_n C (pc := 214) 0 dL_law_214 rfl ?_
    refine x_iconst C (pc := 215) (v := 3) dL_law_215 (by decide) ?_
    refine x_iadd C (pc := 216) (v := nI (i + 3)) dL_law_216 (nI_add i 3) ?_
    refine x_sld C hX hb0 hz (pc := 217) (j := i + 3) (by omega) hn0 dL_law_217 ?_
    refine x_cViE C (pc := 218) (st := [.int (100000 + (((xs (i + 2)) - (xs (i + 3))) - (pd v 0 - pd v 1)))]) (c_X7_finds_s l D z cI cZ cP cR (132 + 14 * kq) F_199 123 f0 hn (nI len) spt wrg rd a ps slr sv sda wy pa2 nu n kk cw c0 wi rl sp pd od v (xs (i + 2)) (xs (i + 3)) hM2 (by omega) hf0 hn6 hA he hvn) (cwV 3 C.2.2.2.2.1 gL_law_X7_finds rfl rfl rfl hd_X7_finds ⟨Nat.le_of_ble_eq_true rfl, Nat.le_of_ble_eq_true rfl⟩) (by omega) hM2.ob rfl rfl rfl (Nat.le_of_ble_eq_true rfl) dL_law_218 ⟨rm_c (by show 132 + 14 * kq + 0 ≤ 10000; omega), rm_s (by show 3833 + 90 * kq + 0 ≤ 100000; omega)⟩ (fun F_218 h_218 => ?_)
    obtain ⟨a3, hM3, hA3, fr3⟩ := h_218
    have hR3 := hR2.same (F2 := F_218) (fun q h1 h2 => fr3 q (by omega))
    have hC3 := isCl_same (F2 := F_218) hC2 (fun q hq => fr3 q (by omega))
    refine x_icmp_eq C (pc := 221) (tgt := 669) dL_law_221 (by decide) (fun c_221 => ?_) (fun c_221 => absurd c_221 (not_not_intro rfl))
    exact K kq F_218 (Nat.le_succ _) (by have hM3k := hM3; rw [kpM_eq] at hM3k; exact (LI.mk hR3 hC3 hM3k hA3 hpi (by rw [sw_found]; exact hrk) (by have h9 := ps_keep hps hmR; rw [kpM_eq] at h9; exact h9) (hds_keep hds hsp) hsl hcd hcd2))
  · refine x_aload_n C (pc := 183) 2 dL_law_183 rfl ?_
    refine x_aload_n C (pc := 184) 3 dL_law_184 rfl ?_
    refine x_iload_n C (pc := 185) 0 dL_law_185 rfl ?_
    refine x_iconst C (pc := 186) (v := 1) dL_law_186 (by decide) ?_
    refine x_iadd C (pc := 187) (v := nI (i + 1)) dL_law_187 (nI_add i 1) ?_
    refine x_sld C hX hb0 hz (pc := 188) (j := i + 1) (by omega) hn0 dL_law_188 ?_
    refine x_aload_n C (pc := 189) 3 dL_law_189 rfl ?_
    refine x_iload_n C (pc := 190) 0 dL_law_190 rfl ?_
    refine x_iconst C (pc := 191) (v := 2) dL_law_191 (by decide) ?_
    refine x_iadd C (pc := 192) (v := nI (i + 2)) dL_law_192 (nI_add i 2) ?_
    refine x_sld C hX hb0 hz (pc := 193) (j := i + 2) (by omega) hn0 dL_law_193 ?_
    refine x_aload_n C (pc := 194) 3 dL_law_194 rfl ?_
    refine x_iload_n C (pc := 195) 0 dL_law_195 rfl ?_
    refine x_iconst C (pc := 196) (v := 3) dL_law_196 (by decide) ?_
    refine x_iadd C (pc := 197) (v := nI (i + 3)) dL_law_197 (nI_add i 3) ?_
    refine x_sld C hX hb0 hz (pc := 198) (j := i + 3) (by omega) hn0 dL_law_198 ?_
    refine x_cViR C (pc := 199) (st := []) (c_X6_finds_e l D z cI cZ cP cR (132 + 14 * kq) F n kk cw c0 wi rl sp pd bs od pi T hn hb hd sl sd len pa (xs (i + 1)) (xs (i + 2)) (xs (i + 3)) hR hnn hkk hcw hc0 hcnt hsp hpi hC he) (cwV 3 C.2.2.2.2.1 gL_law_X6_finds rfl rfl rfl hd_X6_finds ⟨Nat.le_of_ble_eq_true rfl, Nat.le_of_ble_eq_true rfl⟩) (by omega) hC.1.1 rfl rfl rfl (Nat.le_of_ble_eq_true rfl) dL_law_199 ⟨rm_c (by show 132 + 14 * kq + 0 ≤ 10000; omega), rm_s (by show 3833 + 90 * kq + 0 ≤ 100000; omega)⟩ ?_
    refine x_aload_n C (pc := 202) 1 dL_law_202 rfl ?_
    refine x_aload_n C (pc := 203) 3 dL_law_203 rfl ?_
    refine x_iload_n C (pc := 204) 0 dL_law_204 rfl ?_
    refine x_iconst C (pc := 205) (v := 1) dL_law_205 (by decide) ?_
    refine x_iadd C (pc := 206) (v := nI (i + 1)) dL_law_206 (nI_add i 1) ?_
    refine x_sld C hX hb0 hz (pc := 207) (j := i + 1) (by omega) hn0 dL_law_207 ?_
    refine x_aload_n C (pc := 208) 3 dL_law_208 rfl ?_
    refine x_iload_n C (pc := 209) 0 dL_law_209 rfl ?_
    refine x_iconst C (pc := 210) (v := 2) dL_law_210 (by decide) ?_
    refine x_iadd C (pc := 211) (v := nI (i + 2)) dL_law_211 (nI_add i 2) ?_
    refine x_sld C hX hb0 hz (pc := 212) (j := i + 2) (by omega) hn0 dL_law_212 ?_
    refine x_aload_n C (pc := 213) 3 dL_law_213 rfl ?_
    refine x_iload_n C (pc := 214) 0 dL_law_214 rfl ?_
    refine x_iconst C (pc := 215) (v := 3) dL_law_215 (by decide) ?_
    refine x_iadd C (pc := 216) (v := nI (i + 3)) dL_law_216 (nI_add i 3) ?_
    refine x_sld C hX hb0 hz (pc := 217) (j := i + 3) (by omega) hn0 dL_law_217 ?_
    refine x_cViR C (pc := 218) (st := [.int (efF (xs (i + 1)) (xs (i + 2)) (xs (i + 3)) (nI n) pd cw)]) (c_X7_finds_e l D z cI cZ cP cR (132 + 14 * kq) F 123 f0 hn (nI len) spt wrg rd a ps slr sv sda wy pa2 nu n kk cw c0 wi rl sp pd od (xs (i + 1)) (xs (i + 2)) (xs (i + 3)) hM (by omega) hf0 hn6 hA he) (cwV 3 C.2.2.2.2.1 gL_law_X7_finds rfl rfl rfl hd_X7_finds ⟨Nat.le_of_ble_eq_true rfl, Nat.le_of_ble_eq_true rfl⟩) (by omega) hM.ob rfl rfl rfl (Nat.le_of_ble_eq_true rfl) dL_law_218 ⟨rm_c (by show 132 + 14 * kq + 0 ≤ 10000; omega), rm_s (by show 3833 + 90 * kq + 0 ≤ 100000; omega)⟩ ?_
    refine x_icmp_eq C (pc := 221) (tgt := 669) dL_law_221 (by decide) (fun c_221 => ?_) (fun c_221 => absurd c_221 (not_not_intro rfl))
    exact K kq F (Nat.le_succ _) (LI.mk hR hC hM hA hpi hrk hps hds hsl hcd hcd2)
set_option maxHeartbeats 8000000 in
set_option maxRecDepth 100000 in
theorem lc_limit {p : Program} {l : Launch} {e : Env} {s : State} {m : MethodId} {below : List Frame} {meth : Method} {c : Code} {z : Nat} {D : va_G} {Q : State → Prop} {cI cZ cP cR : ClassId} {b n0 : Nat} {xs : Nat → Int32} (C : gC p s m #[.ref b] c RL cL_law 4 wsL_law z D cI cZ cP cR) (hX : va_X b n0 xs s s.heap) (hb0 : b < s.heap.size) (hz : z = s.heap.size) (hn0 : n0 ≤ 2048) {i kq : Nat} {F : Nat → va_E} (hi : i + 4 ≤ n0) (hkq : 4 * kq ≤ i) (hI : LI z cI cZ cP cR kq F) (K : ∀ (kq2 : Nat) (F2 : Nat → va_E), kq2 ≤ kq + 1 → LI z cI cZ cP cR kq2 F2 → gX p l e room_1 s m #[.ref b] below meth c 4 z D Q (132 + 14 * kq2) F2 (132 + 14 * kq2) (3833 + 90 * kq2) [(3, .int (nI i)), (2, .ref (z + 123)), (1, .ref (z + 0)), (0, .ref b)] 669 []) : gX p l e room_1 s m #[.ref b] below meth c 4 z D Q (132 + 14 * kq) F (132 + 14 * kq) (3833 + 90 * kq) [(3, .int (nI i)), (2, .ref (z + 123)), (1, .ref (z + 0)), (0, .ref b)] 226 [] := by
  obtain ⟨n, kk, cw, c0, wi, rl, sp, pd, bs, od, pi, T, hn, hb, hd, sl, sd, len, pa, f0, spt, wrg, rd, a, ps, slr, sv, sda, wy, pa2, nu, cd, hR, hC, hM, hA, hpi, hrk, hps, hds, hsl, hcd, hcd2⟩ := hI
  obtain ⟨-, -, -, -, -, -, -, hnn, hkk, hcw, hcnt, hc0, hsp, hrl, hwi, hod⟩ := id hA
  obtain ⟨hf0, hn6, -⟩ := id hps
  have hlen : len ≤ 80 := hC.2.2.2.2.2.2.2.1
  have h2n := two_lt hnn
  have hkq2 : kq ≤ 512 := by omega
  have hmR := mR.mk hA hpi hrk
  by_cases hv : inB (xs (i + 1)) 1 9999 = true
  · by_cases hk0 : kk = 0
    · refine x_aload_n C (pc := 226) 2 dL_law_226 rfl ?_
      refine x_aload_n C (pc := 227) 3 dL_law_227 rfl ?_
      refine x_iload_n C (pc := 228) 0 dL_law_228 rfl ?_
      refine x_iconst C (pc := 229) (v := 1) dL_law_229 (by decide) ?_
      refine x_iadd C (pc := 230) (v := nI (i + 1)) dL_law_230 (nI_add i 1) ?_
      refine x_sld C hX hb0 hz (pc := 231) (j := i + 1) (by omega) hn0 dL_law_231 ?_
      refine x_cViE C (pc := 232) (st := []) (c_X6_limit_s l D z cI cZ cP cR (132 + 14 * kq) F n kk cw c0 wi rl sp pd bs od pi T hn hb hd sl sd len pa (xs (i + 1)) hR hnn hkk hcw hc0 hcnt hsp hpi hC hv hk0) (cwV 1 C.2.2.2.2.1 gL_law_X6_limit rfl rfl rfl hd_X6_limit ⟨Nat.le_of_ble_eq_true rfl, Nat.le_of_ble_eq_true rfl⟩) (by omega) hC.1.1 rfl rfl rfl (Nat.le_of_ble_eq_true rfl) dL_law_232 ⟨rm_c (by show 132 + 14 * kq + 0 ≤ 10000; omega), rm_s (by show 3833 + 90 * kq + 0 ≤ 100000; omega)⟩ (fun F_232 h_232 => ?_)
      obtain ⟨hb2, hR2, hC2, fr2⟩ := h_232
      have hM2 := hM.same (F2 := F_232) (fun q h1 h2 => fr2 q (by omega))
      refine x_aload_n C (pc := 235) 1 dL_law_235 rfl ?_
      refine x_aload_n C (pc := 236) 3 dL_law_236 rfl ?_
      refine x_iload_n C (pc := 237) 0 dL_law_237 rfl ?_
      refine x_iconst C (pc := 238) (v := 1) dL_law_238 (by decide) ?_
      refine x_iadd C (pc := 239) (v := nI (i + 1)) dL_law_239 (nI_add i 1) ?_
      refine x_sld C hX hb0 hz (pc := 240) (j := i + 1) (by omega) hn0 dL_law_240 ?_
      refine x_cViE C (pc := 241) (st := [.int rl]) (c_X7_limit_s l D z cI cZ cP cR (132 + 14 * kq) F_232 123 f0 hn (nI len) spt wrg rd a ps slr sv sda wy pa2 nu n kk cw c0 wi rl sp pd od (xs (i + 1)) hM2 (by omega) hf0 hn6 hA hv hk0) (cwV 1 C.2.2.2.2.1 gL_law_X7_limit rfl rfl rfl hd_X7_limit ⟨Nat.le_of_ble_eq_true rfl, Nat.le_of_ble_eq_true rfl⟩) (by omega) hM2.ob rfl rfl rfl (Nat.le_of_ble_eq_true rfl) dL_law_241 ⟨rm_c (by show 132 + 14 * kq + 0 ≤ 10000; omega), rm_s (by show 3833 + 90 * kq + 0 ≤ 100000; omega)⟩ (fun F_241 h_241 => ?_)
      obtain ⟨a3, hM3, hA3, fr3⟩ := h_241
      have hR3 := hR2.same (F2 := F_241) (fun q h1 h2 => fr3 q (by omega))
      have hC3 := isCl_same (F2 := F_241) hC2 (fun q hq => fr3 q (by omega))
      refine x_icmp_eq C (pc := 244) (tgt := 669) dL_law_244 (by decide) (fun c_244 => ?_) (fun c_244 => absurd c_244 (not_not_intro rfl))
      exact K kq F_241 (Nat.le_succ _) (by have hM3k := hM3; rw [kpM_eq] at hM3k; exact (LI.mk hR3 hC3 hM3k hA3 hpi hrk (by have h9 := ps_keep hps hmR; rw [kpM_eq] at h9; exact h9) (hds_keep hds hsp) hsl hcd hcd2))
    · refine x_aload_n C (pc := 226) 2 dL_law_226 rfl ?_
      refine x_aload_n C (pc := 227) 3 dL_law_227 rfl ?_
      refine x_iload_n C (pc := 228) 0 dL_law_228 rfl ?_
      refine x_iconst C (pc := 229) (v := 1) dL_law_229 (by decide) ?_
      refine x_iadd C (pc := 230) (v := nI (i + 1)) dL_law_230 (nI_add i 1) ?_
      refine x_sld C hX hb0 hz (pc := 231) (j := i + 1) (by omega) hn0 dL_law_231 ?_
      refine x_cViR C (pc := 232) (st := []) (c_X6_limit_e2 l D z cI cZ cP cR (132 + 14 * kq) F n kk cw c0 wi rl sp pd bs od pi T hn hb hd sl sd len pa (xs (i + 1)) hR hnn hkk hcw hc0 hcnt hsp hpi hC hv (by omega)) (cwV 1 C.2.2.2.2.1 gL_law_X6_limit rfl rfl rfl hd_X6_limit ⟨Nat.le_of_ble_eq_true rfl, Nat.le_of_ble_eq_true rfl⟩) (by omega) hC.1.1 rfl rfl rfl (Nat.le_of_ble_eq_true rfl) dL_law_232 ⟨rm_c (by show 132 + 14 * kq + 0 ≤ 10000; omega), rm_s (by show 3833 + 90 * kq + 0 ≤ 100000; omega)⟩ ?_
      refine x_aload_n C (pc := 235) 1 dL_law_235 rfl ?_
      refine x_aload_n C (pc := 236) 3 dL_law_236 rfl ?_
      refine x_iload_n C (pc := 237) 0 dL_law_237 rfl ?_
      refine x_iconst C (pc := 238) (v := 1) dL_law_238 (by decide) ?_
      refine x_iadd C (pc := 239) (v := nI (i + 1)) dL_law_239 (nI_add i 1) ?_
      refine x_sld C hX hb0 hz (pc := 240) (j := i + 1) (by omega) hn0 dL_law_240 ?_
      refine x_cViR C (pc := 241) (st := [.int (-5)]) (c_X7_limit_e2 l D z cI cZ cP cR (132 + 14 * kq) F 123 f0 hn (nI len) spt wrg rd a ps slr sv sda wy pa2 nu n kk cw c0 wi rl sp pd od (xs (i + 1)) hM (by omega) hf0 hn6 hA hv (by omega)) (cwV 1 C.2.2.2.2.1 gL_law_X7_limit rfl rfl rfl hd_X7_limit ⟨Nat.le_of_ble_eq_true rfl, Nat.le_of_ble_eq_true rfl⟩) (by omega) hM.ob rfl rfl rfl (Nat.le_of_ble_eq_true rfl) dL_law_241 ⟨rm_c (by show 132 + 14 * kq + 0 ≤ 10000; omega), rm_s (by show 3833 + 90 * kq + 0 ≤ 100000; omega)⟩ ?_
      refine x_icmp_eq C (pc := 244) (tgt := 669) dL_law_244 (by decide) (fun c_244 => ?_) (fun c_244 => absurd c_244 (not_not_intro rfl))
      exact K kq F (Nat.le_succ _) (LI.mk hR hC hM hA hpi hrk hps hds hsl hcd hcd2)
  · refine x_aload_n C (pc := 226) 2 dL_law_226 rfl ?_
    refine x_aload_n C (pc := 227) 3 dL_law_227 rfl ?_
    refine x_iload_n C (pc := 228) 0 dL_law_228 rfl ?_
    refine x_iconst C (pc := 229) (v := 1) dL_law_229 (by decide) ?_
    refine x_iadd C (pc := 230) (v := nI (i + 1)) dL_law_230 (nI_add i 1) ?_
    refine x_sld C hX hb0 hz (pc := 231) (j := i + 1) (by omega) hn0 dL_law_231 ?_
    refine x_cViR C (pc := 232) (st := []) (c_X6_limit_e1 l D z cI cZ cP cR (132 + 14 * kq) F n kk cw c0 wi rl sp pd bs od pi T hn hb hd sl sd len pa (xs (i + 1)) hR hnn hkk hcw hc0 hcnt hsp hpi hC (by simpa using hv)) (cwV 1 C.2.2.2.2.1 gL_law_X6_limit rfl rfl rfl hd_X6_limit ⟨Nat.le_of_ble_eq_true rfl, Nat.le_of_ble_eq_true rfl⟩) (by omega) hC.1.1 rfl rfl rfl (Nat.le_of_ble_eq_true rfl) dL_law_232 ⟨rm_c (by show 132 + 14 * kq + 0 ≤ 10000; omega), rm_s (by show 3833 + 90 * kq + 0 ≤ 100000; omega)⟩ ?_
    refine x_aload_n C (pc := 235) 1 dL_law_235 rfl ?_
    refine x_aload_n C (pc := 236) 3 dL_law_236 rfl ?_
    refine x_iload_n C (pc := 237) 0 dL_law_237 rfl ?_
    refine x_iconst C (pc := 238) (v := 1) dL_law_238 (by decide) ?_
    refine x_iadd C (pc := 239) (v := nI (i + 1)) dL_law_239 (nI_add i 1) ?_
    refine x_sld C hX hb0 hz (pc := 240) (j := i + 1) (by omega) hn0 dL_law_240 ?_
    refine x_cViR C (pc := 241) (st := [.int (-2)]) (c_X7_limit_e1 l D z cI cZ cP cR (132 + 14 * kq) F 123 f0 hn (nI len) spt wrg rd a ps slr sv sda wy pa2 nu n kk cw c0 wi rl sp pd od (xs (i + 1)) hM (by omega) hf0 hn6 hA (by simpa using hv)) (cwV 1 C.2.2.2.2.1 gL_law_X7_limit rfl rfl rfl hd_X7_limit ⟨Nat.le_of_ble_eq_true rfl, Nat.le_of_ble_eq_true rfl⟩) (by omega) hM.ob rfl rfl rfl (Nat.le_of_ble_eq_true rfl) dL_law_241 ⟨rm_c (by show 132 + 14 * kq + 0 ≤ 10000; omega), rm_s (by show 3833 + 90 * kq + 0 ≤ 100000; omega)⟩ ?_
    refine x_icmp_eq C (pc := 244) (tgt := 669) dL_law_244 (by decide) (fun c_244 => ?_) (fun c_244 => absurd c_244 (not_not_intro rfl))
    exact K kq F (Nat.le_succ _) (LI.mk hR hC hM hA hpi hrk hps hds hsl hcd hcd2)
set_option maxHeartbeats 8000000 in
set_option maxRecDepth 100000 in
theorem lc_seed {p : Program} {l : Launch} {e : Env} {s : State} {m : MethodId} {below : List Frame} {meth : Method} {c : Code} {z : Nat} {D : va_G} {Q : State → Prop} {cI cZ cP cR : ClassId} {b n0 : Nat} {xs : Nat → Int32} (C : gC p s m #[.ref b] c RL cL_law 4 wsL_law z D cI cZ cP cR) (hX : va_X b n0 xs s s.heap) (hb0 : b < s.heap.size) (hz : z = s.heap.size) (hn0 : n0 ≤ 2048) {i kq : Nat} {F : Nat → va_E} (hi : i + 4 ≤ n0) (hkq : 4 * kq ≤ i) (hI : LI z cI cZ cP cR kq F) (K : ∀ (kq2 : Nat) (F2 : Nat → va_E), kq2 ≤ kq + 1 → LI z cI cZ cP cR kq2 F2 → gX p l e room_1 s m #[.ref b] below meth c 4 z D Q (132 + 14 * kq2) F2 (132 + 14 * kq2) (3833 + 90 * kq2) [(3, .int (nI i)), (2, .ref (z + 123)), (1, .ref (z + 0)), (0, .ref b)] 669 []) : gX p l e room_1 s m #[.ref b] below meth c 4 z D Q (132 + 14 * kq) F (132 + 14 * kq) (3833 + 90 * kq) [(3, .int (nI i)), (2, .ref (z + 123)), (1, .ref (z + 0)), (0, .ref b)] 249 [] := by
  obtain ⟨n, kk, cw, c0, wi, rl, sp, pd, bs, od, pi, T, hn, hb, hd, sl, sd, len, pa, f0, spt, wrg, rd, a, ps, slr, sv, sda, wy, pa2, nu, cd, hR, hC, hM, hA, hpi, hrk, hps, hds, hsl, hcd, hcd2⟩ := hI
  obtain ⟨-, -, -, -, -, -, -, hnn, hkk, hcw, hcnt, hc0, hsp, hrl, hwi, hod⟩ := id hA
  obtain ⟨hf0, hn6, -⟩ := id hps
  have hlen : len ≤ 80 := hC.2.2.2.2.2.2.2.1
  have h2n := two_lt hnn
  have hkq2 : kq ≤ 512 := by omega
  have hmR := mR.mk hA hpi hrk
  by_cases hv : (xs (i + 1)) < 0
  · refine x_aload_n C (pc := 249) 2 dL_law_249 rfl ?_
    refine x_aload_n C (pc := 250) 3 dL_law_250 rfl ?_
    refine x_iload_n C (pc := 251) 0 dL_law_251 rfl ?_
    refine x_iconst C (pc := 252) (v := 1) dL_law_252 (by decide) ?_
    refine x_iadd C (pc := 253) (v := nI (i + 1)) dL_law_253 (nI_add i 1) ?_
    refine x_sld C hX hb0 hz (pc := 254) (j := i + 1) (by omega) hn0 dL_law_254 ?_
    refine x_cViR C (pc := 255) (st := []) (c_X6_seed_e l D z cI cZ cP cR (132 + 14 * kq) F n kk cw c0 wi rl sp pd bs od pi T hn hb hd sl sd len pa (xs (i + 1)) hR hnn hkk hcw hc0 hcnt hsp hpi hC hv) (cwV 1 C.2.2.2.2.1 gL_law_X6_seed rfl rfl rfl hd_X6_seed ⟨Nat.le_of_ble_eq_true rfl, Nat.le_of_ble_eq_true rfl⟩) (by omega) hC.1.1 rfl rfl rfl (Nat.le_of_ble_eq_true rfl) dL_law_255 ⟨rm_c (by show 132 + 14 * kq + 0 ≤ 10000; omega), rm_s (by show 3833 + 90 * kq + 0 ≤ 100000; omega)⟩ ?_
    refine x_aload_n C (pc := 258) 1 dL_law_258 rfl ?_
    refine x_aload_n C (pc := 259) 3 dL_law_259 rfl ?_
    refine x_iload_n C (pc := 260) 0 dL_law_260 rfl ?_
    refine x_iconst C (pc := 261) (v := 1) dL_law_261 (by decide) ?_
    refine x_iadd C (pc := 262) (v := nI (i + 1)) dL_law_262 (nI_add i 1) ?_
    refine x_sld C hX hb0 hz (pc := 263) (j := i + 1) (by omega) hn0 dL_law_263 ?_
    refine x_cViR C (pc := 264) (st := [.int (-2)]) (c_X7_seed_e l D z cI cZ cP cR (132 + 14 * kq) F 123 f0 hn (nI len) spt wrg rd a ps slr sv sda wy pa2 nu n kk cw c0 wi rl sp pd od (xs (i + 1)) hM (by omega) hf0 hn6 hA hv) (cwV 1 C.2.2.2.2.1 gL_law_X7_seed rfl rfl rfl hd_X7_seed ⟨Nat.le_of_ble_eq_true rfl, Nat.le_of_ble_eq_true rfl⟩) (by omega) hM.ob rfl rfl rfl (Nat.le_of_ble_eq_true rfl) dL_law_264 ⟨rm_c (by show 132 + 14 * kq + 0 ≤ 10000; omega), rm_s (by show 3833 + 90 * kq + 0 ≤ 100000; omega)⟩ ?_
    refine x_icmp_eq C (pc := 267) (tgt := 669) dL_law_267 (by decide) (fun c_267 => ?_) (fun c_267 => absurd c_267 (not_not_intro rfl))
    exact K kq F (Nat.le_succ _) (LI.mk hR hC hM hA hpi hrk hps hds hsl hcd hcd2)
  · obtain ⟨v, hv31, hve⟩ := nI_of hv
    refine x_aload_n C (pc := 249) 2 dL_law_249 rfl ?_
    refine x_aload_n C (pc := 250) 3 dL_law_250 rfl ?_
    refine x_iload_n C (pc := 251) 0 dL_law_251 rfl ?_
    refine x_iconst C (pc := 252) (v := 1) dL_law_252 (by decide) ?_
    refine x_iadd C (pc := 253) (v := nI (i + 1)) dL_law_253 (nI_add i 1) ?_
    refine x_sld C hX hb0 hz (pc := 254) (j := i + 1) (by omega) hn0 dL_law_254 ?_
    refine x_eqi hve ?_
    refine x_cViE C (pc := 255) (st := []) (c_X6_seed_s l D z cI cZ cP cR (132 + 14 * kq) F n kk cw c0 wi rl sp pd bs od pi T hn hb hd sl sd len pa v hR hnn hkk hcw hc0 hcnt hsp hpi hC hv31) (cwV 1 C.2.2.2.2.1 gL_law_X6_seed rfl rfl rfl hd_X6_seed ⟨Nat.le_of_ble_eq_true rfl, Nat.le_of_ble_eq_true rfl⟩) (by omega) hC.1.1 rfl rfl rfl (Nat.le_of_ble_eq_true rfl) dL_law_255 ⟨rm_c (by show 132 + 14 * kq + 0 ≤ 10000; omega), rm_s (by show 3833 + 90 * kq + 0 ≤ 100000; omega)⟩ (fun F_255 h_255 => ?_)
    obtain ⟨hb2, hR2, hC2, fr2⟩ := h_255
    have hM2 := hM.same (F2 := F_255) (fun q h1 h2 => fr2 q (by omega))
    refine x_aload_n C (pc := 258) 1 dL_law_258 rfl ?_
    refine x_aload_n C (pc := 259) 3 dL_law_259 rfl ?_
    refine x_iload_n C (pc := 260) 0 dL_law_260 rfl ?_
    refine x_iconst C (pc := 261) (v := 1) dL_law_261 (by decide) ?_
    refine x_iadd C (pc := 262) (v := nI (i + 1)) dL_law_262 (nI_add i 1) ?_
    refine x_sld C hX hb0 hz (pc := 263) (j := i + 1) (by omega) hn0 dL_law_263 ?_
    refine x_eqi hve ?_
    refine x_cViE C (pc := 264) (st := [.int (nI c0)]) (c_X7_seed_s l D z cI cZ cP cR (132 + 14 * kq) F_255 123 f0 hn (nI len) spt wrg rd a ps slr sv sda wy pa2 nu n kk cw c0 wi rl sp pd od v hM2 (by omega) hf0 hn6 hA hv31) (cwV 1 C.2.2.2.2.1 gL_law_X7_seed rfl rfl rfl hd_X7_seed ⟨Nat.le_of_ble_eq_true rfl, Nat.le_of_ble_eq_true rfl⟩) (by omega) hM2.ob rfl rfl rfl (Nat.le_of_ble_eq_true rfl) dL_law_264 ⟨rm_c (by show 132 + 14 * kq + 0 ≤ 10000; omega), rm_s (by show 3833 + 90 * kq + 0 ≤ 100000; omega)⟩ (fun F_264 h_264 => ?_)
    obtain ⟨a3, hM3, hA3, fr3⟩ := h_264
    have hR3 := hR2.same (F2 := F_264) (fun q h1 h2 => fr3 q (by omega))
    have hC3 := isCl_same (F2 := F_264) hC2 (fun q hq => fr3 q (by omega))
    refine x_icmp_eq C (pc := 267) (tgt := 669) dL_law_267 (by decide) (fun c_267 => ?_) (fun c_267 => absurd c_267 (not_not_intro rfl))
    exact K kq F_264 (Nat.le_succ _) (by have hM3k := hM3; rw [kpM_eq] at hM3k; exact (LI.mk hR3 hC3 hM3k hA3 hpi hrk (by have h9 := ps_keep hps hmR; rw [kpM_eq] at h9; exact h9) (hds_keep hds hsp) hsl hcd hcd2))
set_option maxHeartbeats 8000000 in
set_option maxRecDepth 100000 in
theorem lc_draw {p : Program} {l : Launch} {e : Env} {s : State} {m : MethodId} {below : List Frame} {meth : Method} {c : Code} {z : Nat} {D : va_G} {Q : State → Prop} {cI cZ cP cR : ClassId} {b n0 : Nat} {xs : Nat → Int32} (C : gC p s m #[.ref b] c RL cL_law 4 wsL_law z D cI cZ cP cR) (hX : va_X b n0 xs s s.heap) (hb0 : b < s.heap.size) (hz : z = s.heap.size) (hn0 : n0 ≤ 2048) {i kq : Nat} {F : Nat → va_E} (hi : i + 4 ≤ n0) (hkq : 4 * kq ≤ i) (hI : LI z cI cZ cP cR kq F) (K : ∀ (kq2 : Nat) (F2 : Nat → va_E), kq2 ≤ kq + 1 → LI z cI cZ cP cR kq2 F2 → gX p l e room_1 s m #[.ref b] below meth c 4 z D Q (132 + 14 * kq2) F2 (132 + 14 * kq2) (3833 + 90 * kq2) [(3, .int (nI i)), (2, .ref (z + 123)), (1, .ref (z + 0)), (0, .ref b)] 669 []) : gX p l e room_1 s m #[.ref b] below meth c 4 z D Q (132 + 14 * kq) F (132 + 14 * kq) (3833 + 90 * kq) [(3, .int (nI i)), (2, .ref (z + 123)), (1, .ref (z + 0)), (0, .ref b)] 272 [] := by
  obtain ⟨n, kk, cw, c0, wi, rl, sp, pd, bs, od, pi, T, hn, hb, hd, sl, sd, len, pa, f0, spt, wrg, rd, a, ps, slr, sv, sda, wy, pa2, nu, cd, hR, hC, hM, hA, hpi, hrk, hps, hds, hsl, hcd, hcd2⟩ := hI
  obtain ⟨-, -, -, -, -, -, -, hnn, hkk, hcw, hcnt, hc0, hsp, hrl, hwi, hod⟩ := id hA
  obtain ⟨hf0, hn6, -⟩ := id hps
  have hlen : len ≤ 80 := hC.2.2.2.2.2.2.2.1
  have h2n := two_lt hnn
  have hkq2 : kq ≤ 512 := by omega
  have hmR := mR.mk hA hpi hrk
  by_cases ho : opB wi sp = true
  · by_cases hkn : kk = n
    · refine x_aload_n C (pc := 272) 2 dL_law_272 rfl ?_
      refine x_cViR C (pc := 273) (st := []) (c_X6_draw_e l D z cI cZ cP cR (132 + 14 * kq) F n kk cw c0 wi rl sp pd bs od pi T hn hb hd sl sd len pa  hR hnn hkk hcw hc0 hcnt hsp hpi hC (Or.inr hkn)) (cwV 0 C.2.2.2.2.1 gL_law_X6_draw rfl rfl rfl hd_X6_draw ⟨Nat.le_of_ble_eq_true rfl, Nat.le_of_ble_eq_true rfl⟩) (by omega) hC.1.1 rfl rfl rfl (Nat.le_of_ble_eq_true rfl) dL_law_273 ⟨rm_c (by show 132 + 14 * kq + 0 ≤ 10000; omega), rm_s (by show 3833 + 90 * kq + 0 ≤ 100000; omega)⟩ ?_
      refine x_aload_n C (pc := 276) 1 dL_law_276 rfl ?_
      refine x_cViR C (pc := 277) (st := [.int (-5)]) (c_X7_draw_e l D z cI cZ cP cR (132 + 14 * kq) F 123 f0 hn (nI len) spt wrg rd a ps slr sv sda wy pa2 nu n kk cw c0 wi rl sp pd od  hM (by omega) hf0 hn6 hA (Or.inr hkn)) (cwV 0 C.2.2.2.2.1 gL_law_X7_draw rfl rfl rfl hd_X7_draw ⟨Nat.le_of_ble_eq_true rfl, Nat.le_of_ble_eq_true rfl⟩) (by omega) hM.ob rfl rfl rfl (Nat.le_of_ble_eq_true rfl) dL_law_277 ⟨rm_c (by show 132 + 14 * kq + 0 ≤ 10000; omega), rm_s (by show 3833 + 90 * kq + 0 ≤ 100000; omega)⟩ ?_
      refine x_icmp_eq C (pc := 280) (tgt := 669) dL_law_280 (by decide) (fun c_280 => ?_) (fun c_280 => absurd c_280 (not_not_intro rfl))
      exact K kq F (Nat.le_succ _) (LI.mk hR hC hM hA hpi hrk hps hds hsl hcd hcd2)
    · obtain ⟨dr, hnc, hdn, hdt⟩ := ncG_ex0 (pl := lcgN c0 / 65536 % (n - kk)) hcnt (Nat.mod_lt _ (by omega))
      refine x_aload_n C (pc := 272) 2 dL_law_272 rfl ?_
      refine x_cViE C (pc := 273) (st := []) (c_X6_draw_s l D z cI cZ cP cR (132 + 14 * kq) F n kk cw c0 wi rl sp pd bs od pi T hn hb hd sl sd len pa dr hR hnn hkk hcw hc0 hcnt hsp hpi hC ho (by omega) hnc) (cwV 0 C.2.2.2.2.1 gL_law_X6_draw rfl rfl rfl hd_X6_draw ⟨Nat.le_of_ble_eq_true rfl, Nat.le_of_ble_eq_true rfl⟩) (by omega) hC.1.1 rfl rfl rfl (Nat.le_of_ble_eq_true rfl) dL_law_273 ⟨rm_c (by show 132 + 14 * kq + 0 ≤ 10000; omega), rm_s (by show 3833 + 90 * kq + 0 ≤ 100000; omega)⟩ (fun F_273 h_273 => ?_)
      obtain ⟨hb2, hR2, hC2, fr2⟩ := h_273
      have hM2 := hM.same (F2 := F_273) (fun q h1 h2 => fr2 q (by omega))
      refine x_aload_n C (pc := 276) 1 dL_law_276 rfl ?_
      refine x_cViE C (pc := 277) (st := [.int (nI dr)]) (c_X7_draw_s l D z cI cZ cP cR (132 + 14 * kq) F_273 123 f0 hn (nI len) spt wrg rd a ps slr sv sda wy pa2 nu n kk cw c0 wi rl sp pd od dr hM2 (by omega) hf0 hn6 hA ho (by omega) hnc) (cwV 0 C.2.2.2.2.1 gL_law_X7_draw rfl rfl rfl hd_X7_draw ⟨Nat.le_of_ble_eq_true rfl, Nat.le_of_ble_eq_true rfl⟩) (by omega) hM2.ob rfl rfl rfl (Nat.le_of_ble_eq_true rfl) dL_law_277 ⟨rm_c (by show 132 + 14 * kq + 0 ≤ 10000; omega), rm_s (by show 3833 + 90 * kq + 0 ≤ 100000; omega)⟩ (fun F_277 h_277 => ?_)
      obtain ⟨a3, hM3, hA3, fr3⟩ := h_277
      have hR3 := hR2.same (F2 := F_277) (fun q h1 h2 => fr3 q (by omega))
      have hC3 := isCl_same (F2 := F_277) hC2 (fun q hq => fr3 q (by omega))
      refine x_icmp_eq C (pc := 280) (tgt := 669) dL_law_280 (by decide) (fun c_280 => ?_) (fun c_280 => absurd c_280 (not_not_intro rfl))
      exact K kq F_277 (Nat.le_succ _) (by have hM3k := hM3; rw [kpM_eq] at hM3k; exact (LI.mk hR3 hC3 hM3k hA3 hpi hrk (by have h9 := ps_keep hps hmR; rw [kpM_eq] at h9; exact h9) (hds_keep hds hsp) hsl hcd hcd2))
  · have ho' : opB wi sp = false := by simpa using ho
    refine x_aload_n C (pc := 272) 2 dL_law_272 rfl ?_
    refine x_cViR C (pc := 273) (st := []) (c_X6_draw_e l D z cI cZ cP cR (132 + 14 * kq) F n kk cw c0 wi rl sp pd bs od pi T hn hb hd sl sd len pa  hR hnn hkk hcw hc0 hcnt hsp hpi hC (Or.inl ho')) (cwV 0 C.2.2.2.2.1 gL_law_X6_draw rfl rfl rfl hd_X6_draw ⟨Nat.le_of_ble_eq_true rfl, Nat.le_of_ble_eq_true rfl⟩) (by omega) hC.1.1 rfl rfl rfl (Nat.le_of_ble_eq_true rfl) dL_law_273 ⟨rm_c (by show 132 + 14 * kq + 0 ≤ 10000; omega), rm_s (by show 3833 + 90 * kq + 0 ≤ 100000; omega)⟩ ?_
    refine x_aload_n C (pc := 276) 1 dL_law_276 rfl ?_
    refine x_cViR C (pc := 277) (st := [.int (-5)]) (c_X7_draw_e l D z cI cZ cP cR (132 + 14 * kq) F 123 f0 hn (nI len) spt wrg rd a ps slr sv sda wy pa2 nu n kk cw c0 wi rl sp pd od  hM (by omega) hf0 hn6 hA (Or.inl ho')) (cwV 0 C.2.2.2.2.1 gL_law_X7_draw rfl rfl rfl hd_X7_draw ⟨Nat.le_of_ble_eq_true rfl, Nat.le_of_ble_eq_true rfl⟩) (by omega) hM.ob rfl rfl rfl (Nat.le_of_ble_eq_true rfl) dL_law_277 ⟨rm_c (by show 132 + 14 * kq + 0 ≤ 10000; omega), rm_s (by show 3833 + 90 * kq + 0 ≤ 100000; omega)⟩ ?_
    refine x_icmp_eq C (pc := 280) (tgt := 669) dL_law_280 (by decide) (fun c_280 => ?_) (fun c_280 => absurd c_280 (not_not_intro rfl))
    exact K kq F (Nat.le_succ _) (LI.mk hR hC hM hA hpi hrk hps hds hsl hcd hcd2)
set_option maxHeartbeats 8000000 in
set_option maxRecDepth 100000 in
theorem lc_count {p : Program} {l : Launch} {e : Env} {s : State} {m : MethodId} {below : List Frame} {meth : Method} {c : Code} {z : Nat} {D : va_G} {Q : State → Prop} {cI cZ cP cR : ClassId} {b n0 : Nat} {xs : Nat → Int32} (C : gC p s m #[.ref b] c RL cL_law 4 wsL_law z D cI cZ cP cR) (hX : va_X b n0 xs s s.heap) (hb0 : b < s.heap.size) (hz : z = s.heap.size) (hn0 : n0 ≤ 2048) {i kq : Nat} {F : Nat → va_E} (hi : i + 4 ≤ n0) (hkq : 4 * kq ≤ i) (hI : LI z cI cZ cP cR kq F) (K : ∀ (kq2 : Nat) (F2 : Nat → va_E), kq2 ≤ kq + 1 → LI z cI cZ cP cR kq2 F2 → gX p l e room_1 s m #[.ref b] below meth c 4 z D Q (132 + 14 * kq2) F2 (132 + 14 * kq2) (3833 + 90 * kq2) [(3, .int (nI i)), (2, .ref (z + 123)), (1, .ref (z + 0)), (0, .ref b)] 669 []) : gX p l e room_1 s m #[.ref b] below meth c 4 z D Q (132 + 14 * kq) F (132 + 14 * kq) (3833 + 90 * kq) [(3, .int (nI i)), (2, .ref (z + 123)), (1, .ref (z + 0)), (0, .ref b)] 285 [] := by
  obtain ⟨n, kk, cw, c0, wi, rl, sp, pd, bs, od, pi, T, hn, hb, hd, sl, sd, len, pa, f0, spt, wrg, rd, a, ps, slr, sv, sda, wy, pa2, nu, cd, hR, hC, hM, hA, hpi, hrk, hps, hds, hsl, hcd, hcd2⟩ := hI
  obtain ⟨-, -, -, -, -, -, -, hnn, hkk, hcw, hcnt, hc0, hsp, hrl, hwi, hod⟩ := id hA
  obtain ⟨hf0, hn6, -⟩ := id hps
  have hlen : len ≤ 80 := hC.2.2.2.2.2.2.2.1
  have h2n := two_lt hnn
  have hkq2 : kq ≤ 512 := by omega
  have hmR := mR.mk hA hpi hrk
  by_cases hv : inP (xs (i + 1)) (nI n) = true
  · obtain ⟨v, hvn, hve⟩ := inP_nat (by omega) hv
    rw [hve] at hv
    by_cases ho : opB wi sp = true
    · by_cases hbt : cw.testBit v = true
      · refine x_aload_n C (pc := 285) 2 dL_law_285 rfl ?_
        refine x_aload_n C (pc := 286) 3 dL_law_286 rfl ?_
        refine x_iload_n C (pc := 287) 0 dL_law_287 rfl ?_
        refine x_iconst C (pc := 288) (v := 1) dL_law_288 (by decide) ?_
        refine x_iadd C (pc := 289) (v := nI (i + 1)) dL_law_289 (nI_add i 1) ?_
        refine x_sld C hX hb0 hz (pc := 290) (j := i + 1) (by omega) hn0 dL_law_290 ?_
        refine x_eqi hve ?_
        refine x_cViR C (pc := 291) (st := []) (c_X6_count_e2 l D z cI cZ cP cR (132 + 14 * kq) F n kk cw c0 wi rl sp pd bs od pi T hn hb hd sl sd len pa v hR hnn hkk hcw hc0 hcnt hsp hpi hC hv hvn (Or.inr hbt)) (cwV 1 C.2.2.2.2.1 gL_law_X6_count rfl rfl rfl hd_X6_count ⟨Nat.le_of_ble_eq_true rfl, Nat.le_of_ble_eq_true rfl⟩) (by omega) hC.1.1 rfl rfl rfl (Nat.le_of_ble_eq_true rfl) dL_law_291 ⟨rm_c (by show 132 + 14 * kq + 0 ≤ 10000; omega), rm_s (by show 3833 + 90 * kq + 0 ≤ 100000; omega)⟩ ?_
        refine x_aload_n C (pc := 294) 1 dL_law_294 rfl ?_
        refine x_aload_n C (pc := 295) 3 dL_law_295 rfl ?_
        refine x_iload_n C (pc := 296) 0 dL_law_296 rfl ?_
        refine x_iconst C (pc := 297) (v := 1) dL_law_297 (by decide) ?_
        refine x_iadd C (pc := 298) (v := nI (i + 1)) dL_law_298 (nI_add i 1) ?_
        refine x_sld C hX hb0 hz (pc := 299) (j := i + 1) (by omega) hn0 dL_law_299 ?_
        refine x_eqi hve ?_
        refine x_cViR C (pc := 300) (st := [.int (-5)]) (c_X7_count_e2 l D z cI cZ cP cR (132 + 14 * kq) F 123 f0 hn (nI len) spt wrg rd a ps slr sv sda wy pa2 nu n kk cw c0 wi rl sp pd od v hM (by omega) hf0 hn6 hA hv hvn (Or.inr hbt)) (cwV 1 C.2.2.2.2.1 gL_law_X7_count rfl rfl rfl hd_X7_count ⟨Nat.le_of_ble_eq_true rfl, Nat.le_of_ble_eq_true rfl⟩) (by omega) hM.ob rfl rfl rfl (Nat.le_of_ble_eq_true rfl) dL_law_300 ⟨rm_c (by show 132 + 14 * kq + 0 ≤ 10000; omega), rm_s (by show 3833 + 90 * kq + 0 ≤ 100000; omega)⟩ ?_
        refine x_icmp_eq C (pc := 303) (tgt := 669) dL_law_303 (by decide) (fun c_303 => ?_) (fun c_303 => absurd c_303 (not_not_intro rfl))
        exact K kq F (Nat.le_succ _) (LI.mk hR hC hM hA hpi hrk hps hds hsl hcd hcd2)
      · have hbt' : cw.testBit v = false := by simpa using hbt
        refine x_aload_n C (pc := 285) 2 dL_law_285 rfl ?_
        refine x_aload_n C (pc := 286) 3 dL_law_286 rfl ?_
        refine x_iload_n C (pc := 287) 0 dL_law_287 rfl ?_
        refine x_iconst C (pc := 288) (v := 1) dL_law_288 (by decide) ?_
        refine x_iadd C (pc := 289) (v := nI (i + 1)) dL_law_289 (nI_add i 1) ?_
        refine x_sld C hX hb0 hz (pc := 290) (j := i + 1) (by omega) hn0 dL_law_290 ?_
        refine x_eqi hve ?_
        refine x_cViE C (pc := 291) (st := []) (c_X6_count_s l D z cI cZ cP cR (132 + 14 * kq) F n kk cw c0 wi rl sp pd bs od pi T hn hb hd sl sd len pa v hR hnn hkk hcw hc0 hcnt hsp hpi hC hv hvn ho hbt') (cwV 1 C.2.2.2.2.1 gL_law_X6_count rfl rfl rfl hd_X6_count ⟨Nat.le_of_ble_eq_true rfl, Nat.le_of_ble_eq_true rfl⟩) (by omega) hC.1.1 rfl rfl rfl (Nat.le_of_ble_eq_true rfl) dL_law_291 ⟨rm_c (by show 132 + 14 * kq + 0 ≤ 10000; omega), rm_s (by show 3833 + 90 * kq + 0 ≤ 100000; omega)⟩ (fun F_291 h_291 => ?_)
        obtain ⟨hb2, hR2, hC2, fr2⟩ := h_291
        have hM2 := hM.same (F2 := F_291) (fun q h1 h2 => fr2 q (by omega))
        refine x_aload_n C (pc := 294) 1 dL_law_294 rfl ?_
        refine x_aload_n C (pc := 295) 3 dL_law_295 rfl ?_
        refine x_iload_n C (pc := 296) 0 dL_law_296 rfl ?_
        refine x_iconst C (pc := 297) (v := 1) dL_law_297 (by decide) ?_
        refine x_iadd C (pc := 298) (v := nI (i + 1)) dL_law_298 (nI_add i 1) ?_
        refine x_sld C hX hb0 hz (pc := 299) (j := i + 1) (by omega) hn0 dL_law_299 ?_
        refine x_eqi hve ?_
        refine x_cViE C (pc := 300) (st := [.int (nI (kk + 1))]) (c_X7_count_s l D z cI cZ cP cR (132 + 14 * kq) F_291 123 f0 hn (nI len) spt wrg rd a ps slr sv sda wy pa2 nu n kk cw c0 wi rl sp pd od v hM2 (by omega) hf0 hn6 hA hv hvn ho hbt') (cwV 1 C.2.2.2.2.1 gL_law_X7_count rfl rfl rfl hd_X7_count ⟨Nat.le_of_ble_eq_true rfl, Nat.le_of_ble_eq_true rfl⟩) (by omega) hM2.ob rfl rfl rfl (Nat.le_of_ble_eq_true rfl) dL_law_300 ⟨rm_c (by show 132 + 14 * kq + 0 ≤ 10000; omega), rm_s (by show 3833 + 90 * kq + 0 ≤ 100000; omega)⟩ (fun F_300 h_300 => ?_)
        obtain ⟨a3, hM3, hA3, fr3⟩ := h_300
        have hR3 := hR2.same (F2 := F_300) (fun q h1 h2 => fr3 q (by omega))
        have hC3 := isCl_same (F2 := F_300) hC2 (fun q hq => fr3 q (by omega))
        refine x_icmp_eq C (pc := 303) (tgt := 669) dL_law_303 (by decide) (fun c_303 => ?_) (fun c_303 => absurd c_303 (not_not_intro rfl))
        exact K kq F_300 (Nat.le_succ _) (by have hM3k := hM3; rw [kpM_eq] at hM3k; exact (LI.mk hR3 hC3 hM3k hA3 hpi hrk (by have h9 := ps_keep hps hmR; rw [kpM_eq] at h9; exact h9) (hds_keep hds hsp) hsl hcd hcd2))
    · have ho' : opB wi sp = false := by simpa using ho
      refine x_aload_n C (pc := 285) 2 dL_law_285 rfl ?_
      refine x_aload_n C (pc := 286) 3 dL_law_286 rfl ?_
      refine x_iload_n C (pc := 287) 0 dL_law_287 rfl ?_
      refine x_iconst C (pc := 288) (v := 1) dL_law_288 (by decide) ?_
      refine x_iadd C (pc := 289) (v := nI (i + 1)) dL_law_289 (nI_add i 1) ?_
      refine x_sld C hX hb0 hz (pc := 290) (j := i + 1) (by omega) hn0 dL_law_290 ?_
      refine x_eqi hve ?_
      refine x_cViR C (pc := 291) (st := []) (c_X6_count_e2 l D z cI cZ cP cR (132 + 14 * kq) F n kk cw c0 wi rl sp pd bs od pi T hn hb hd sl sd len pa v hR hnn hkk hcw hc0 hcnt hsp hpi hC hv hvn (Or.inl ho')) (cwV 1 C.2.2.2.2.1 gL_law_X6_count rfl rfl rfl hd_X6_count ⟨Nat.le_of_ble_eq_true rfl, Nat.le_of_ble_eq_true rfl⟩) (by omega) hC.1.1 rfl rfl rfl (Nat.le_of_ble_eq_true rfl) dL_law_291 ⟨rm_c (by show 132 + 14 * kq + 0 ≤ 10000; omega), rm_s (by show 3833 + 90 * kq + 0 ≤ 100000; omega)⟩ ?_
      refine x_aload_n C (pc := 294) 1 dL_law_294 rfl ?_
      refine x_aload_n C (pc := 295) 3 dL_law_295 rfl ?_
      refine x_iload_n C (pc := 296) 0 dL_law_296 rfl ?_
      refine x_iconst C (pc := 297) (v := 1) dL_law_297 (by decide) ?_
      refine x_iadd C (pc := 298) (v := nI (i + 1)) dL_law_298 (nI_add i 1) ?_
      refine x_sld C hX hb0 hz (pc := 299) (j := i + 1) (by omega) hn0 dL_law_299 ?_
      refine x_eqi hve ?_
      refine x_cViR C (pc := 300) (st := [.int (-5)]) (c_X7_count_e2 l D z cI cZ cP cR (132 + 14 * kq) F 123 f0 hn (nI len) spt wrg rd a ps slr sv sda wy pa2 nu n kk cw c0 wi rl sp pd od v hM (by omega) hf0 hn6 hA hv hvn (Or.inl ho')) (cwV 1 C.2.2.2.2.1 gL_law_X7_count rfl rfl rfl hd_X7_count ⟨Nat.le_of_ble_eq_true rfl, Nat.le_of_ble_eq_true rfl⟩) (by omega) hM.ob rfl rfl rfl (Nat.le_of_ble_eq_true rfl) dL_law_300 ⟨rm_c (by show 132 + 14 * kq + 0 ≤ 10000; omega), rm_s (by show 3833 + 90 * kq + 0 ≤ 100000; omega)⟩ ?_
      refine x_icmp_eq C (pc := 303) (tgt := 669) dL_law_303 (by decide) (fun c_303 => ?_) (fun c_303 => absurd c_303 (not_not_intro rfl))
      exact K kq F (Nat.le_succ _) (LI.mk hR hC hM hA hpi hrk hps hds hsl hcd hcd2)
  · have hv' : inP (xs (i + 1)) (nI n) = false := by simpa using hv
    refine x_aload_n C (pc := 285) 2 dL_law_285 rfl ?_
    refine x_aload_n C (pc := 286) 3 dL_law_286 rfl ?_
    refine x_iload_n C (pc := 287) 0 dL_law_287 rfl ?_
    refine x_iconst C (pc := 288) (v := 1) dL_law_288 (by decide) ?_
    refine x_iadd C (pc := 289) (v := nI (i + 1)) dL_law_289 (nI_add i 1) ?_
    refine x_sld C hX hb0 hz (pc := 290) (j := i + 1) (by omega) hn0 dL_law_290 ?_
    refine x_cViR C (pc := 291) (st := []) (c_X6_count_e1 l D z cI cZ cP cR (132 + 14 * kq) F n kk cw c0 wi rl sp pd bs od pi T hn hb hd sl sd len pa (xs (i + 1)) hR hnn hkk hcw hc0 hcnt hsp hpi hC hv') (cwV 1 C.2.2.2.2.1 gL_law_X6_count rfl rfl rfl hd_X6_count ⟨Nat.le_of_ble_eq_true rfl, Nat.le_of_ble_eq_true rfl⟩) (by omega) hC.1.1 rfl rfl rfl (Nat.le_of_ble_eq_true rfl) dL_law_291 ⟨rm_c (by show 132 + 14 * kq + 0 ≤ 10000; omega), rm_s (by show 3833 + 90 * kq + 0 ≤ 100000; omega)⟩ ?_
    refine x_aload_n C (pc := 294) 1 dL_law_294 rfl ?_
    refine x_aload_n C (pc := 295) 3 dL_law_295 rfl ?_
    refine x_iload_n C (pc := 296) 0 dL_law_296 rfl ?_
    refine x_iconst C (pc := 297) (v := 1) dL_law_297 (by decide) ?_
    refine x_iadd C (pc := 298) (v := nI (i + 1)) dL_law_298 (nI_add i 1) ?_
    refine x_sld C hX hb0 hz (pc := 299) (j := i + 1) (by omega) hn0 dL_law_299 ?_
    refine x_cViR C (pc := 300) (st := [.int (-1)]) (c_X7_count_e1 l D z cI cZ cP cR (132 + 14 * kq) F 123 f0 hn (nI len) spt wrg rd a ps slr sv sda wy pa2 nu n kk cw c0 wi rl sp pd od (xs (i + 1)) hM (by omega) hf0 hn6 hA hv') (cwV 1 C.2.2.2.2.1 gL_law_X7_count rfl rfl rfl hd_X7_count ⟨Nat.le_of_ble_eq_true rfl, Nat.le_of_ble_eq_true rfl⟩) (by omega) hM.ob rfl rfl rfl (Nat.le_of_ble_eq_true rfl) dL_law_300 ⟨rm_c (by show 132 + 14 * kq + 0 ≤ 10000; omega), rm_s (by show 3833 + 90 * kq + 0 ≤ 100000; omega)⟩ ?_
    refine x_icmp_eq C (pc := 303) (tgt := 669) dL_law_303 (by decide) (fun c_303 => ?_) (fun c_303 => absurd c_303 (not_not_intro rfl))
    exact K kq F (Nat.le_succ _) (LI.mk hR hC hM hA hpi hrk hps hds hsl hcd hcd2)
set_option maxHeartbeats 8000000 in
set_option maxRecDepth 100000 in
theorem lc_finish {p : Program} {l : Launch} {e : Env} {s : State} {m : MethodId} {below : List Frame} {meth : Method} {c : Code} {z : Nat} {D : va_G} {Q : State → Prop} {cI cZ cP cR : ClassId} {b n0 : Nat} {xs : Nat → Int32} (C : gC p s m #[.ref b] c RL cL_law 4 wsL_law z D cI cZ cP cR) (hX : va_X b n0 xs s s.heap) (hb0 : b < s.heap.size) (hz : z = s.heap.size) (hn0 : n0 ≤ 2048) {i kq : Nat} {F : Nat → va_E} (hi : i + 4 ≤ n0) (hkq : 4 * kq ≤ i) (hI : LI z cI cZ cP cR kq F) (K : ∀ (kq2 : Nat) (F2 : Nat → va_E), kq2 ≤ kq + 1 → LI z cI cZ cP cR kq2 F2 → gX p l e room_1 s m #[.ref b] below meth c 4 z D Q (132 + 14 * kq2) F2 (132 + 14 * kq2) (3833 + 90 * kq2) [(3, .int (nI i)), (2, .ref (z + 123)), (1, .ref (z + 0)), (0, .ref b)] 669 []) : gX p l e room_1 s m #[.ref b] below meth c 4 z D Q (132 + 14 * kq) F (132 + 14 * kq) (3833 + 90 * kq) [(3, .int (nI i)), (2, .ref (z + 123)), (1, .ref (z + 0)), (0, .ref b)] 308 [] := by
  obtain ⟨n, kk, cw, c0, wi, rl, sp, pd, bs, od, pi, T, hn, hb, hd, sl, sd, len, pa, f0, spt, wrg, rd, a, ps, slr, sv, sda, wy, pa2, nu, cd, hR, hC, hM, hA, hpi, hrk, hps, hds, hsl, hcd, hcd2⟩ := hI
  obtain ⟨-, -, -, -, -, -, -, hnn, hkk, hcw, hcnt, hc0, hsp, hrl, hwi, hod⟩ := id hA
  obtain ⟨hf0, hn6, -⟩ := id hps
  have hlen : len ≤ 80 := hC.2.2.2.2.2.2.2.1
  have h2n := two_lt hnn
  have hkq2 : kq ≤ 512 := by omega
  have hmR := mR.mk hA hpi hrk
  by_cases ho : opB wi sp = true
  · by_cases hm : decide (rbF wi pd pi n (duG (fun w => decide (rbF wi pd pi n w w ≤ rl)) n (n - kk) kk cw c0 od).2.1 (duG (fun w => decide (rbF wi pd pi n w w ≤ rl)) n (n - kk) kk cw c0 od).2.1 ≤ rl) = true
    · refine x_aload_n C (pc := 308) 2 dL_law_308 rfl ?_
      refine x_cViE C (pc := 309) (st := []) (c_X6_finish_s l D z cI cZ cP cR (132 + 14 * kq) F n kk cw c0 wi rl sp pd bs od pi T hn hb hd sl sd len pa  hR hnn hkk hcw hc0 hcnt hsp hpi hC ho hm) (cwV 0 C.2.2.2.2.1 gL_law_X6_finish rfl rfl rfl hd_X6_finish ⟨Nat.le_of_ble_eq_true rfl, Nat.le_of_ble_eq_true rfl⟩) (by omega) hC.1.1 rfl rfl rfl (Nat.le_of_ble_eq_true rfl) dL_law_309 ⟨rm_c (by show 132 + 14 * kq + 0 ≤ 10000; omega), rm_s (by show 3833 + 90 * kq + 0 ≤ 100000; omega)⟩ (fun F_309 h_309 => ?_)
      obtain ⟨hb2, T2, hR2, hC2, fr2⟩ := h_309
      have hM2 := hM.same (F2 := F_309) (fun q h1 h2 => fr2 q (by omega))
      refine x_aload_n C (pc := 312) 1 dL_law_312 rfl ?_
      refine x_cViE C (pc := 313) (st := [.int (nI ((duG (fun w => decide (rbF wi pd pi n w w ≤ rl)) n (n - kk) kk cw c0 od).1 - kk))]) (c_X7_finish_s l D z cI cZ cP cR (132 + 14 * kq) F_309 123 f0 hn (nI len) spt wrg rd a ps slr sv sda wy pa2 nu n kk cw c0 wi rl sp pd od pi hM2 (by omega) hf0 hn6 hA hrk ho hm) (cwV 0 C.2.2.2.2.1 gL_law_X7_finish rfl rfl rfl hd_X7_finish ⟨Nat.le_of_ble_eq_true rfl, Nat.le_of_ble_eq_true rfl⟩) (by omega) hM2.ob rfl rfl rfl (Nat.le_of_ble_eq_true rfl) dL_law_313 ⟨rm_c (by show 132 + 14 * kq + 0 ≤ 10000; omega), rm_s (by show 3833 + 90 * kq + 0 ≤ 100000; omega)⟩ (fun F_313 h_313 => ?_)
      obtain ⟨a3, sd3, hM3, hA3, fr3⟩ := h_313
      have hR3 := hR2.same (F2 := F_313) (fun q h1 h2 => fr3 q (by omega))
      have hC3 := isCl_same (F2 := F_313) hC2 (fun q hq => fr3 q (by omega))
      refine x_icmp_eq C (pc := 316) (tgt := 669) dL_law_316 (by decide) (fun c_316 => ?_) (fun c_316 => absurd c_316 (not_not_intro rfl))
      exact K kq F_313 (Nat.le_succ _) (by have hM3k := hM3; rw [kpM_eq] at hM3k; exact (LI.mk hR3 hC3 hM3k hA3 hpi hrk (by have h9 := ps_keep hps hmR; rw [kpM_eq] at h9; exact h9) (hds_keep hds hsp) hsl hcd hcd2))
    · have hm' : decide (rbF wi pd pi n (duG (fun w => decide (rbF wi pd pi n w w ≤ rl)) n (n - kk) kk cw c0 od).2.1 (duG (fun w => decide (rbF wi pd pi n w w ≤ rl)) n (n - kk) kk cw c0 od).2.1 ≤ rl) = false := by simpa using hm
      refine x_aload_n C (pc := 308) 2 dL_law_308 rfl ?_
      refine x_cViE C (pc := 309) (st := []) (c_X6_finish_e2 l D z cI cZ cP cR (132 + 14 * kq) F n kk cw c0 wi rl sp pd bs od pi T hn hb hd sl sd len pa  hR hnn hkk hcw hc0 hcnt hsp hpi hC ho hm') (cwV 0 C.2.2.2.2.1 gL_law_X6_finish rfl rfl rfl hd_X6_finish ⟨Nat.le_of_ble_eq_true rfl, Nat.le_of_ble_eq_true rfl⟩) (by omega) hC.1.1 rfl rfl rfl (Nat.le_of_ble_eq_true rfl) dL_law_309 ⟨rm_c (by show 132 + 14 * kq + 0 ≤ 10000; omega), rm_s (by show 3833 + 90 * kq + 0 ≤ 100000; omega)⟩ (fun F_309 h_309 => ?_)
      obtain ⟨T2, hR2, hC2, fr2⟩ := h_309
      have hM2 := hM.same (F2 := F_309) (fun q h1 h2 => fr2 q (by omega))
      refine x_aload_n C (pc := 312) 1 dL_law_312 rfl ?_
      refine x_cViE C (pc := 313) (st := [.int (-5)]) (c_X7_finish_e2 l D z cI cZ cP cR (132 + 14 * kq) F_309 123 f0 hn (nI len) spt wrg rd a ps slr sv sda wy pa2 nu n kk cw c0 wi rl sp pd od pi hM2 (by omega) hf0 hn6 hA hrk ho hm') (cwV 0 C.2.2.2.2.1 gL_law_X7_finish rfl rfl rfl hd_X7_finish ⟨Nat.le_of_ble_eq_true rfl, Nat.le_of_ble_eq_true rfl⟩) (by omega) hM2.ob rfl rfl rfl (Nat.le_of_ble_eq_true rfl) dL_law_313 ⟨rm_c (by show 132 + 14 * kq + 0 ≤ 10000; omega), rm_s (by show 3833 + 90 * kq + 0 ≤ 100000; omega)⟩ (fun F_313 h_313 => ?_)
      obtain ⟨sd3, hM3, fr3⟩ := h_313
      have hR3 := hR2.same (F2 := F_313) (fun q h1 h2 => fr3 q (by omega))
      have hC3 := isCl_same (F2 := F_313) hC2 (fun q hq => fr3 q (by omega))
      refine x_icmp_eq C (pc := 316) (tgt := 669) dL_law_316 (by decide) (fun c_316 => ?_) (fun c_316 => absurd c_316 (not_not_intro rfl))
      exact K kq F_313 (Nat.le_succ _) (LI.mk hR3 hC3 hM3 hA hpi hrk hps hds hsl hcd hcd2)
  · have ho' : opB wi sp = false := by simpa using ho
    refine x_aload_n C (pc := 308) 2 dL_law_308 rfl ?_
    refine x_cViR C (pc := 309) (st := []) (c_X6_finish_e1 l D z cI cZ cP cR (132 + 14 * kq) F n kk cw c0 wi rl sp pd bs od pi T hn hb hd sl sd len pa  hR hnn hkk hcw hc0 hcnt hsp hpi hC ho') (cwV 0 C.2.2.2.2.1 gL_law_X6_finish rfl rfl rfl hd_X6_finish ⟨Nat.le_of_ble_eq_true rfl, Nat.le_of_ble_eq_true rfl⟩) (by omega) hC.1.1 rfl rfl rfl (Nat.le_of_ble_eq_true rfl) dL_law_309 ⟨rm_c (by show 132 + 14 * kq + 0 ≤ 10000; omega), rm_s (by show 3833 + 90 * kq + 0 ≤ 100000; omega)⟩ ?_
    refine x_aload_n C (pc := 312) 1 dL_law_312 rfl ?_
    refine x_cViR C (pc := 313) (st := [.int (-5)]) (c_X7_finish_e1 l D z cI cZ cP cR (132 + 14 * kq) F 123 f0 hn (nI len) spt wrg rd a ps slr sv sda wy pa2 nu n kk cw c0 wi rl sp pd od pi hM (by omega) hf0 hn6 hA hrk ho') (cwV 0 C.2.2.2.2.1 gL_law_X7_finish rfl rfl rfl hd_X7_finish ⟨Nat.le_of_ble_eq_true rfl, Nat.le_of_ble_eq_true rfl⟩) (by omega) hM.ob rfl rfl rfl (Nat.le_of_ble_eq_true rfl) dL_law_313 ⟨rm_c (by show 132 + 14 * kq + 0 ≤ 10000; omega), rm_s (by show 3833 + 90 * kq + 0 ≤ 100000; omega)⟩ ?_
    refine x_icmp_eq C (pc := 316) (tgt := 669) dL_law_316 (by decide) (fun c_316 => ?_) (fun c_316 => absurd c_316 (not_not_intro rfl))
    exact K kq F (Nat.le_succ _) (LI.mk hR hC hM hA hpi hrk hps hds hsl hcd hcd2)
set_option maxHeartbeats 8000000 in
set_option maxRecDepth 100000 in
theorem lc_stop {p : Program} {l : Launch} {e : Env} {s : State} {m : MethodId} {below : List Frame} {meth : Method} {c : Code} {z : Nat} {D : va_G} {Q : State → Prop} {cI cZ cP cR : ClassId} {b n0 : Nat} {xs : Nat → Int32} (C : gC p s m #[.ref b] c RL cL_law 4 wsL_law z D cI cZ cP cR) (hX : va_X b n0 xs s s.heap) (hb0 : b < s.heap.size) (hz : z = s.heap.size) (hn0 : n0 ≤ 2048) {i kq : Nat} {F : Nat → va_E} (hi : i + 4 ≤ n0) (hkq : 4 * kq ≤ i) (hI : LI z cI cZ cP cR kq F) (K : ∀ (kq2 : Nat) (F2 : Nat → va_E), kq2 ≤ kq + 1 → LI z cI cZ cP cR kq2 F2 → gX p l e room_1 s m #[.ref b] below meth c 4 z D Q (132 + 14 * kq2) F2 (132 + 14 * kq2) (3833 + 90 * kq2) [(3, .int (nI i)), (2, .ref (z + 123)), (1, .ref (z + 0)), (0, .ref b)] 669 []) : gX p l e room_1 s m #[.ref b] below meth c 4 z D Q (132 + 14 * kq) F (132 + 14 * kq) (3833 + 90 * kq) [(3, .int (nI i)), (2, .ref (z + 123)), (1, .ref (z + 0)), (0, .ref b)] 321 [] := by
  obtain ⟨n, kk, cw, c0, wi, rl, sp, pd, bs, od, pi, T, hn, hb, hd, sl, sd, len, pa, f0, spt, wrg, rd, a, ps, slr, sv, sda, wy, pa2, nu, cd, hR, hC, hM, hA, hpi, hrk, hps, hds, hsl, hcd, hcd2⟩ := hI
  obtain ⟨-, -, -, -, -, -, -, hnn, hkk, hcw, hcnt, hc0, hsp, hrl, hwi, hod⟩ := id hA
  obtain ⟨hf0, hn6, -⟩ := id hps
  have hlen : len ≤ 80 := hC.2.2.2.2.2.2.2.1
  have h2n := two_lt hnn
  have hkq2 : kq ≤ 512 := by omega
  have hmR := mR.mk hA hpi hrk
  by_cases ho : opB wi sp = true
  · by_cases hm : decide (rbF wi pd pi n cw cw ≤ rl) = true
    · refine x_aload_n C (pc := 321) 2 dL_law_321 rfl ?_
      refine x_cViE C (pc := 322) (st := []) (c_X6_stop_s l D z cI cZ cP cR (132 + 14 * kq) F n kk cw c0 wi rl sp pd bs od pi T hn hb hd sl sd len pa  hR hnn hkk hcw hc0 hcnt hsp hpi hC ho hm) (cwV 0 C.2.2.2.2.1 gL_law_X6_stop rfl rfl rfl hd_X6_stop ⟨Nat.le_of_ble_eq_true rfl, Nat.le_of_ble_eq_true rfl⟩) (by omega) hC.1.1 rfl rfl rfl (Nat.le_of_ble_eq_true rfl) dL_law_322 ⟨rm_c (by show 132 + 14 * kq + 0 ≤ 10000; omega), rm_s (by show 3833 + 90 * kq + 0 ≤ 100000; omega)⟩ (fun F_322 h_322 => ?_)
      obtain ⟨hb2, hR2, hC2, fr2⟩ := h_322
      have hM2 := hM.same (F2 := F_322) (fun q h1 h2 => fr2 q (by omega))
      refine x_aload_n C (pc := 325) 1 dL_law_325 rfl ?_
      refine x_cViE C (pc := 326) (st := [.int (bz (decide (0 < leadF wi pd n (2 ^ n - 1))))]) (c_X7_stop_s l D z cI cZ cP cR (132 + 14 * kq) F_322 123 f0 hn (nI len) spt wrg rd a ps slr sv sda wy pa2 nu n kk cw c0 wi rl sp pd od pi hM2 (by omega) hf0 hn6 hA hrk ho hm) (cwV 0 C.2.2.2.2.1 gL_law_X7_stop rfl rfl rfl hd_X7_stop ⟨Nat.le_of_ble_eq_true rfl, Nat.le_of_ble_eq_true rfl⟩) (by omega) hM2.ob rfl rfl rfl (Nat.le_of_ble_eq_true rfl) dL_law_326 ⟨rm_c (by show 132 + 14 * kq + 0 ≤ 10000; omega), rm_s (by show 3833 + 90 * kq + 0 ≤ 100000; omega)⟩ (fun F_326 h_326 => ?_)
      obtain ⟨a3, hM3, hA3, fr3⟩ := h_326
      have hR3 := hR2.same (F2 := F_326) (fun q h1 h2 => fr3 q (by omega))
      have hC3 := isCl_same (F2 := F_326) hC2 (fun q hq => fr3 q (by omega))
      refine x_icmp_eq C (pc := 329) (tgt := 669) dL_law_329 (by decide) (fun c_329 => ?_) (fun c_329 => absurd c_329 (not_not_intro rfl))
      exact K kq F_326 (Nat.le_succ _) (by have hM3k := hM3; rw [kpM_eq] at hM3k; exact (LI.mk hR3 hC3 hM3k hA3 hpi hrk (by have h9 := ps_keep hps hmR; rw [kpM_eq] at h9; exact h9) (hds_keep hds hsp) hsl hcd hcd2))
    · have hm' : decide (rbF wi pd pi n cw cw ≤ rl) = false := by simpa using hm
      refine x_aload_n C (pc := 321) 2 dL_law_321 rfl ?_
      refine x_cViR C (pc := 322) (st := []) (c_X6_stop_e l D z cI cZ cP cR (132 + 14 * kq) F n kk cw c0 wi rl sp pd bs od pi T hn hb hd sl sd len pa  hR hnn hkk hcw hc0 hcnt hsp hpi hC (Or.inr hm')) (cwV 0 C.2.2.2.2.1 gL_law_X6_stop rfl rfl rfl hd_X6_stop ⟨Nat.le_of_ble_eq_true rfl, Nat.le_of_ble_eq_true rfl⟩) (by omega) hC.1.1 rfl rfl rfl (Nat.le_of_ble_eq_true rfl) dL_law_322 ⟨rm_c (by show 132 + 14 * kq + 0 ≤ 10000; omega), rm_s (by show 3833 + 90 * kq + 0 ≤ 100000; omega)⟩ ?_
      refine x_aload_n C (pc := 325) 1 dL_law_325 rfl ?_
      refine x_cViR C (pc := 326) (st := [.int (-5)]) (c_X7_stop_e l D z cI cZ cP cR (132 + 14 * kq) F 123 f0 hn (nI len) spt wrg rd a ps slr sv sda wy pa2 nu n kk cw c0 wi rl sp pd od pi hM (by omega) hf0 hn6 hA hrk (Or.inr hm')) (cwV 0 C.2.2.2.2.1 gL_law_X7_stop rfl rfl rfl hd_X7_stop ⟨Nat.le_of_ble_eq_true rfl, Nat.le_of_ble_eq_true rfl⟩) (by omega) hM.ob rfl rfl rfl (Nat.le_of_ble_eq_true rfl) dL_law_326 ⟨rm_c (by show 132 + 14 * kq + 0 ≤ 10000; omega), rm_s (by show 3833 + 90 * kq + 0 ≤ 100000; omega)⟩ ?_
      refine x_icmp_eq C (pc := 329) (tgt := 669) dL_law_329 (by decide) (fun c_329 => ?_) (fun c_329 => absurd c_329 (not_not_intro rfl))
      exact K kq F (Nat.le_succ _) (LI.mk hR hC hM hA hpi hrk hps hds hsl hcd hcd2)
  · have ho' : opB wi sp = false := by simpa using ho
    refine x_aload_n C (pc := 321) 2 dL_law_321 rfl ?_
    refine x_cViR C (pc := 322) (st := []) (c_X6_stop_e l D z cI cZ cP cR (132 + 14 * kq) F n kk cw c0 wi rl sp pd bs od pi T hn hb hd sl sd len pa  hR hnn hkk hcw hc0 hcnt hsp hpi hC (Or.inl ho')) (cwV 0 C.2.2.2.2.1 gL_law_X6_stop rfl rfl rfl hd_X6_stop ⟨Nat.le_of_ble_eq_true rfl, Nat.le_of_ble_eq_true rfl⟩) (by omega) hC.1.1 rfl rfl rfl (Nat.le_of_ble_eq_true rfl) dL_law_322 ⟨rm_c (by show 132 + 14 * kq + 0 ≤ 10000; omega), rm_s (by show 3833 + 90 * kq + 0 ≤ 100000; omega)⟩ ?_
    refine x_aload_n C (pc := 325) 1 dL_law_325 rfl ?_
    refine x_cViR C (pc := 326) (st := [.int (-5)]) (c_X7_stop_e l D z cI cZ cP cR (132 + 14 * kq) F 123 f0 hn (nI len) spt wrg rd a ps slr sv sda wy pa2 nu n kk cw c0 wi rl sp pd od pi hM (by omega) hf0 hn6 hA hrk (Or.inl ho')) (cwV 0 C.2.2.2.2.1 gL_law_X7_stop rfl rfl rfl hd_X7_stop ⟨Nat.le_of_ble_eq_true rfl, Nat.le_of_ble_eq_true rfl⟩) (by omega) hM.ob rfl rfl rfl (Nat.le_of_ble_eq_true rfl) dL_law_326 ⟨rm_c (by show 132 + 14 * kq + 0 ≤ 10000; omega), rm_s (by show 3833 + 90 * kq + 0 ≤ 100000; omega)⟩ ?_
    refine x_icmp_eq C (pc := 329) (tgt := 669) dL_law_329 (by decide) (fun c_329 => ?_) (fun c_329 => absurd c_329 (not_not_intro rfl))
    exact K kq F (Nat.le_succ _) (LI.mk hR hC hM hA hpi hrk hps hds hsl hcd hcd2)
set_option maxHeartbeats 8000000 in
set_option maxRecDepth 100000 in
theorem lc_ofPile {p : Program} {l : Launch} {e : Env} {s : State} {m : MethodId} {below : List Frame} {meth : Method} {c : Code} {z : Nat} {D : va_G} {Q : State → Prop} {cI cZ cP cR : ClassId} {b n0 : Nat} {xs : Nat → Int32} (C : gC p s m #[.ref b] c RL cL_law 4 wsL_law z D cI cZ cP cR) (hX : va_X b n0 xs s s.heap) (hb0 : b < s.heap.size) (hz : z = s.heap.size) (hn0 : n0 ≤ 2048) {i kq : Nat} {F : Nat → va_E} (hi : i + 4 ≤ n0) (hkq : 4 * kq ≤ i) (hI : LI z cI cZ cP cR kq F) (K : ∀ (kq2 : Nat) (F2 : Nat → va_E), kq2 ≤ kq + 1 → LI z cI cZ cP cR kq2 F2 → gX p l e room_1 s m #[.ref b] below meth c 4 z D Q (132 + 14 * kq2) F2 (132 + 14 * kq2) (3833 + 90 * kq2) [(3, .int (nI i)), (2, .ref (z + 123)), (1, .ref (z + 0)), (0, .ref b)] 669 []) : gX p l e room_1 s m #[.ref b] below meth c 4 z D Q (132 + 14 * kq) F (132 + 14 * kq) (3833 + 90 * kq) [(3, .int (nI i)), (2, .ref (z + 123)), (1, .ref (z + 0)), (0, .ref b)] 334 [] := by
  obtain ⟨n, kk, cw, c0, wi, rl, sp, pd, bs, od, pi, T, hn, hb, hd, sl, sd, len, pa, f0, spt, wrg, rd, a, ps, slr, sv, sda, wy, pa2, nu, cd, hR, hC, hM, hA, hpi, hrk, hps, hds, hsl, hcd, hcd2⟩ := hI
  obtain ⟨-, -, -, -, -, -, -, hnn, hkk, hcw, hcnt, hc0, hsp, hrl, hwi, hod⟩ := id hA
  obtain ⟨hf0, hn6, -⟩ := id hps
  have hlen : len ≤ 80 := hC.2.2.2.2.2.2.2.1
  have h2n := two_lt hnn
  have hkq2 : kq ≤ 512 := by omega
  have hmR := mR.mk hA hpi hrk
  by_cases hv : inP (xs (i + 1)) (nI n) = true
  · obtain ⟨v, hvn, hve⟩ := inP_nat (by omega) hv
    rw [hve] at hv
    refine x_aload_n C (pc := 334) 2 dL_law_334 rfl ?_
    refine x_aload_n C (pc := 335) 3 dL_law_335 rfl ?_
    refine x_iload_n C (pc := 336) 0 dL_law_336 rfl ?_
    refine x_iconst C (pc := 337) (v := 1) dL_law_337 (by decide) ?_
    refine x_iadd C (pc := 338) (v := nI (i + 1)) dL_law_338 (nI_add i 1) ?_
    refine x_sld C hX hb0 hz (pc := 339) (j := i + 1) (by omega) hn0 dL_law_339 ?_
    refine x_eqi hve ?_
    refine x_aload_n C (pc := 340) 3 dL_law_340 rfl ?_
    refine x_iload_n C (pc := 341) 0 dL_law_341 rfl ?_
    refine x_iconst C (pc := 342) (v := 2) dL_law_342 (by decide) ?_
    refine x_iadd C (pc := 343) (v := nI (i + 2)) dL_law_343 (nI_add i 2) ?_
    refine x_sld C hX hb0 hz (pc := 344) (j := i + 2) (by omega) hn0 dL_law_344 ?_
    refine x_cViR C (pc := 345) (st := []) (c_X6_ofPile_s l D z cI cZ cP cR (132 + 14 * kq) F n kk cw c0 wi rl sp pd bs od pi T hn hb hd sl sd len pa v (xs (i + 2)) hR hnn hkk hcw hc0 hcnt hsp hpi hC hv hvn) (cwV 2 C.2.2.2.2.1 gL_law_X6_ofPile rfl rfl rfl hd_X6_ofPile ⟨Nat.le_of_ble_eq_true rfl, Nat.le_of_ble_eq_true rfl⟩) (by omega) hC.1.1 rfl rfl rfl (Nat.le_of_ble_eq_true rfl) dL_law_345 ⟨rm_c (by show 132 + 14 * kq + 0 ≤ 10000; omega), rm_s (by show 3833 + 90 * kq + 0 ≤ 100000; omega)⟩ ?_
    refine x_aload_n C (pc := 348) 1 dL_law_348 rfl ?_
    refine x_aload_n C (pc := 349) 3 dL_law_349 rfl ?_
    refine x_iload_n C (pc := 350) 0 dL_law_350 rfl ?_
    refine x_iconst C (pc := 351) (v := 1) dL_law_351 (by decide) ?_
    refine x_iadd C (pc := 352) (v := nI (i + 1)) dL_law_352 (nI_add i 1) ?_
    refine x_sld C hX hb0 hz (pc := 353) (j := i + 1) (by omega) hn0 dL_law_353 ?_
    refine x_eqi hve ?_
    refine x_aload_n C (pc := 354) 3 dL_law_354 rfl ?_
    refine x_iload_n C (pc := 355) 0 dL_law_355 rfl ?_
    refine x_iconst C (pc := 356) (v := 2) dL_law_356 (by decide) ?_
    refine x_iadd C (pc := 357) (v := nI (i + 2)) dL_law_357 (nI_add i 2) ?_
    refine x_sld C hX hb0 hz (pc := 358) (j := i + 2) (by omega) hn0 dL_law_358 ?_
    refine x_cViR C (pc := 359) (st := [.int (ofpF v kk cw wi pd od (xs (i + 2)))]) (c_X7_ofPile_s l D z cI cZ cP cR (132 + 14 * kq) F 123 (nI f0) (nI hn) (nI len) spt wrg rd a ps slr sv sda wy pa2 nu n kk cw c0 wi rl sp pd od v (xs (i + 2)) hM (by omega) hA hv hvn) (cwV 2 C.2.2.2.2.1 gL_law_X7_ofPile rfl rfl rfl hd_X7_ofPile ⟨Nat.le_of_ble_eq_true rfl, Nat.le_of_ble_eq_true rfl⟩) (by omega) hM.ob rfl rfl rfl (Nat.le_of_ble_eq_true rfl) dL_law_359 ⟨rm_c (by show 132 + 14 * kq + 0 ≤ 10000; omega), rm_s (by show 3833 + 90 * kq + 0 ≤ 100000; omega)⟩ ?_
    refine x_icmp_eq C (pc := 362) (tgt := 669) dL_law_362 (by decide) (fun c_362 => ?_) (fun c_362 => absurd c_362 (not_not_intro rfl))
    exact K kq F (Nat.le_succ _) (LI.mk hR hC hM hA hpi hrk hps hds hsl hcd hcd2)
  · have hv' : inP (xs (i + 1)) (nI n) = false := by simpa using hv
    refine x_aload_n C (pc := 334) 2 dL_law_334 rfl ?_
    refine x_aload_n C (pc := 335) 3 dL_law_335 rfl ?_
    refine x_iload_n C (pc := 336) 0 dL_law_336 rfl ?_
    refine x_iconst C (pc := 337) (v := 1) dL_law_337 (by decide) ?_
    refine x_iadd C (pc := 338) (v := nI (i + 1)) dL_law_338 (nI_add i 1) ?_
    refine x_sld C hX hb0 hz (pc := 339) (j := i + 1) (by omega) hn0 dL_law_339 ?_
    refine x_aload_n C (pc := 340) 3 dL_law_340 rfl ?_
    refine x_iload_n C (pc := 341) 0 dL_law_341 rfl ?_
    refine x_iconst C (pc := 342) (v := 2) dL_law_342 (by decide) ?_
    refine x_iadd C (pc := 343) (v := nI (i + 2)) dL_law_343 (nI_add i 2) ?_
    refine x_sld C hX hb0 hz (pc := 344) (j := i + 2) (by omega) hn0 dL_law_344 ?_
    refine x_cViR C (pc := 345) (st := []) (c_X6_ofPile_e l D z cI cZ cP cR (132 + 14 * kq) F n kk cw c0 wi rl sp pd bs od pi T hn hb hd sl sd len pa (xs (i + 1)) (xs (i + 2)) hR hnn hkk hcw hc0 hcnt hsp hpi hC hv') (cwV 2 C.2.2.2.2.1 gL_law_X6_ofPile rfl rfl rfl hd_X6_ofPile ⟨Nat.le_of_ble_eq_true rfl, Nat.le_of_ble_eq_true rfl⟩) (by omega) hC.1.1 rfl rfl rfl (Nat.le_of_ble_eq_true rfl) dL_law_345 ⟨rm_c (by show 132 + 14 * kq + 0 ≤ 10000; omega), rm_s (by show 3833 + 90 * kq + 0 ≤ 100000; omega)⟩ ?_
    refine x_aload_n C (pc := 348) 1 dL_law_348 rfl ?_
    refine x_aload_n C (pc := 349) 3 dL_law_349 rfl ?_
    refine x_iload_n C (pc := 350) 0 dL_law_350 rfl ?_
    refine x_iconst C (pc := 351) (v := 1) dL_law_351 (by decide) ?_
    refine x_iadd C (pc := 352) (v := nI (i + 1)) dL_law_352 (nI_add i 1) ?_
    refine x_sld C hX hb0 hz (pc := 353) (j := i + 1) (by omega) hn0 dL_law_353 ?_
    refine x_aload_n C (pc := 354) 3 dL_law_354 rfl ?_
    refine x_iload_n C (pc := 355) 0 dL_law_355 rfl ?_
    refine x_iconst C (pc := 356) (v := 2) dL_law_356 (by decide) ?_
    refine x_iadd C (pc := 357) (v := nI (i + 2)) dL_law_357 (nI_add i 2) ?_
    refine x_sld C hX hb0 hz (pc := 358) (j := i + 2) (by omega) hn0 dL_law_358 ?_
    refine x_cViR C (pc := 359) (st := [.int (-1)]) (c_X7_ofPile_e l D z cI cZ cP cR (132 + 14 * kq) F 123 (nI f0) (nI hn) (nI len) spt wrg rd a ps slr sv sda wy pa2 nu n kk cw c0 wi rl sp pd od (xs (i + 1)) (xs (i + 2)) hM (by omega) hA hv') (cwV 2 C.2.2.2.2.1 gL_law_X7_ofPile rfl rfl rfl hd_X7_ofPile ⟨Nat.le_of_ble_eq_true rfl, Nat.le_of_ble_eq_true rfl⟩) (by omega) hM.ob rfl rfl rfl (Nat.le_of_ble_eq_true rfl) dL_law_359 ⟨rm_c (by show 132 + 14 * kq + 0 ≤ 10000; omega), rm_s (by show 3833 + 90 * kq + 0 ≤ 100000; omega)⟩ ?_
    refine x_icmp_eq C (pc := 362) (tgt := 669) dL_law_362 (by decide) (fun c_362 => ?_) (fun c_362 => absurd c_362 (not_not_intro rfl))
    exact K kq F (Nat.le_succ _) (LI.mk hR hC hM hA hpi hrk hps hds hsl hcd hcd2)
set_option maxHeartbeats 8000000 in
set_option maxRecDepth 100000 in
theorem lc_state {p : Program} {l : Launch} {e : Env} {s : State} {m : MethodId} {below : List Frame} {meth : Method} {c : Code} {z : Nat} {D : va_G} {Q : State → Prop} {cI cZ cP cR : ClassId} {b n0 : Nat} {xs : Nat → Int32} (C : gC p s m #[.ref b] c RL cL_law 4 wsL_law z D cI cZ cP cR) (hX : va_X b n0 xs s s.heap) (hb0 : b < s.heap.size) (hz : z = s.heap.size) (hn0 : n0 ≤ 2048) {i kq : Nat} {F : Nat → va_E} (hi : i + 4 ≤ n0) (hkq : 4 * kq ≤ i) (hI : LI z cI cZ cP cR kq F) (K : ∀ (kq2 : Nat) (F2 : Nat → va_E), kq2 ≤ kq + 1 → LI z cI cZ cP cR kq2 F2 → gX p l e room_1 s m #[.ref b] below meth c 4 z D Q (132 + 14 * kq2) F2 (132 + 14 * kq2) (3833 + 90 * kq2) [(3, .int (nI i)), (2, .ref (z + 123)), (1, .ref (z + 0)), (0, .ref b)] 669 []) : gX p l e room_1 s m #[.ref b] below meth c 4 z D Q (132 + 14 * kq) F (132 + 14 * kq) (3833 + 90 * kq) [(3, .int (nI i)), (2, .ref (z + 123)), (1, .ref (z + 0)), (0, .ref b)] 367 [] := by
  obtain ⟨n, kk, cw, c0, wi, rl, sp, pd, bs, od, pi, T, hn, hb, hd, sl, sd, len, pa, f0, spt, wrg, rd, a, ps, slr, sv, sda, wy, pa2, nu, cd, hR, hC, hM, hA, hpi, hrk, hps, hds, hsl, hcd, hcd2⟩ := hI
  obtain ⟨-, -, -, -, -, -, -, hnn, hkk, hcw, hcnt, hc0, hsp, hrl, hwi, hod⟩ := id hA
  obtain ⟨hf0, hn6, -⟩ := id hps
  have hlen : len ≤ 80 := hC.2.2.2.2.2.2.2.1
  have h2n := two_lt hnn
  have hkq2 : kq ≤ 512 := by omega
  have hmR := mR.mk hA hpi hrk
  refine x_aload_n C (pc := 367) 2 dL_law_367 rfl ?_
  refine x_aload_n C (pc := 368) 3 dL_law_368 rfl ?_
  refine x_iload_n C (pc := 369) 0 dL_law_369 rfl ?_
  refine x_iconst C (pc := 370) (v := 1) dL_law_370 (by decide) ?_
  refine x_iadd C (pc := 371) (v := nI (i + 1)) dL_law_371 (nI_add i 1) ?_
  refine x_sld C hX hb0 hz (pc := 372) (j := i + 1) (by omega) hn0 dL_law_372 ?_
  refine x_cViR C (pc := 373) (st := []) (c_X6_state l D z cI cZ cP cR (132 + 14 * kq) F n kk cw c0 wi rl sp pd bs od pi T hn hb hd sl sd len pa (xs (i + 1)) hR hnn hkk hcw hc0 hcnt hsp hpi hC ) (cwV 1 C.2.2.2.2.1 gL_law_X6_state rfl rfl rfl hd_X6_state ⟨Nat.le_of_ble_eq_true rfl, Nat.le_of_ble_eq_true rfl⟩) (by omega) hC.1.1 rfl rfl rfl (Nat.le_of_ble_eq_true rfl) dL_law_373 ⟨rm_c (by show 132 + 14 * kq + 0 ≤ 10000; omega), rm_s (by show 3833 + 90 * kq + 0 ≤ 100000; omega)⟩ ?_
  refine x_aload_n C (pc := 376) 1 dL_law_376 rfl ?_
  refine x_aload_n C (pc := 377) 3 dL_law_377 rfl ?_
  refine x_iload_n C (pc := 378) 0 dL_law_378 rfl ?_
  refine x_iconst C (pc := 379) (v := 1) dL_law_379 (by decide) ?_
  refine x_iadd C (pc := 380) (v := nI (i + 1)) dL_law_380 (nI_add i 1) ?_
  refine x_sld C hX hb0 hz (pc := 381) (j := i + 1) (by omega) hn0 dL_law_381 ?_
  refine x_cViR C (pc := 382) (st := [.int (stF n kk cw c0 wi rl sp pd pi len hn (xs (i + 1)))]) (c_X7_state l D z cI cZ cP cR (132 + 14 * kq) F 123 f0 hn (nI len) spt wrg rd a ps slr sv sda wy pa2 nu n kk cw c0 wi rl sp pd od len (xs (i + 1)) pi hM (by omega) hf0 hn6 hA hrk rfl) (cwV 1 C.2.2.2.2.1 gL_law_X7_state rfl rfl rfl hd_X7_state ⟨Nat.le_of_ble_eq_true rfl, Nat.le_of_ble_eq_true rfl⟩) (by omega) hM.ob rfl rfl rfl (Nat.le_of_ble_eq_true rfl) dL_law_382 ⟨rm_c (by show 132 + 14 * kq + 0 ≤ 10000; omega), rm_s (by show 3833 + 90 * kq + 0 ≤ 100000; omega)⟩ ?_
  refine x_icmp_eq C (pc := 385) (tgt := 669) dL_law_385 (by decide) (fun c_385 => ?_) (fun c_385 => absurd c_385 (not_not_intro rfl))
  exact K kq F (Nat.le_succ _) (LI.mk hR hC hM hA hpi hrk hps hds hsl hcd hcd2)
set_option maxHeartbeats 8000000 in
set_option maxRecDepth 100000 in
theorem lc_counted {p : Program} {l : Launch} {e : Env} {s : State} {m : MethodId} {below : List Frame} {meth : Method} {c : Code} {z : Nat} {D : va_G} {Q : State → Prop} {cI cZ cP cR : ClassId} {b n0 : Nat} {xs : Nat → Int32} (C : gC p s m #[.ref b] c RL cL_law 4 wsL_law z D cI cZ cP cR) (hX : va_X b n0 xs s s.heap) (hb0 : b < s.heap.size) (hz : z = s.heap.size) (hn0 : n0 ≤ 2048) {i kq : Nat} {F : Nat → va_E} (hi : i + 4 ≤ n0) (hkq : 4 * kq ≤ i) (hI : LI z cI cZ cP cR kq F) (K : ∀ (kq2 : Nat) (F2 : Nat → va_E), kq2 ≤ kq + 1 → LI z cI cZ cP cR kq2 F2 → gX p l e room_1 s m #[.ref b] below meth c 4 z D Q (132 + 14 * kq2) F2 (132 + 14 * kq2) (3833 + 90 * kq2) [(3, .int (nI i)), (2, .ref (z + 123)), (1, .ref (z + 0)), (0, .ref b)] 669 []) : gX p l e room_1 s m #[.ref b] below meth c 4 z D Q (132 + 14 * kq) F (132 + 14 * kq) (3833 + 90 * kq) [(3, .int (nI i)), (2, .ref (z + 123)), (1, .ref (z + 0)), (0, .ref b)] 390 [] := by
  obtain ⟨n, kk, cw, c0, wi, rl, sp, pd, bs, od, pi, T, hn, hb, hd, sl, sd, len, pa, f0, spt, wrg, rd, a, ps, slr, sv, sda, wy, pa2, nu, cd, hR, hC, hM, hA, hpi, hrk, hps, hds, hsl, hcd, hcd2⟩ := hI
  obtain ⟨-, -, -, -, -, -, -, hnn, hkk, hcw, hcnt, hc0, hsp, hrl, hwi, hod⟩ := id hA
  obtain ⟨hf0, hn6, -⟩ := id hps
  have hlen : len ≤ 80 := hC.2.2.2.2.2.2.2.1
  have h2n := two_lt hnn
  have hkq2 : kq ≤ 512 := by omega
  have hmR := mR.mk hA hpi hrk
  by_cases hv : inP (xs (i + 1)) (nI kk) = true
  · obtain ⟨v, hvk, hve⟩ := inP_nat (by omega) hv
    refine x_aload_n C (pc := 390) 2 dL_law_390 rfl ?_
    refine x_aload_n C (pc := 391) 3 dL_law_391 rfl ?_
    refine x_iload_n C (pc := 392) 0 dL_law_392 rfl ?_
    refine x_iconst C (pc := 393) (v := 1) dL_law_393 (by decide) ?_
    refine x_iadd C (pc := 394) (v := nI (i + 1)) dL_law_394 (nI_add i 1) ?_
    refine x_sld C hX hb0 hz (pc := 395) (j := i + 1) (by omega) hn0 dL_law_395 ?_
    refine x_eqi hve ?_
    refine x_cViR C (pc := 396) (st := []) (c_X6_counted_s l D z cI cZ cP cR (132 + 14 * kq) F n kk cw c0 wi rl sp pd bs od pi T hn hb hd sl sd len pa v hR hnn hkk hcw hc0 hcnt hsp hpi hC hvk) (cwV 1 C.2.2.2.2.1 gL_law_X6_counted rfl rfl rfl hd_X6_counted ⟨Nat.le_of_ble_eq_true rfl, Nat.le_of_ble_eq_true rfl⟩) (by omega) hC.1.1 rfl rfl rfl (Nat.le_of_ble_eq_true rfl) dL_law_396 ⟨rm_c (by show 132 + 14 * kq + 0 ≤ 10000; omega), rm_s (by show 3833 + 90 * kq + 0 ≤ 100000; omega)⟩ ?_
    refine x_aload_n C (pc := 399) 1 dL_law_399 rfl ?_
    refine x_aload_n C (pc := 400) 3 dL_law_400 rfl ?_
    refine x_iload_n C (pc := 401) 0 dL_law_401 rfl ?_
    refine x_iconst C (pc := 402) (v := 1) dL_law_402 (by decide) ?_
    refine x_iadd C (pc := 403) (v := nI (i + 1)) dL_law_403 (nI_add i 1) ?_
    refine x_sld C hX hb0 hz (pc := 404) (j := i + 1) (by omega) hn0 dL_law_404 ?_
    refine x_eqi hve ?_
    refine x_cViR C (pc := 405) (st := [.int (od v)]) (c_X7_counted_s l D z cI cZ cP cR (132 + 14 * kq) F 123 (nI f0) (nI hn) (nI len) spt wrg rd a ps slr sv sda wy pa2 nu n kk cw c0 wi rl sp pd od v hM (by omega) hA hvk) (cwV 1 C.2.2.2.2.1 gL_law_X7_counted rfl rfl rfl hd_X7_counted ⟨Nat.le_of_ble_eq_true rfl, Nat.le_of_ble_eq_true rfl⟩) (by omega) hM.ob rfl rfl rfl (Nat.le_of_ble_eq_true rfl) dL_law_405 ⟨rm_c (by show 132 + 14 * kq + 0 ≤ 10000; omega), rm_s (by show 3833 + 90 * kq + 0 ≤ 100000; omega)⟩ ?_
    refine x_icmp_eq C (pc := 408) (tgt := 669) dL_law_408 (by decide) (fun c_408 => ?_) (fun c_408 => absurd c_408 (not_not_intro rfl))
    exact K kq F (Nat.le_succ _) (LI.mk hR hC hM hA hpi hrk hps hds hsl hcd hcd2)
  · have hv' : inP (xs (i + 1)) (nI kk) = false := by simpa using hv
    refine x_aload_n C (pc := 390) 2 dL_law_390 rfl ?_
    refine x_aload_n C (pc := 391) 3 dL_law_391 rfl ?_
    refine x_iload_n C (pc := 392) 0 dL_law_392 rfl ?_
    refine x_iconst C (pc := 393) (v := 1) dL_law_393 (by decide) ?_
    refine x_iadd C (pc := 394) (v := nI (i + 1)) dL_law_394 (nI_add i 1) ?_
    refine x_sld C hX hb0 hz (pc := 395) (j := i + 1) (by omega) hn0 dL_law_395 ?_
    refine x_cViR C (pc := 396) (st := []) (c_X6_counted_e l D z cI cZ cP cR (132 + 14 * kq) F n kk cw c0 wi rl sp pd bs od pi T hn hb hd sl sd len pa (xs (i + 1)) hR hnn hkk hcw hc0 hcnt hsp hpi hC hv') (cwV 1 C.2.2.2.2.1 gL_law_X6_counted rfl rfl rfl hd_X6_counted ⟨Nat.le_of_ble_eq_true rfl, Nat.le_of_ble_eq_true rfl⟩) (by omega) hC.1.1 rfl rfl rfl (Nat.le_of_ble_eq_true rfl) dL_law_396 ⟨rm_c (by show 132 + 14 * kq + 0 ≤ 10000; omega), rm_s (by show 3833 + 90 * kq + 0 ≤ 100000; omega)⟩ ?_
    refine x_aload_n C (pc := 399) 1 dL_law_399 rfl ?_
    refine x_aload_n C (pc := 400) 3 dL_law_400 rfl ?_
    refine x_iload_n C (pc := 401) 0 dL_law_401 rfl ?_
    refine x_iconst C (pc := 402) (v := 1) dL_law_402 (by decide) ?_
    refine x_iadd C (pc := 403) (v := nI (i + 1)) dL_law_403 (nI_add i 1) ?_
    refine x_sld C hX hb0 hz (pc := 404) (j := i + 1) (by omega) hn0 dL_law_404 ?_
    refine x_cViR C (pc := 405) (st := [.int (-1)]) (c_X7_counted_e l D z cI cZ cP cR (132 + 14 * kq) F 123 (nI f0) (nI hn) (nI len) spt wrg rd a ps slr sv sda wy pa2 nu n kk cw c0 wi rl sp pd od (xs (i + 1)) hM (by omega) hA hv') (cwV 1 C.2.2.2.2.1 gL_law_X7_counted rfl rfl rfl hd_X7_counted ⟨Nat.le_of_ble_eq_true rfl, Nat.le_of_ble_eq_true rfl⟩) (by omega) hM.ob rfl rfl rfl (Nat.le_of_ble_eq_true rfl) dL_law_405 ⟨rm_c (by show 132 + 14 * kq + 0 ≤ 10000; omega), rm_s (by show 3833 + 90 * kq + 0 ≤ 100000; omega)⟩ ?_
    refine x_icmp_eq C (pc := 408) (tgt := 669) dL_law_408 (by decide) (fun c_408 => ?_) (fun c_408 => absurd c_408 (not_not_intro rfl))
    exact K kq F (Nat.le_succ _) (LI.mk hR hC hM hA hpi hrk hps hds hsl hcd hcd2)
set_option maxHeartbeats 8000000 in
set_option maxRecDepth 100000 in
theorem lc_riskOf {p : Program} {l : Launch} {e : Env} {s : State} {m : MethodId} {below : List Frame} {meth : Method} {c : Code} {z : Nat} {D : va_G} {Q : State → Prop} {cI cZ cP cR : ClassId} {b n0 : Nat} {xs : Nat → Int32} (C : gC p s m #[.ref b] c RL cL_law 4 wsL_law z D cI cZ cP cR) (hX : va_X b n0 xs s s.heap) (hb0 : b < s.heap.size) (hz : z = s.heap.size) (hn0 : n0 ≤ 2048) {i kq : Nat} {F : Nat → va_E} (hi : i + 4 ≤ n0) (hkq : 4 * kq ≤ i) (hI : LI z cI cZ cP cR kq F) (K : ∀ (kq2 : Nat) (F2 : Nat → va_E), kq2 ≤ kq + 1 → LI z cI cZ cP cR kq2 F2 → gX p l e room_1 s m #[.ref b] below meth c 4 z D Q (132 + 14 * kq2) F2 (132 + 14 * kq2) (3833 + 90 * kq2) [(3, .int (nI i)), (2, .ref (z + 123)), (1, .ref (z + 0)), (0, .ref b)] 669 []) : gX p l e room_1 s m #[.ref b] below meth c 4 z D Q (132 + 14 * kq) F (132 + 14 * kq) (3833 + 90 * kq) [(3, .int (nI i)), (2, .ref (z + 123)), (1, .ref (z + 0)), (0, .ref b)] 413 [] := by
  obtain ⟨n, kk, cw, c0, wi, rl, sp, pd, bs, od, pi, T, hn, hb, hd, sl, sd, len, pa, f0, spt, wrg, rd, a, ps, slr, sv, sda, wy, pa2, nu, cd, hR, hC, hM, hA, hpi, hrk, hps, hds, hsl, hcd, hcd2⟩ := hI
  obtain ⟨-, -, -, -, -, -, -, hnn, hkk, hcw, hcnt, hc0, hsp, hrl, hwi, hod⟩ := id hA
  obtain ⟨hf0, hn6, -⟩ := id hps
  have hlen : len ≤ 80 := hC.2.2.2.2.2.2.2.1
  have h2n := two_lt hnn
  have hkq2 : kq ≤ 512 := by omega
  have hmR := mR.mk hA hpi hrk
  by_cases hv : (inB (xs (i + 1)) 1 20 && inB (xs (i + 2)) 0 (xs (i + 1)) && inB (xs (i + 3)) 1 (xs (i + 1))) = true
  · obtain ⟨rp, rc, rq, e1, e2, e3, q1, q2, q3, q4, q5⟩ := rk_nats hv
    refine x_aload_n C (pc := 413) 2 dL_law_413 rfl ?_
    refine x_aload_n C (pc := 414) 3 dL_law_414 rfl ?_
    refine x_iload_n C (pc := 415) 0 dL_law_415 rfl ?_
    refine x_iconst C (pc := 416) (v := 1) dL_law_416 (by decide) ?_
    refine x_iadd C (pc := 417) (v := nI (i + 1)) dL_law_417 (nI_add i 1) ?_
    refine x_sld C hX hb0 hz (pc := 418) (j := i + 1) (by omega) hn0 dL_law_418 ?_
    refine x_eqi e1 ?_
    refine x_aload_n C (pc := 419) 3 dL_law_419 rfl ?_
    refine x_iload_n C (pc := 420) 0 dL_law_420 rfl ?_
    refine x_iconst C (pc := 421) (v := 2) dL_law_421 (by decide) ?_
    refine x_iadd C (pc := 422) (v := nI (i + 2)) dL_law_422 (nI_add i 2) ?_
    refine x_sld C hX hb0 hz (pc := 423) (j := i + 2) (by omega) hn0 dL_law_423 ?_
    refine x_eqi e2 ?_
    refine x_aload_n C (pc := 424) 3 dL_law_424 rfl ?_
    refine x_iload_n C (pc := 425) 0 dL_law_425 rfl ?_
    refine x_iconst C (pc := 426) (v := 3) dL_law_426 (by decide) ?_
    refine x_iadd C (pc := 427) (v := nI (i + 3)) dL_law_427 (nI_add i 3) ?_
    refine x_sld C hX hb0 hz (pc := 428) (j := i + 3) (by omega) hn0 dL_law_428 ?_
    refine x_eqi e3 ?_
    refine x_cViR C (pc := 429) (st := []) (c_X6_riskOf_s l D z cI cZ cP cR (132 + 14 * kq) F n kk cw c0 wi rl sp pd bs od pi T hn hb hd sl sd len pa rp rc rq hR hnn hkk hcw hc0 hcnt hsp hpi hC q1 q2 q3 q4 q5) (cwV 3 C.2.2.2.2.1 gL_law_X6_riskOf rfl rfl rfl hd_X6_riskOf ⟨Nat.le_of_ble_eq_true rfl, Nat.le_of_ble_eq_true rfl⟩) (by omega) hC.1.1 rfl rfl rfl (Nat.le_of_ble_eq_true rfl) dL_law_429 ⟨rm_c (by show 132 + 14 * kq + 0 ≤ 10000; omega), rm_s (by show 3833 + 90 * kq + 0 ≤ 100000; omega)⟩ ?_
    refine x_aload_n C (pc := 432) 1 dL_law_432 rfl ?_
    refine x_aload_n C (pc := 433) 3 dL_law_433 rfl ?_
    refine x_iload_n C (pc := 434) 0 dL_law_434 rfl ?_
    refine x_iconst C (pc := 435) (v := 1) dL_law_435 (by decide) ?_
    refine x_iadd C (pc := 436) (v := nI (i + 1)) dL_law_436 (nI_add i 1) ?_
    refine x_sld C hX hb0 hz (pc := 437) (j := i + 1) (by omega) hn0 dL_law_437 ?_
    refine x_eqi e1 ?_
    refine x_aload_n C (pc := 438) 3 dL_law_438 rfl ?_
    refine x_iload_n C (pc := 439) 0 dL_law_439 rfl ?_
    refine x_iconst C (pc := 440) (v := 2) dL_law_440 (by decide) ?_
    refine x_iadd C (pc := 441) (v := nI (i + 2)) dL_law_441 (nI_add i 2) ?_
    refine x_sld C hX hb0 hz (pc := 442) (j := i + 2) (by omega) hn0 dL_law_442 ?_
    refine x_eqi e2 ?_
    refine x_aload_n C (pc := 443) 3 dL_law_443 rfl ?_
    refine x_iload_n C (pc := 444) 0 dL_law_444 rfl ?_
    refine x_iconst C (pc := 445) (v := 3) dL_law_445 (by decide) ?_
    refine x_iadd C (pc := 446) (v := nI (i + 3)) dL_law_446 (nI_add i 3) ?_
    refine x_sld C hX hb0 hz (pc := 447) (j := i + 3) (by omega) hn0 dL_law_447 ?_
    refine x_eqi e3 ?_
    refine x_cViR C (pc := 448) (st := [.int (rkF rp rc rq)]) (c_X7_riskOf_s l D z cI cZ cP cR (132 + 14 * kq) F 123 (nI f0) (nI hn) (nI len) spt wrg rd a ps slr sv sda wy pa2 nu n kk cw c0 wi rl sp pd od rp rc rq hM (by omega) hA q1 q2 q3 q4 q5) (cwV 3 C.2.2.2.2.1 gL_law_X7_riskOf rfl rfl rfl hd_X7_riskOf ⟨Nat.le_of_ble_eq_true rfl, Nat.le_of_ble_eq_true rfl⟩) (by omega) hM.ob rfl rfl rfl (Nat.le_of_ble_eq_true rfl) dL_law_448 ⟨rm_c (by show 132 + 14 * kq + 0 ≤ 10000; omega), rm_s (by show 3833 + 90 * kq + 0 ≤ 100000; omega)⟩ ?_
    refine x_icmp_eq C (pc := 451) (tgt := 669) dL_law_451 (by decide) (fun c_451 => ?_) (fun c_451 => absurd c_451 (not_not_intro rfl))
    exact K kq F (Nat.le_succ _) (LI.mk hR hC hM hA hpi hrk hps hds hsl hcd hcd2)
  · have hv' : (inB (xs (i + 1)) 1 20 && inB (xs (i + 2)) 0 (xs (i + 1)) && inB (xs (i + 3)) 1 (xs (i + 1))) = false := by simpa using hv
    refine x_aload_n C (pc := 413) 2 dL_law_413 rfl ?_
    refine x_aload_n C (pc := 414) 3 dL_law_414 rfl ?_
    refine x_iload_n C (pc := 415) 0 dL_law_415 rfl ?_
    refine x_iconst C (pc := 416) (v := 1) dL_law_416 (by decide) ?_
    refine x_iadd C (pc := 417) (v := nI (i + 1)) dL_law_417 (nI_add i 1) ?_
    refine x_sld C hX hb0 hz (pc := 418) (j := i + 1) (by omega) hn0 dL_law_418 ?_
    refine x_aload_n C (pc := 419) 3 dL_law_419 rfl ?_
    refine x_iload_n C (pc := 420) 0 dL_law_420 rfl ?_
    refine x_iconst C (pc := 421) (v := 2) dL_law_421 (by decide) ?_
    refine x_iadd C (pc := 422) (v := nI (i + 2)) dL_law_422 (nI_add i 2) ?_
    refine x_sld C hX hb0 hz (pc := 423) (j := i + 2) (by omega) hn0 dL_law_423 ?_
    refine x_aload_n C (pc := 424) 3 dL_law_424 rfl ?_
    refine x_iload_n C (pc := 425) 0 dL_law_425 rfl ?_
    refine x_iconst C (pc := 426) (v := 3) dL_law_426 (by decide) ?_
    refine x_iadd C (pc := 427) (v := nI (i + 3)) dL_law_427 (nI_add i 3) ?_
    refine x_sld C hX hb0 hz (pc := 428) (j := i + 3) (by omega) hn0 dL_law_428 ?_
    refine x_cViR C (pc := 429) (st := []) (c_X6_riskOf_e l D z cI cZ cP cR (132 + 14 * kq) F n kk cw c0 wi rl sp pd bs od pi T hn hb hd sl sd len pa (xs (i + 1)) (xs (i + 2)) (xs (i + 3)) hR hnn hkk hcw hc0 hcnt hsp hpi hC hv') (cwV 3 C.2.2.2.2.1 gL_law_X6_riskOf rfl rfl rfl hd_X6_riskOf ⟨Nat.le_of_ble_eq_true rfl, Nat.le_of_ble_eq_true rfl⟩) (by omega) hC.1.1 rfl rfl rfl (Nat.le_of_ble_eq_true rfl) dL_law_429 ⟨rm_c (by show 132 + 14 * kq + 0 ≤ 10000; omega), rm_s (by show 3833 + 90 * kq + 0 ≤ 100000; omega)⟩ ?_
    refine x_aload_n C (pc := 432) 1 dL_law_432 rfl ?_
    refine x_aload_n C (pc := 433) 3 dL_law_433 rfl ?_
    refine x_iload_n C (pc := 434) 0 dL_law_434 rfl ?_
    refine x_iconst C (pc := 435) (v := 1) dL_law_435 (by decide) ?_
    refine x_iadd C (pc := 436) (v := nI (i + 1)) dL_law_436 (nI_add i 1) ?_
    refine x_sld C hX hb0 hz (pc := 437) (j := i + 1) (by omega) hn0 dL_law_437 ?_
    refine x_aload_n C (pc := 438) 3 dL_law_438 rfl ?_
    refine x_iload_n C (pc := 439) 0 dL_law_439 rfl ?_
    refine x_iconst C (pc := 440) (v := 2) dL_law_440 (by decide) ?_
    refine x_iadd C (pc := 441) (v := nI (i + 2)) dL_law_441 (nI_add i 2) ?_
    refine x_sld C hX hb0 hz (pc := 442) (j := i + 2) (by omega) hn0 dL_law_442 ?_
    refine x_aload_n C (pc := 443) 3 dL_law_443 rfl ?_
    refine x_iload_n C (pc := 444) 0 dL_law_444 rfl ?_
    refine x_iconst C (pc := 445) (v := 3) dL_law_445 (by decide) ?_
    refine x_iadd C (pc := 446) (v := nI (i + 3)) dL_law_446 (nI_add i 3) ?_
    refine x_sld C hX hb0 hz (pc := 447) (j := i + 3) (by omega) hn0 dL_law_447 ?_
    refine x_cViR C (pc := 448) (st := [.int (-2)]) (c_X7_riskOf_e l D z cI cZ cP cR (132 + 14 * kq) F 123 (nI f0) (nI hn) (nI len) spt wrg rd a ps slr sv sda wy pa2 nu n kk cw c0 wi rl sp pd od (xs (i + 1)) (xs (i + 2)) (xs (i + 3)) hM (by omega) hA hv') (cwV 3 C.2.2.2.2.1 gL_law_X7_riskOf rfl rfl rfl hd_X7_riskOf ⟨Nat.le_of_ble_eq_true rfl, Nat.le_of_ble_eq_true rfl⟩) (by omega) hM.ob rfl rfl rfl (Nat.le_of_ble_eq_true rfl) dL_law_448 ⟨rm_c (by show 132 + 14 * kq + 0 ≤ 10000; omega), rm_s (by show 3833 + 90 * kq + 0 ≤ 100000; omega)⟩ ?_
    refine x_icmp_eq C (pc := 451) (tgt := 669) dL_law_451 (by decide) (fun c_451 => ?_) (fun c_451 => absurd c_451 (not_not_intro rfl))
    exact K kq F (Nat.le_succ _) (LI.mk hR hC hM hA hpi hrk hps hds hsl hcd hcd2)
set_option maxHeartbeats 8000000 in
set_option maxRecDepth 100000 in
theorem lc_atLeast {p : Program} {l : Launch} {e : Env} {s : State} {m : MethodId} {below : List Frame} {meth : Method} {c : Code} {z : Nat} {D : va_G} {Q : State → Prop} {cI cZ cP cR : ClassId} {b n0 : Nat} {xs : Nat → Int32} (C : gC p s m #[.ref b] c RL cL_law 4 wsL_law z D cI cZ cP cR) (hX : va_X b n0 xs s s.heap) (hb0 : b < s.heap.size) (hz : z = s.heap.size) (hn0 : n0 ≤ 2048) {i kq : Nat} {F : Nat → va_E} (hi : i + 4 ≤ n0) (hkq : 4 * kq ≤ i) (hI : LI z cI cZ cP cR kq F) (K : ∀ (kq2 : Nat) (F2 : Nat → va_E), kq2 ≤ kq + 1 → LI z cI cZ cP cR kq2 F2 → gX p l e room_1 s m #[.ref b] below meth c 4 z D Q (132 + 14 * kq2) F2 (132 + 14 * kq2) (3833 + 90 * kq2) [(3, .int (nI i)), (2, .ref (z + 123)), (1, .ref (z + 0)), (0, .ref b)] 669 []) : gX p l e room_1 s m #[.ref b] below meth c 4 z D Q (132 + 14 * kq) F (132 + 14 * kq) (3833 + 90 * kq) [(3, .int (nI i)), (2, .ref (z + 123)), (1, .ref (z + 0)), (0, .ref b)] 456 [] := by
  obtain ⟨n, kk, cw, c0, wi, rl, sp, pd, bs, od, pi, T, hn, hb, hd, sl, sd, len, pa, f0, spt, wrg, rd, a, ps, slr, sv, sda, wy, pa2, nu, cd, hR, hC, hM, hA, hpi, hrk, hps, hds, hsl, hcd, hcd2⟩ := hI
  obtain ⟨-, -, -, -, -, -, -, hnn, hkk, hcw, hcnt, hc0, hsp, hrl, hwi, hod⟩ := id hA
  obtain ⟨hf0, hn6, -⟩ := id hps
  have hlen : len ≤ 80 := hC.2.2.2.2.2.2.2.1
  have h2n := two_lt hnn
  have hkq2 : kq ≤ 512 := by omega
  have hmR := mR.mk hA hpi hrk
  by_cases hw : hwB wi = true
  · refine x_aload_n C (pc := 456) 2 dL_law_456 rfl ?_
    refine x_cViR C (pc := 457) (st := []) (c_X6_atLeast_s l D z cI cZ cP cR (132 + 14 * kq) F n kk cw c0 wi rl sp pd bs od pi T hn hb hd sl sd len pa  hR hnn hkk hcw hc0 hcnt hsp hpi hC hw) (cwV 0 C.2.2.2.2.1 gL_law_X6_atLeast rfl rfl rfl hd_X6_atLeast ⟨Nat.le_of_ble_eq_true rfl, Nat.le_of_ble_eq_true rfl⟩) (by omega) hC.1.1 rfl rfl rfl (Nat.le_of_ble_eq_true rfl) dL_law_457 ⟨rm_c (by show 132 + 14 * kq + 0 ≤ 10000; omega), rm_s (by show 3833 + 90 * kq + 0 ≤ 100000; omega)⟩ ?_
    refine x_aload_n C (pc := 460) 1 dL_law_460 rfl ?_
    refine x_cViR C (pc := 461) (st := [.int (lsG (rfG wi pd pi n cw rl (2 ^ n)) (n - kk) (n - kk + 1) 0)]) (c_X7_atLeast_s l D z cI cZ cP cR (132 + 14 * kq) F 123 (nI f0) (nI hn) (nI len) spt wrg rd a ps slr sv sda wy pa2 nu n kk cw c0 wi rl sp pd od pi hM (by omega) hA hw hrk) (cwV 0 C.2.2.2.2.1 gL_law_X7_atLeast rfl rfl rfl hd_X7_atLeast ⟨Nat.le_of_ble_eq_true rfl, Nat.le_of_ble_eq_true rfl⟩) (by omega) hM.ob rfl rfl rfl (Nat.le_of_ble_eq_true rfl) dL_law_461 ⟨rm_c (by show 132 + 14 * kq + 0 ≤ 10000; omega), rm_s (by show 3833 + 90 * kq + 0 ≤ 100000; omega)⟩ ?_
    refine x_icmp_eq C (pc := 464) (tgt := 669) dL_law_464 (by decide) (fun c_464 => ?_) (fun c_464 => absurd c_464 (not_not_intro (ls_eq hcw _ _ _)))
    exact K kq F (Nat.le_succ _) (LI.mk hR hC hM hA hpi hrk hps hds hsl hcd hcd2)
  · have hw' : hwB wi = false := by simpa using hw
    refine x_aload_n C (pc := 456) 2 dL_law_456 rfl ?_
    refine x_cViR C (pc := 457) (st := []) (c_X6_atLeast_e l D z cI cZ cP cR (132 + 14 * kq) F n kk cw c0 wi rl sp pd bs od pi T hn hb hd sl sd len pa  hR hnn hkk hcw hc0 hcnt hsp hpi hC hw') (cwV 0 C.2.2.2.2.1 gL_law_X6_atLeast rfl rfl rfl hd_X6_atLeast ⟨Nat.le_of_ble_eq_true rfl, Nat.le_of_ble_eq_true rfl⟩) (by omega) hC.1.1 rfl rfl rfl (Nat.le_of_ble_eq_true rfl) dL_law_457 ⟨rm_c (by show 132 + 14 * kq + 0 ≤ 10000; omega), rm_s (by show 3833 + 90 * kq + 0 ≤ 100000; omega)⟩ ?_
    refine x_aload_n C (pc := 460) 1 dL_law_460 rfl ?_
    refine x_cViR C (pc := 461) (st := [.int (-5)]) (c_X7_atLeast_e l D z cI cZ cP cR (132 + 14 * kq) F 123 (nI f0) (nI hn) (nI len) spt wrg rd a ps slr sv sda wy pa2 nu n kk cw c0 wi rl sp pd od  hM (by omega) hA hw') (cwV 0 C.2.2.2.2.1 gL_law_X7_atLeast rfl rfl rfl hd_X7_atLeast ⟨Nat.le_of_ble_eq_true rfl, Nat.le_of_ble_eq_true rfl⟩) (by omega) hM.ob rfl rfl rfl (Nat.le_of_ble_eq_true rfl) dL_law_461 ⟨rm_c (by show 132 + 14 * kq + 0 ≤ 10000; omega), rm_s (by show 3833 + 90 * kq + 0 ≤ 100000; omega)⟩ ?_
    refine x_icmp_eq C (pc := 464) (tgt := 669) dL_law_464 (by decide) (fun c_464 => ?_) (fun c_464 => absurd c_464 (not_not_intro rfl))
    exact K kq F (Nat.le_succ _) (LI.mk hR hC hM hA hpi hrk hps hds hsl hcd hcd2)
set_option maxHeartbeats 8000000 in
set_option maxRecDepth 100000 in
theorem lc_orders {p : Program} {l : Launch} {e : Env} {s : State} {m : MethodId} {below : List Frame} {meth : Method} {c : Code} {z : Nat} {D : va_G} {Q : State → Prop} {cI cZ cP cR : ClassId} {b n0 : Nat} {xs : Nat → Int32} (C : gC p s m #[.ref b] c RL cL_law 4 wsL_law z D cI cZ cP cR) (hX : va_X b n0 xs s s.heap) (hb0 : b < s.heap.size) (hz : z = s.heap.size) (hn0 : n0 ≤ 2048) {i kq : Nat} {F : Nat → va_E} (hi : i + 4 ≤ n0) (hkq : 4 * kq ≤ i) (hI : LI z cI cZ cP cR kq F) (K : ∀ (kq2 : Nat) (F2 : Nat → va_E), kq2 ≤ kq + 1 → LI z cI cZ cP cR kq2 F2 → gX p l e room_1 s m #[.ref b] below meth c 4 z D Q (132 + 14 * kq2) F2 (132 + 14 * kq2) (3833 + 90 * kq2) [(3, .int (nI i)), (2, .ref (z + 123)), (1, .ref (z + 0)), (0, .ref b)] 669 []) : gX p l e room_1 s m #[.ref b] below meth c 4 z D Q (132 + 14 * kq) F (132 + 14 * kq) (3833 + 90 * kq) [(3, .int (nI i)), (2, .ref (z + 123)), (1, .ref (z + 0)), (0, .ref b)] 469 [] := by
  obtain ⟨n, kk, cw, c0, wi, rl, sp, pd, bs, od, pi, T, hn, hb, hd, sl, sd, len, pa, f0, spt, wrg, rd, a, ps, slr, sv, sda, wy, pa2, nu, cd, hR, hC, hM, hA, hpi, hrk, hps, hds, hsl, hcd, hcd2⟩ := hI
  obtain ⟨-, -, -, -, -, -, -, hnn, hkk, hcw, hcnt, hc0, hsp, hrl, hwi, hod⟩ := id hA
  obtain ⟨hf0, hn6, -⟩ := id hps
  have hlen : len ≤ 80 := hC.2.2.2.2.2.2.2.1
  have h2n := two_lt hnn
  have hkq2 : kq ≤ 512 := by omega
  have hmR := mR.mk hA hpi hrk
  by_cases hv : inB (xs (i + 1)) 0 10 = true
  · obtain ⟨v, hv10, hve⟩ := inB_of (m := 10) (by decide) hv
    rw [hve] at hv
    by_cases hw : hwB wi = true
    · refine x_aload_n C (pc := 469) 2 dL_law_469 rfl ?_
      refine x_aload_n C (pc := 470) 3 dL_law_470 rfl ?_
      refine x_iload_n C (pc := 471) 0 dL_law_471 rfl ?_
      refine x_iconst C (pc := 472) (v := 1) dL_law_472 (by decide) ?_
      refine x_iadd C (pc := 473) (v := nI (i + 1)) dL_law_473 (nI_add i 1) ?_
      refine x_sld C hX hb0 hz (pc := 474) (j := i + 1) (by omega) hn0 dL_law_474 ?_
      refine x_eqi hve ?_
      refine x_cViE C (pc := 475) (st := []) (c_X6_orders_s l D z cI cZ cP cR (132 + 14 * kq) F n kk cw c0 wi rl sp pd bs od pi T hn hb hd sl sd len pa v hR hnn hkk hcw hc0 hcnt hsp hpi hC hv10 hw) (cwV 1 C.2.2.2.2.1 gL_law_X6_orders rfl rfl rfl hd_X6_orders ⟨Nat.le_of_ble_eq_true rfl, Nat.le_of_ble_eq_true rfl⟩) (by omega) hC.1.1 rfl rfl rfl (Nat.le_of_ble_eq_true rfl) dL_law_475 ⟨rm_c (by show 132 + 14 * kq + 0 ≤ 10000; omega), rm_s (by show 3833 + 90 * kq + 0 ≤ 100000; omega)⟩ (fun F_475 h_475 => ?_)
      obtain ⟨hR2, hC2, fr2⟩ := h_475
      have hM2 := hM.same (F2 := F_475) (fun q h1 h2 => fr2 q (by omega))
      refine x_aload_n C (pc := 478) 1 dL_law_478 rfl ?_
      refine x_aload_n C (pc := 479) 3 dL_law_479 rfl ?_
      refine x_iload_n C (pc := 480) 0 dL_law_480 rfl ?_
      refine x_iconst C (pc := 481) (v := 1) dL_law_481 (by decide) ?_
      refine x_iadd C (pc := 482) (v := nI (i + 1)) dL_law_482 (nI_add i 1) ?_
      refine x_sld C hX hb0 hz (pc := 483) (j := i + 1) (by omega) hn0 dL_law_483 ?_
      refine x_eqi hve ?_
      refine x_cViE C (pc := 484) (st := [.int ((folG (fun w => decide (rbF wi pd pi n w w ≤ rl)) n kk cw (2 ^ n)).2 v)]) (c_X7_orders_s l D z cI cZ cP cR (132 + 14 * kq) F_475 123 (nI f0) (nI hn) (nI len) spt wrg rd a ps slr sv sda wy pa2 nu n kk cw c0 wi rl sp pd od (nI v) pi hM2 (by omega) hA hv hw hrk) (cwV 1 C.2.2.2.2.1 gL_law_X7_orders rfl rfl rfl hd_X7_orders ⟨Nat.le_of_ble_eq_true rfl, Nat.le_of_ble_eq_true rfl⟩) (by omega) hM2.ob rfl rfl rfl (Nat.le_of_ble_eq_true rfl) dL_law_484 ⟨rm_c (by show 132 + 14 * kq + 0 ≤ 10000; omega), rm_s (by show 3833 + 90 * kq + 0 ≤ 100000; omega)⟩ (fun F_484 h_484 => ?_)
      obtain ⟨wy3, hM3, fr3⟩ := h_484
      have hR3 := hR2.same (F2 := F_484) (fun q h1 h2 => fr3 q (by omega))
      have hC3 := isCl_same (F2 := F_484) hC2 (fun q hq => fr3 q (by omega))
      refine x_icmp_eq C (pc := 487) (tgt := 669) dL_law_487 (by decide) (fun c_487 => ?_) (fun c_487 => absurd c_487 (not_not_intro ((fo_sum _ _ _ hnn hcw hcnt).trans ((sumS_one hv10 11 (by decide)).trans (if_pos (by omega)))).symm))
      exact K kq F_484 (Nat.le_succ _) (LI.mk hR3 hC3 hM3 hA hpi hrk hps hds hsl hcd hcd2)
    · have hw' : hwB wi = false := by simpa using hw
      refine x_aload_n C (pc := 469) 2 dL_law_469 rfl ?_
      refine x_aload_n C (pc := 470) 3 dL_law_470 rfl ?_
      refine x_iload_n C (pc := 471) 0 dL_law_471 rfl ?_
      refine x_iconst C (pc := 472) (v := 1) dL_law_472 (by decide) ?_
      refine x_iadd C (pc := 473) (v := nI (i + 1)) dL_law_473 (nI_add i 1) ?_
      refine x_sld C hX hb0 hz (pc := 474) (j := i + 1) (by omega) hn0 dL_law_474 ?_
      refine x_eqi hve ?_
      refine x_cViR C (pc := 475) (st := []) (c_X6_orders_e2 l D z cI cZ cP cR (132 + 14 * kq) F n kk cw c0 wi rl sp pd bs od pi T hn hb hd sl sd len pa v hR hnn hkk hcw hc0 hcnt hsp hpi hC hv10 hw') (cwV 1 C.2.2.2.2.1 gL_law_X6_orders rfl rfl rfl hd_X6_orders ⟨Nat.le_of_ble_eq_true rfl, Nat.le_of_ble_eq_true rfl⟩) (by omega) hC.1.1 rfl rfl rfl (Nat.le_of_ble_eq_true rfl) dL_law_475 ⟨rm_c (by show 132 + 14 * kq + 0 ≤ 10000; omega), rm_s (by show 3833 + 90 * kq + 0 ≤ 100000; omega)⟩ ?_
      refine x_aload_n C (pc := 478) 1 dL_law_478 rfl ?_
      refine x_aload_n C (pc := 479) 3 dL_law_479 rfl ?_
      refine x_iload_n C (pc := 480) 0 dL_law_480 rfl ?_
      refine x_iconst C (pc := 481) (v := 1) dL_law_481 (by decide) ?_
      refine x_iadd C (pc := 482) (v := nI (i + 1)) dL_law_482 (nI_add i 1) ?_
      refine x_sld C hX hb0 hz (pc := 483) (j := i + 1) (by omega) hn0 dL_law_483 ?_
      refine x_eqi hve ?_
      refine x_cViR C (pc := 484) (st := [.int (-5)]) (c_X7_orders_e2 l D z cI cZ cP cR (132 + 14 * kq) F 123 (nI f0) (nI hn) (nI len) spt wrg rd a ps slr sv sda wy pa2 nu n kk cw c0 wi rl sp pd od (nI v) hM (by omega) hA hv hw') (cwV 1 C.2.2.2.2.1 gL_law_X7_orders rfl rfl rfl hd_X7_orders ⟨Nat.le_of_ble_eq_true rfl, Nat.le_of_ble_eq_true rfl⟩) (by omega) hM.ob rfl rfl rfl (Nat.le_of_ble_eq_true rfl) dL_law_484 ⟨rm_c (by show 132 + 14 * kq + 0 ≤ 10000; omega), rm_s (by show 3833 + 90 * kq + 0 ≤ 100000; omega)⟩ ?_
      refine x_icmp_eq C (pc := 487) (tgt := 669) dL_law_487 (by decide) (fun c_487 => ?_) (fun c_487 => absurd c_487 (not_not_intro rfl))
      exact K kq F (Nat.le_succ _) (LI.mk hR hC hM hA hpi hrk hps hds hsl hcd hcd2)
  · have hv' : inB (xs (i + 1)) 0 10 = false := by simpa using hv
    refine x_aload_n C (pc := 469) 2 dL_law_469 rfl ?_
    refine x_aload_n C (pc := 470) 3 dL_law_470 rfl ?_
    refine x_iload_n C (pc := 471) 0 dL_law_471 rfl ?_
    refine x_iconst C (pc := 472) (v := 1) dL_law_472 (by decide) ?_
    refine x_iadd C (pc := 473) (v := nI (i + 1)) dL_law_473 (nI_add i 1) ?_
    refine x_sld C hX hb0 hz (pc := 474) (j := i + 1) (by omega) hn0 dL_law_474 ?_
    refine x_cViR C (pc := 475) (st := []) (c_X6_orders_e1 l D z cI cZ cP cR (132 + 14 * kq) F n kk cw c0 wi rl sp pd bs od pi T hn hb hd sl sd len pa (xs (i + 1)) hR hnn hkk hcw hc0 hcnt hsp hpi hC hv') (cwV 1 C.2.2.2.2.1 gL_law_X6_orders rfl rfl rfl hd_X6_orders ⟨Nat.le_of_ble_eq_true rfl, Nat.le_of_ble_eq_true rfl⟩) (by omega) hC.1.1 rfl rfl rfl (Nat.le_of_ble_eq_true rfl) dL_law_475 ⟨rm_c (by show 132 + 14 * kq + 0 ≤ 10000; omega), rm_s (by show 3833 + 90 * kq + 0 ≤ 100000; omega)⟩ ?_
    refine x_aload_n C (pc := 478) 1 dL_law_478 rfl ?_
    refine x_aload_n C (pc := 479) 3 dL_law_479 rfl ?_
    refine x_iload_n C (pc := 480) 0 dL_law_480 rfl ?_
    refine x_iconst C (pc := 481) (v := 1) dL_law_481 (by decide) ?_
    refine x_iadd C (pc := 482) (v := nI (i + 1)) dL_law_482 (nI_add i 1) ?_
    refine x_sld C hX hb0 hz (pc := 483) (j := i + 1) (by omega) hn0 dL_law_483 ?_
    refine x_cViR C (pc := 484) (st := [.int (-2)]) (c_X7_orders_e1 l D z cI cZ cP cR (132 + 14 * kq) F 123 (nI f0) (nI hn) (nI len) spt wrg rd a ps slr sv sda wy pa2 nu n kk cw c0 wi rl sp pd od (xs (i + 1)) hM (by omega) hA hv') (cwV 1 C.2.2.2.2.1 gL_law_X7_orders rfl rfl rfl hd_X7_orders ⟨Nat.le_of_ble_eq_true rfl, Nat.le_of_ble_eq_true rfl⟩) (by omega) hM.ob rfl rfl rfl (Nat.le_of_ble_eq_true rfl) dL_law_484 ⟨rm_c (by show 132 + 14 * kq + 0 ≤ 10000; omega), rm_s (by show 3833 + 90 * kq + 0 ≤ 100000; omega)⟩ ?_
    refine x_icmp_eq C (pc := 487) (tgt := 669) dL_law_487 (by decide) (fun c_487 => ?_) (fun c_487 => absurd c_487 (not_not_intro rfl))
    exact K kq F (Nat.le_succ _) (LI.mk hR hC hM hA hpi hrk hps hds hsl hcd hcd2)
set_option maxHeartbeats 8000000 in
set_option maxRecDepth 100000 in
theorem lc_wrongOrders {p : Program} {l : Launch} {e : Env} {s : State} {m : MethodId} {below : List Frame} {meth : Method} {c : Code} {z : Nat} {D : va_G} {Q : State → Prop} {cI cZ cP cR : ClassId} {b n0 : Nat} {xs : Nat → Int32} (C : gC p s m #[.ref b] c RL cL_law 4 wsL_law z D cI cZ cP cR) (hX : va_X b n0 xs s s.heap) (hb0 : b < s.heap.size) (hz : z = s.heap.size) (hn0 : n0 ≤ 2048) {i kq : Nat} {F : Nat → va_E} (hi : i + 4 ≤ n0) (hkq : 4 * kq ≤ i) (hI : LI z cI cZ cP cR kq F) (K : ∀ (kq2 : Nat) (F2 : Nat → va_E), kq2 ≤ kq + 1 → LI z cI cZ cP cR kq2 F2 → gX p l e room_1 s m #[.ref b] below meth c 4 z D Q (132 + 14 * kq2) F2 (132 + 14 * kq2) (3833 + 90 * kq2) [(3, .int (nI i)), (2, .ref (z + 123)), (1, .ref (z + 0)), (0, .ref b)] 669 []) : gX p l e room_1 s m #[.ref b] below meth c 4 z D Q (132 + 14 * kq) F (132 + 14 * kq) (3833 + 90 * kq) [(3, .int (nI i)), (2, .ref (z + 123)), (1, .ref (z + 0)), (0, .ref b)] 492 [] := by
  obtain ⟨n, kk, cw, c0, wi, rl, sp, pd, bs, od, pi, T, hn, hb, hd, sl, sd, len, pa, f0, spt, wrg, rd, a, ps, slr, sv, sda, wy, pa2, nu, cd, hR, hC, hM, hA, hpi, hrk, hps, hds, hsl, hcd, hcd2⟩ := hI
  obtain ⟨-, -, -, -, -, -, -, hnn, hkk, hcw, hcnt, hc0, hsp, hrl, hwi, hod⟩ := id hA
  obtain ⟨hf0, hn6, -⟩ := id hps
  have hlen : len ≤ 80 := hC.2.2.2.2.2.2.2.1
  have h2n := two_lt hnn
  have hkq2 : kq ≤ 512 := by omega
  have hmR := mR.mk hA hpi hrk
  by_cases hw : hwB wi = true
  · by_cases hr : decide (0 < leadF wi pd n (2 ^ n - 1)) = true
    · refine x_aload_n C (pc := 492) 2 dL_law_492 rfl ?_
      refine x_cViR C (pc := 493) (st := []) (c_X6_wrongOrders_z l D z cI cZ cP cR (132 + 14 * kq) F n kk cw c0 wi rl sp pd bs od pi T hn hb hd sl sd len pa  hR hnn hkk hcw hc0 hcnt hsp hpi hC hw hr) (cwV 0 C.2.2.2.2.1 gL_law_X6_wrongOrders rfl rfl rfl hd_X6_wrongOrders ⟨Nat.le_of_ble_eq_true rfl, Nat.le_of_ble_eq_true rfl⟩) (by omega) hC.1.1 rfl rfl rfl (Nat.le_of_ble_eq_true rfl) dL_law_493 ⟨rm_c (by show 132 + 14 * kq + 0 ≤ 10000; omega), rm_s (by show 3833 + 90 * kq + 0 ≤ 100000; omega)⟩ ?_
      refine x_aload_n C (pc := 496) 1 dL_law_496 rfl ?_
      refine x_cViR C (pc := 497) (st := [.int 0]) (c_X7_wrongOrders_z l D z cI cZ cP cR (132 + 14 * kq) F 123 (nI f0) (nI hn) (nI len) spt wrg rd a ps slr sv sda wy pa2 nu n kk cw c0 wi rl sp pd od  hM (by omega) hA hw hr) (cwV 0 C.2.2.2.2.1 gL_law_X7_wrongOrders rfl rfl rfl hd_X7_wrongOrders ⟨Nat.le_of_ble_eq_true rfl, Nat.le_of_ble_eq_true rfl⟩) (by omega) hM.ob rfl rfl rfl (Nat.le_of_ble_eq_true rfl) dL_law_497 ⟨rm_c (by show 132 + 14 * kq + 0 ≤ 10000; omega), rm_s (by show 3833 + 90 * kq + 0 ≤ 100000; omega)⟩ ?_
      refine x_icmpN_eq C (pc := 500) (tgt := 669) (by decide) (by decide) dL_law_500 (by decide) (fun h_ => ?_) (fun h_ => absurd h_ (by decide))
      exact K kq F (Nat.le_succ _) (LI.mk hR hC hM hA hpi hrk hps hds hsl hcd hcd2)
    · have hr' : decide (0 < leadF wi pd n (2 ^ n - 1)) = false := by simpa using hr
      refine x_aload_n C (pc := 492) 2 dL_law_492 rfl ?_
      refine x_cViE C (pc := 493) (st := []) (c_X6_wrongOrders_s l D z cI cZ cP cR (132 + 14 * kq) F n kk cw c0 wi rl sp pd bs od pi T hn hb hd sl sd len pa  hR hnn hkk hcw hc0 hcnt hsp hpi hC hw hr') (cwV 0 C.2.2.2.2.1 gL_law_X6_wrongOrders rfl rfl rfl hd_X6_wrongOrders ⟨Nat.le_of_ble_eq_true rfl, Nat.le_of_ble_eq_true rfl⟩) (by omega) hC.1.1 rfl rfl rfl (Nat.le_of_ble_eq_true rfl) dL_law_493 ⟨rm_c (by show 132 + 14 * kq + 0 ≤ 10000; omega), rm_s (by show 3833 + 90 * kq + 0 ≤ 100000; omega)⟩ (fun F_493 h_493 => ?_)
      obtain ⟨hR2, hC2, fr2⟩ := h_493
      have hM2 := hM.same (F2 := F_493) (fun q h1 h2 => fr2 q (by omega))
      refine x_aload_n C (pc := 496) 1 dL_law_496 rfl ?_
      refine x_cViE C (pc := 497) (st := [.int (gSum (folG (fun w => decide (rbF wi pd pi n w w ≤ rl)) n kk cw (2 ^ n)).2 11)]) (c_X7_wrongOrders_s l D z cI cZ cP cR (132 + 14 * kq) F_493 123 (nI f0) (nI hn) (nI len) spt wrg rd a ps slr sv sda wy pa2 nu n kk cw c0 wi rl sp pd od pi hM2 (by omega) hA hw hr' hrk) (cwV 0 C.2.2.2.2.1 gL_law_X7_wrongOrders rfl rfl rfl hd_X7_wrongOrders ⟨Nat.le_of_ble_eq_true rfl, Nat.le_of_ble_eq_true rfl⟩) (by omega) hM2.ob rfl rfl rfl (Nat.le_of_ble_eq_true rfl) dL_law_497 ⟨rm_c (by show 132 + 14 * kq + 0 ≤ 10000; omega), rm_s (by show 3833 + 90 * kq + 0 ≤ 100000; omega)⟩ (fun F_497 h_497 => ?_)
      obtain ⟨wy3, hM3, fr3⟩ := h_497
      have hR3 := hR2.same (F2 := F_497) (fun q h1 h2 => fr3 q (by omega))
      have hC3 := isCl_same (F2 := F_497) hC2 (fun q hq => fr3 q (by omega))
      refine x_icmp_eq C (pc := 500) (tgt := 669) dL_law_500 (by decide) (fun c_500 => ?_) (fun c_500 => absurd c_500 (not_not_intro ((fo_sum _ _ _ hnn hcw hcnt).trans (sumS_all 11)).symm))
      exact K kq F_497 (Nat.le_succ _) (LI.mk hR3 hC3 hM3 hA hpi hrk hps hds hsl hcd hcd2)
  · have hw' : hwB wi = false := by simpa using hw
    refine x_aload_n C (pc := 492) 2 dL_law_492 rfl ?_
    refine x_cViR C (pc := 493) (st := []) (c_X6_wrongOrders_e l D z cI cZ cP cR (132 + 14 * kq) F n kk cw c0 wi rl sp pd bs od pi T hn hb hd sl sd len pa  hR hnn hkk hcw hc0 hcnt hsp hpi hC hw') (cwV 0 C.2.2.2.2.1 gL_law_X6_wrongOrders rfl rfl rfl hd_X6_wrongOrders ⟨Nat.le_of_ble_eq_true rfl, Nat.le_of_ble_eq_true rfl⟩) (by omega) hC.1.1 rfl rfl rfl (Nat.le_of_ble_eq_true rfl) dL_law_493 ⟨rm_c (by show 132 + 14 * kq + 0 ≤ 10000; omega), rm_s (by show 3833 + 90 * kq + 0 ≤ 100000; omega)⟩ ?_
    refine x_aload_n C (pc := 496) 1 dL_law_496 rfl ?_
    refine x_cViR C (pc := 497) (st := [.int (-5)]) (c_X7_wrongOrders_e l D z cI cZ cP cR (132 + 14 * kq) F 123 (nI f0) (nI hn) (nI len) spt wrg rd a ps slr sv sda wy pa2 nu n kk cw c0 wi rl sp pd od  hM (by omega) hA hw') (cwV 0 C.2.2.2.2.1 gL_law_X7_wrongOrders rfl rfl rfl hd_X7_wrongOrders ⟨Nat.le_of_ble_eq_true rfl, Nat.le_of_ble_eq_true rfl⟩) (by omega) hM.ob rfl rfl rfl (Nat.le_of_ble_eq_true rfl) dL_law_497 ⟨rm_c (by show 132 + 14 * kq + 0 ≤ 10000; omega), rm_s (by show 3833 + 90 * kq + 0 ≤ 100000; omega)⟩ ?_
    refine x_icmp_eq C (pc := 500) (tgt := 669) dL_law_500 (by decide) (fun c_500 => ?_) (fun c_500 => absurd c_500 (not_not_intro rfl))
    exact K kq F (Nat.le_succ _) (LI.mk hR hC hM hA hpi hrk hps hds hsl hcd hcd2)
set_option maxHeartbeats 8000000 in
set_option maxRecDepth 100000 in
theorem lc_suspects {p : Program} {l : Launch} {e : Env} {s : State} {m : MethodId} {below : List Frame} {meth : Method} {c : Code} {z : Nat} {D : va_G} {Q : State → Prop} {cI cZ cP cR : ClassId} {b n0 : Nat} {xs : Nat → Int32} (C : gC p s m #[.ref b] c RL cL_law 4 wsL_law z D cI cZ cP cR) (hX : va_X b n0 xs s s.heap) (hb0 : b < s.heap.size) (hz : z = s.heap.size) (hn0 : n0 ≤ 2048) {i kq : Nat} {F : Nat → va_E} (hi : i + 4 ≤ n0) (hkq : 4 * kq ≤ i) (hI : LI z cI cZ cP cR kq F) (K : ∀ (kq2 : Nat) (F2 : Nat → va_E), kq2 ≤ kq + 1 → LI z cI cZ cP cR kq2 F2 → gX p l e room_1 s m #[.ref b] below meth c 4 z D Q (132 + 14 * kq2) F2 (132 + 14 * kq2) (3833 + 90 * kq2) [(3, .int (nI i)), (2, .ref (z + 123)), (1, .ref (z + 0)), (0, .ref b)] 669 []) : gX p l e room_1 s m #[.ref b] below meth c 4 z D Q (132 + 14 * kq) F (132 + 14 * kq) (3833 + 90 * kq) [(3, .int (nI i)), (2, .ref (z + 123)), (1, .ref (z + 0)), (0, .ref b)] 505 [] := by
  obtain ⟨n, kk, cw, c0, wi, rl, sp, pd, bs, od, pi, T, hn, hb, hd, sl, sd, len, pa, f0, spt, wrg, rd, a, ps, slr, sv, sda, wy, pa2, nu, cd, hR, hC, hM, hA, hpi, hrk, hps, hds, hsl, hcd, hcd2⟩ := hI
  obtain ⟨-, -, -, -, -, -, -, hnn, hkk, hcw, hcnt, hc0, hsp, hrl, hwi, hod⟩ := id hA
  obtain ⟨hf0, hn6, -⟩ := id hps
  have hlen : len ≤ 80 := hC.2.2.2.2.2.2.2.1
  have h2n := two_lt hnn
  have hkq2 : kq ≤ 512 := by omega
  have hmR := mR.mk hA hpi hrk
  by_cases hw : hwB wi = true
  · cases hnd : ndR (fun i => swF wi (pd i)) pi n cw (leadF wi pd n cw) with
    | none =>
      refine x_aload_n C (pc := 505) 2 dL_law_505 rfl ?_
      refine x_cViR C (pc := 506) (st := []) (c_X6_suspects_n l D z cI cZ cP cR (132 + 14 * kq) F n kk cw c0 wi rl sp pd bs od pi T hn hb hd sl sd len pa  hR hnn hkk hcw hc0 hcnt hsp hpi hC hw hnd) (cwV 0 C.2.2.2.2.1 gL_law_X6_suspects rfl rfl rfl hd_X6_suspects ⟨Nat.le_of_ble_eq_true rfl, Nat.le_of_ble_eq_true rfl⟩) (by omega) hC.1.1 rfl rfl rfl (Nat.le_of_ble_eq_true rfl) dL_law_506 ⟨rm_c (by show 132 + 14 * kq + 0 ≤ 10000; omega), rm_s (by show 3833 + 90 * kq + 0 ≤ 100000; omega)⟩ ?_
      refine x_aload_n C (pc := 509) 1 dL_law_509 rfl ?_
      refine x_cViR C (pc := 510) (st := [.int (-6)]) (c_X7_suspects_s l D z cI cZ cP cR (132 + 14 * kq) F 123 (nI f0) (nI hn) (nI len) spt wrg rd a ps slr sv sda wy pa2 nu n kk cw c0 wi rl sp pd od pi hM (by omega) hA hw hrk) (cwV 0 C.2.2.2.2.1 gL_law_X7_suspects rfl rfl rfl hd_X7_suspects ⟨Nat.le_of_ble_eq_true rfl, Nat.le_of_ble_eq_true rfl⟩) (by omega) hM.ob rfl rfl rfl (Nat.le_of_ble_eq_true rfl) dL_law_510 ⟨rm_c (by show 132 + 14 * kq + 0 ≤ 10000; omega), rm_s (by show 3833 + 90 * kq + 0 ≤ 100000; omega)⟩ ?_
      refine x_icmp_eq C (pc := 513) (tgt := 669) dL_law_513 (by decide) (fun c_513 => ?_) (fun c_513 => absurd c_513 (not_not_intro (su_n hrk hnn hnd)))
      exact K kq F (Nat.le_succ _) (LI.mk hR hC hM hA hpi hrk hps hds hsl hcd hcd2)
    | some mm =>
      refine x_aload_n C (pc := 505) 2 dL_law_505 rfl ?_
      refine x_cViR C (pc := 506) (st := []) (c_X6_suspects_s l D z cI cZ cP cR (132 + 14 * kq) F n kk cw c0 wi rl sp pd bs od pi T hn hb hd sl sd len pa mm hR hnn hkk hcw hc0 hcnt hsp hpi hC hw hnd) (cwV 0 C.2.2.2.2.1 gL_law_X6_suspects rfl rfl rfl hd_X6_suspects ⟨Nat.le_of_ble_eq_true rfl, Nat.le_of_ble_eq_true rfl⟩) (by omega) hC.1.1 rfl rfl rfl (Nat.le_of_ble_eq_true rfl) dL_law_506 ⟨rm_c (by show 132 + 14 * kq + 0 ≤ 10000; omega), rm_s (by show 3833 + 90 * kq + 0 ≤ 100000; omega)⟩ ?_
      refine x_aload_n C (pc := 509) 1 dL_law_509 rfl ?_
      refine x_cViR C (pc := 510) (st := [.int (nI (gsG pi cw n 0 mm 0))]) (c_X7_suspects_s l D z cI cZ cP cR (132 + 14 * kq) F 123 (nI f0) (nI hn) (nI len) spt wrg rd a ps slr sv sda wy pa2 nu n kk cw c0 wi rl sp pd od pi hM (by omega) hA hw hrk) (cwV 0 C.2.2.2.2.1 gL_law_X7_suspects rfl rfl rfl hd_X7_suspects ⟨Nat.le_of_ble_eq_true rfl, Nat.le_of_ble_eq_true rfl⟩) (by omega) hM.ob rfl rfl rfl (Nat.le_of_ble_eq_true rfl) dL_law_510 ⟨rm_c (by show 132 + 14 * kq + 0 ≤ 10000; omega), rm_s (by show 3833 + 90 * kq + 0 ≤ 100000; omega)⟩ ?_
      refine x_icmp_eq C (pc := 513) (tgt := 669) dL_law_513 (by decide) (fun c_513 => ?_) (fun c_513 => absurd c_513 (not_not_intro (su_s hrk hnn hnd)))
      exact K kq F (Nat.le_succ _) (LI.mk hR hC hM hA hpi hrk hps hds hsl hcd hcd2)
  · have hw' : hwB wi = false := by simpa using hw
    refine x_aload_n C (pc := 505) 2 dL_law_505 rfl ?_
    refine x_cViR C (pc := 506) (st := []) (c_X6_suspects_e l D z cI cZ cP cR (132 + 14 * kq) F n kk cw c0 wi rl sp pd bs od pi T hn hb hd sl sd len pa  hR hnn hkk hcw hc0 hcnt hsp hpi hC hw') (cwV 0 C.2.2.2.2.1 gL_law_X6_suspects rfl rfl rfl hd_X6_suspects ⟨Nat.le_of_ble_eq_true rfl, Nat.le_of_ble_eq_true rfl⟩) (by omega) hC.1.1 rfl rfl rfl (Nat.le_of_ble_eq_true rfl) dL_law_506 ⟨rm_c (by show 132 + 14 * kq + 0 ≤ 10000; omega), rm_s (by show 3833 + 90 * kq + 0 ≤ 100000; omega)⟩ ?_
    refine x_aload_n C (pc := 509) 1 dL_law_509 rfl ?_
    refine x_cViR C (pc := 510) (st := [.int (-5)]) (c_X7_suspects_e l D z cI cZ cP cR (132 + 14 * kq) F 123 (nI f0) (nI hn) (nI len) spt wrg rd a ps slr sv sda wy pa2 nu n kk cw c0 wi rl sp pd od  hM (by omega) hA hw') (cwV 0 C.2.2.2.2.1 gL_law_X7_suspects rfl rfl rfl hd_X7_suspects ⟨Nat.le_of_ble_eq_true rfl, Nat.le_of_ble_eq_true rfl⟩) (by omega) hM.ob rfl rfl rfl (Nat.le_of_ble_eq_true rfl) dL_law_510 ⟨rm_c (by show 132 + 14 * kq + 0 ≤ 10000; omega), rm_s (by show 3833 + 90 * kq + 0 ≤ 100000; omega)⟩ ?_
    refine x_icmp_eq C (pc := 513) (tgt := 669) dL_law_513 (by decide) (fun c_513 => ?_) (fun c_513 => absurd c_513 (not_not_intro rfl))
    exact K kq F (Nat.le_succ _) (LI.mk hR hC hM hA hpi hrk hps hds hsl hcd hcd2)
theorem kc_L_law_81 : Cond.constantLong RL 81 (4294967295) ∈ wsL_law := by decide +kernel
set_option maxHeartbeats 8000000 in
set_option maxRecDepth 100000 in
theorem lc_put {p : Program} {l : Launch} {e : Env} {s : State} {m : MethodId} {below : List Frame} {meth : Method} {c : Code} {z : Nat} {D : va_G} {Q : State → Prop} {cI cZ cP cR : ClassId} {b n0 : Nat} {xs : Nat → Int32} (C : gC p s m #[.ref b] c RL cL_law 4 wsL_law z D cI cZ cP cR) (hX : va_X b n0 xs s s.heap) (hb0 : b < s.heap.size) (hz : z = s.heap.size) (hn0 : n0 ≤ 2048) {i kq : Nat} {F : Nat → va_E} (hi : i + 4 ≤ n0) (hkq : 4 * kq ≤ i) (hI : LI z cI cZ cP cR kq F) (K : ∀ (kq2 : Nat) (F2 : Nat → va_E), kq2 ≤ kq + 1 → LI z cI cZ cP cR kq2 F2 → gX p l e room_1 s m #[.ref b] below meth c 4 z D Q (132 + 14 * kq2) F2 (132 + 14 * kq2) (3833 + 90 * kq2) [(3, .int (nI i)), (2, .ref (z + 123)), (1, .ref (z + 0)), (0, .ref b)] 669 []) : gX p l e room_1 s m #[.ref b] below meth c 4 z D Q (132 + 14 * kq) F (132 + 14 * kq) (3833 + 90 * kq) [(3, .int (nI i)), (2, .ref (z + 123)), (1, .ref (z + 0)), (0, .ref b)] 518 [] := by
  obtain ⟨n, kk, cw, c0, wi, rl, sp, pd, bs, od, pi, T, hn, hb, hd, sl, sd, len, pa, f0, spt, wrg, rd, a, ps, slr, sv, sda, wy, pa2, nu, cd, hR, hC, hM, hA, hpi, hrk, hps, hds, hsl, hcd, hcd2⟩ := hI
  obtain ⟨-, -, -, -, -, -, -, hnn, hkk, hcw, hcnt, hc0, hsp, hrl, hwi, hod⟩ := id hA
  obtain ⟨hf0, hn6, -⟩ := id hps
  have hlen : len ≤ 80 := hC.2.2.2.2.2.2.2.1
  have h2n := two_lt hnn
  have hkq2 : kq ≤ 512 := by omega
  have hmR := mR.mk hA hpi hrk
  obtain ⟨X, hX64, hXe⟩ := wb_of ((((xs (i + 1) : Int32).toInt64) <<< ((32 : Int32).toInt64 &&& 63)) ||| (((xs (i + 2) : Int32).toInt64) &&& 4294967295))
  by_cases hm : chN X = 0
  · refine x_aload_n C (pc := 518) 2 dL_law_518 rfl ?_
    refine x_aload_n C (pc := 519) 3 dL_law_519 rfl ?_
    refine x_iload_n C (pc := 520) 0 dL_law_520 rfl ?_
    refine x_iconst C (pc := 521) (v := 1) dL_law_521 (by decide) ?_
    refine x_iadd C (pc := 522) (v := nI (i + 1)) dL_law_522 (nI_add i 1) ?_
    refine x_sld C hX hb0 hz (pc := 523) (j := i + 1) (by omega) hn0 dL_law_523 ?_
    refine x_i2l C (pc := 524) (v := (xs (i + 1) : Int32).toInt64) dL_law_524 rfl ?_
    refine x_bipush C (pc := 525) (v := 32) dL_law_525 (by decide) ?_
    refine x_lshl C (pc := 527) (v := ((xs (i + 1) : Int32).toInt64) <<< ((32 : Int32).toInt64 &&& 63)) dL_law_527 rfl ?_
    refine x_aload_n C (pc := 528) 3 dL_law_528 rfl ?_
    refine x_iload_n C (pc := 529) 0 dL_law_529 rfl ?_
    refine x_iconst C (pc := 530) (v := 2) dL_law_530 (by decide) ?_
    refine x_iadd C (pc := 531) (v := nI (i + 2)) dL_law_531 (nI_add i 2) ?_
    refine x_sld C hX hb0 hz (pc := 532) (j := i + 2) (by omega) hn0 dL_law_532 ?_
    refine x_i2l C (pc := 533) (v := (xs (i + 2) : Int32).toInt64) dL_law_533 rfl ?_
    refine x_ldc2 C (pc := 534) (v := 4294967295) kc_L_law_81 dL_law_534 ?_
    refine x_land C (pc := 537) (v := ((xs (i + 2) : Int32).toInt64) &&& 4294967295) dL_law_537 rfl ?_
    refine x_lor C (pc := 538) (v := (((xs (i + 1) : Int32).toInt64) <<< ((32 : Int32).toInt64 &&& 63)) ||| (((xs (i + 2) : Int32).toInt64) &&& 4294967295)) dL_law_538 rfl ?_
    refine x_eqSt (st2 := [.long (lN X), .ref (z + 0)]) (by rw [hXe]) ?_
    refine x_cViR C (pc := 539) (st := []) (c_X6_put_e1 l D z cI cZ cP cR (132 + 14 * kq) F n kk cw c0 wi rl sp pd bs od pi T hn hb hd sl sd len pa X hR hnn hkk hcw hc0 hcnt hsp hpi hC hX64 hm) (cwV 1 C.2.2.2.2.1 gL_law_X6_put rfl rfl rfl hd_X6_put ⟨Nat.le_of_ble_eq_true rfl, Nat.le_of_ble_eq_true rfl⟩) (by omega) hC.1.1 rfl rfl rfl (Nat.le_of_ble_eq_true rfl) dL_law_539 ⟨rm_c (by show 132 + 14 * kq + 0 ≤ 10000; omega), rm_s (by show 3833 + 90 * kq + 0 ≤ 100000; omega)⟩ ?_
    refine x_aload_n C (pc := 542) 1 dL_law_542 rfl ?_
    refine x_aload_n C (pc := 543) 3 dL_law_543 rfl ?_
    refine x_iload_n C (pc := 544) 0 dL_law_544 rfl ?_
    refine x_iconst C (pc := 545) (v := 1) dL_law_545 (by decide) ?_
    refine x_iadd C (pc := 546) (v := nI (i + 1)) dL_law_546 (nI_add i 1) ?_
    refine x_sld C hX hb0 hz (pc := 547) (j := i + 1) (by omega) hn0 dL_law_547 ?_
    refine x_i2l C (pc := 548) (v := (xs (i + 1) : Int32).toInt64) dL_law_548 rfl ?_
    refine x_bipush C (pc := 549) (v := 32) dL_law_549 (by decide) ?_
    refine x_lshl C (pc := 551) (v := ((xs (i + 1) : Int32).toInt64) <<< ((32 : Int32).toInt64 &&& 63)) dL_law_551 rfl ?_
    refine x_aload_n C (pc := 552) 3 dL_law_552 rfl ?_
    refine x_iload_n C (pc := 553) 0 dL_law_553 rfl ?_
    refine x_iconst C (pc := 554) (v := 2) dL_law_554 (by decide) ?_
    refine x_iadd C (pc := 555) (v := nI (i + 2)) dL_law_555 (nI_add i 2) ?_
    refine x_sld C hX hb0 hz (pc := 556) (j := i + 2) (by omega) hn0 dL_law_556 ?_
    refine x_i2l C (pc := 557) (v := (xs (i + 2) : Int32).toInt64) dL_law_557 rfl ?_
    refine x_ldc2 C (pc := 558) (v := 4294967295) kc_L_law_81 dL_law_558 ?_
    refine x_land C (pc := 561) (v := ((xs (i + 2) : Int32).toInt64) &&& 4294967295) dL_law_561 rfl ?_
    refine x_lor C (pc := 562) (v := (((xs (i + 1) : Int32).toInt64) <<< ((32 : Int32).toInt64 &&& 63)) ||| (((xs (i + 2) : Int32).toInt64) &&& 4294967295)) dL_law_562 rfl ?_
    refine x_eqSt (st2 := [.long (lN X), .ref (z + 123), .int (-2)]) (by rw [hXe]) ?_
    refine x_cViR C (pc := 563) (st := [.int (-2)]) (c_X7_put_e1 l D z cI cZ cP cR (132 + 14 * kq) F 123 len X (nI f0) (nI hn) spt wrg rd a ps slr sv sda wy pa2 nu hM (by omega) hlen hX64 hm) (cwV 1 C.2.2.2.2.1 gL_law_X7_put rfl rfl rfl hd_X7_put ⟨Nat.le_of_ble_eq_true rfl, Nat.le_of_ble_eq_true rfl⟩) (by omega) hM.ob rfl rfl rfl (Nat.le_of_ble_eq_true rfl) dL_law_563 ⟨rm_c (by show 132 + 14 * kq + 0 ≤ 10000; omega), rm_s (by show 3833 + 90 * kq + 0 ≤ 100000; omega)⟩ ?_
    refine x_icmp_eq C (pc := 566) (tgt := 669) dL_law_566 (by decide) (fun c_566 => ?_) (fun c_566 => absurd c_566 (not_not_intro rfl))
    exact K kq F (Nat.le_succ _) (LI.mk hR hC hM hA hpi hrk hps hds hsl hcd hcd2)
  · by_cases hov : len + chN X ≤ 80
    · refine x_aload_n C (pc := 518) 2 dL_law_518 rfl ?_
      refine x_aload_n C (pc := 519) 3 dL_law_519 rfl ?_
      refine x_iload_n C (pc := 520) 0 dL_law_520 rfl ?_
      refine x_iconst C (pc := 521) (v := 1) dL_law_521 (by decide) ?_
      refine x_iadd C (pc := 522) (v := nI (i + 1)) dL_law_522 (nI_add i 1) ?_
      refine x_sld C hX hb0 hz (pc := 523) (j := i + 1) (by omega) hn0 dL_law_523 ?_
      refine x_i2l C (pc := 524) (v := (xs (i + 1) : Int32).toInt64) dL_law_524 rfl ?_
      refine x_bipush C (pc := 525) (v := 32) dL_law_525 (by decide) ?_
      refine x_lshl C (pc := 527) (v := ((xs (i + 1) : Int32).toInt64) <<< ((32 : Int32).toInt64 &&& 63)) dL_law_527 rfl ?_
      refine x_aload_n C (pc := 528) 3 dL_law_528 rfl ?_
      refine x_iload_n C (pc := 529) 0 dL_law_529 rfl ?_
      refine x_iconst C (pc := 530) (v := 2) dL_law_530 (by decide) ?_
      refine x_iadd C (pc := 531) (v := nI (i + 2)) dL_law_531 (nI_add i 2) ?_
      refine x_sld C hX hb0 hz (pc := 532) (j := i + 2) (by omega) hn0 dL_law_532 ?_
      refine x_i2l C (pc := 533) (v := (xs (i + 2) : Int32).toInt64) dL_law_533 rfl ?_
      refine x_ldc2 C (pc := 534) (v := 4294967295) kc_L_law_81 dL_law_534 ?_
      refine x_land C (pc := 537) (v := ((xs (i + 2) : Int32).toInt64) &&& 4294967295) dL_law_537 rfl ?_
      refine x_lor C (pc := 538) (v := (((xs (i + 1) : Int32).toInt64) <<< ((32 : Int32).toInt64 &&& 63)) ||| (((xs (i + 2) : Int32).toInt64) &&& 4294967295)) dL_law_538 rfl ?_
      refine x_eqSt (st2 := [.long (lN X), .ref (z + 0)]) (by rw [hXe]) ?_
      refine x_cViE C (pc := 539) (st := []) (c_X6_put_s l D z cI cZ cP cR (132 + 14 * kq) F n kk cw c0 wi rl sp pd bs od pi T hn hb hd sl sd len pa X hR hnn hkk hcw hc0 hcnt hsp hpi hC hX64 hm hov) (cwV 1 C.2.2.2.2.1 gL_law_X6_put rfl rfl rfl hd_X6_put ⟨Nat.le_of_ble_eq_true rfl, Nat.le_of_ble_eq_true rfl⟩) (by omega) hC.1.1 rfl rfl rfl (Nat.le_of_ble_eq_true rfl) dL_law_539 ⟨rm_c (by show 132 + 14 * kq + 0 ≤ 10000; omega), rm_s (by show 3833 + 90 * kq + 0 ≤ 100000; omega)⟩ (fun F_539 h_539 => ?_)
      obtain ⟨hR2, hC2, fr2⟩ := h_539
      have hM2 := hM.same (F2 := F_539) (fun q h1 h2 => fr2 q (by omega))
      refine x_aload_n C (pc := 542) 1 dL_law_542 rfl ?_
      refine x_aload_n C (pc := 543) 3 dL_law_543 rfl ?_
      refine x_iload_n C (pc := 544) 0 dL_law_544 rfl ?_
      refine x_iconst C (pc := 545) (v := 1) dL_law_545 (by decide) ?_
      refine x_iadd C (pc := 546) (v := nI (i + 1)) dL_law_546 (nI_add i 1) ?_
      refine x_sld C hX hb0 hz (pc := 547) (j := i + 1) (by omega) hn0 dL_law_547 ?_
      refine x_i2l C (pc := 548) (v := (xs (i + 1) : Int32).toInt64) dL_law_548 rfl ?_
      refine x_bipush C (pc := 549) (v := 32) dL_law_549 (by decide) ?_
      refine x_lshl C (pc := 551) (v := ((xs (i + 1) : Int32).toInt64) <<< ((32 : Int32).toInt64 &&& 63)) dL_law_551 rfl ?_
      refine x_aload_n C (pc := 552) 3 dL_law_552 rfl ?_
      refine x_iload_n C (pc := 553) 0 dL_law_553 rfl ?_
      refine x_iconst C (pc := 554) (v := 2) dL_law_554 (by decide) ?_
      refine x_iadd C (pc := 555) (v := nI (i + 2)) dL_law_555 (nI_add i 2) ?_
      refine x_sld C hX hb0 hz (pc := 556) (j := i + 2) (by omega) hn0 dL_law_556 ?_
      refine x_i2l C (pc := 557) (v := (xs (i + 2) : Int32).toInt64) dL_law_557 rfl ?_
      refine x_ldc2 C (pc := 558) (v := 4294967295) kc_L_law_81 dL_law_558 ?_
      refine x_land C (pc := 561) (v := ((xs (i + 2) : Int32).toInt64) &&& 4294967295) dL_law_561 rfl ?_
      refine x_lor C (pc := 562) (v := (((xs (i + 1) : Int32).toInt64) <<< ((32 : Int32).toInt64 &&& 63)) ||| (((xs (i + 2) : Int32).toInt64) &&& 4294967295)) dL_law_562 rfl ?_
      refine x_eqSt (st2 := [.long (lN X), .ref (z + 123), .int (nI (len + chN X))]) (by rw [hXe]) ?_
      refine x_cViE C (pc := 563) (st := [.int (nI (len + chN X))]) (c_X7_put_s l D z cI cZ cP cR (132 + 14 * kq) F_539 123 len X (nI f0) (nI hn) spt wrg rd a ps slr sv sda wy pa2 nu hM2 (by omega) hlen hX64 hm hov) (cwV 1 C.2.2.2.2.1 gL_law_X7_put rfl rfl rfl hd_X7_put ⟨Nat.le_of_ble_eq_true rfl, Nat.le_of_ble_eq_true rfl⟩) (by omega) hM2.ob rfl rfl rfl (Nat.le_of_ble_eq_true rfl) dL_law_563 ⟨rm_c (by show 132 + 14 * kq + 0 ≤ 10000; omega), rm_s (by show 3833 + 90 * kq + 0 ≤ 100000; omega)⟩ (fun F_563 h_563 => ?_)
      obtain ⟨hM3, fr3⟩ := h_563
      have hR3 := hR2.same (F2 := F_563) (fun q h1 h2 => fr3 q (by omega))
      have hC3 := isCl_same (F2 := F_563) hC2 (fun q hq => fr3 q (by omega))
      refine x_icmp_eq C (pc := 566) (tgt := 669) dL_law_566 (by decide) (fun c_566 => ?_) (fun c_566 => absurd c_566 (not_not_intro rfl))
      exact K kq F_563 (Nat.le_succ _) (LI.mk hR3 hC3 hM3 hA hpi hrk hps hds hsl (ptA_cd hcd hm) (ptA_cd hcd2 hm))
    · refine x_aload_n C (pc := 518) 2 dL_law_518 rfl ?_
      refine x_aload_n C (pc := 519) 3 dL_law_519 rfl ?_
      refine x_iload_n C (pc := 520) 0 dL_law_520 rfl ?_
      refine x_iconst C (pc := 521) (v := 1) dL_law_521 (by decide) ?_
      refine x_iadd C (pc := 522) (v := nI (i + 1)) dL_law_522 (nI_add i 1) ?_
      refine x_sld C hX hb0 hz (pc := 523) (j := i + 1) (by omega) hn0 dL_law_523 ?_
      refine x_i2l C (pc := 524) (v := (xs (i + 1) : Int32).toInt64) dL_law_524 rfl ?_
      refine x_bipush C (pc := 525) (v := 32) dL_law_525 (by decide) ?_
      refine x_lshl C (pc := 527) (v := ((xs (i + 1) : Int32).toInt64) <<< ((32 : Int32).toInt64 &&& 63)) dL_law_527 rfl ?_
      refine x_aload_n C (pc := 528) 3 dL_law_528 rfl ?_
      refine x_iload_n C (pc := 529) 0 dL_law_529 rfl ?_
      refine x_iconst C (pc := 530) (v := 2) dL_law_530 (by decide) ?_
      refine x_iadd C (pc := 531) (v := nI (i + 2)) dL_law_531 (nI_add i 2) ?_
      refine x_sld C hX hb0 hz (pc := 532) (j := i + 2) (by omega) hn0 dL_law_532 ?_
      refine x_i2l C (pc := 533) (v := (xs (i + 2) : Int32).toInt64) dL_law_533 rfl ?_
      refine x_ldc2 C (pc := 534) (v := 4294967295) kc_L_law_81 dL_law_534 ?_
      refine x_land C (pc := 537) (v := ((xs (i + 2) : Int32).toInt64) &&& 4294967295) dL_law_537 rfl ?_
      refine x_lor C (pc := 538) (v := (((xs (i + 1) : Int32).toInt64) <<< ((32 : Int32).toInt64 &&& 63)) ||| (((xs (i + 2) : Int32).toInt64) &&& 4294967295)) dL_law_538 rfl ?_
      refine x_eqSt (st2 := [.long (lN X), .ref (z + 0)]) (by rw [hXe]) ?_
      refine x_cViR C (pc := 539) (st := []) (c_X6_put_e2 l D z cI cZ cP cR (132 + 14 * kq) F n kk cw c0 wi rl sp pd bs od pi T hn hb hd sl sd len pa X hR hnn hkk hcw hc0 hcnt hsp hpi hC hX64 hm (by omega)) (cwV 1 C.2.2.2.2.1 gL_law_X6_put rfl rfl rfl hd_X6_put ⟨Nat.le_of_ble_eq_true rfl, Nat.le_of_ble_eq_true rfl⟩) (by omega) hC.1.1 rfl rfl rfl (Nat.le_of_ble_eq_true rfl) dL_law_539 ⟨rm_c (by show 132 + 14 * kq + 0 ≤ 10000; omega), rm_s (by show 3833 + 90 * kq + 0 ≤ 100000; omega)⟩ ?_
      refine x_aload_n C (pc := 542) 1 dL_law_542 rfl ?_
      refine x_aload_n C (pc := 543) 3 dL_law_543 rfl ?_
      refine x_iload_n C (pc := 544) 0 dL_law_544 rfl ?_
      refine x_iconst C (pc := 545) (v := 1) dL_law_545 (by decide) ?_
      refine x_iadd C (pc := 546) (v := nI (i + 1)) dL_law_546 (nI_add i 1) ?_
      refine x_sld C hX hb0 hz (pc := 547) (j := i + 1) (by omega) hn0 dL_law_547 ?_
      refine x_i2l C (pc := 548) (v := (xs (i + 1) : Int32).toInt64) dL_law_548 rfl ?_
      refine x_bipush C (pc := 549) (v := 32) dL_law_549 (by decide) ?_
      refine x_lshl C (pc := 551) (v := ((xs (i + 1) : Int32).toInt64) <<< ((32 : Int32).toInt64 &&& 63)) dL_law_551 rfl ?_
      refine x_aload_n C (pc := 552) 3 dL_law_552 rfl ?_
      refine x_iload_n C (pc := 553) 0 dL_law_553 rfl ?_
      refine x_iconst C (pc := 554) (v := 2) dL_law_554 (by decide) ?_
      refine x_iadd C (pc := 555) (v := nI (i + 2)) dL_law_555 (nI_add i 2) ?_
      refine x_sld C hX hb0 hz (pc := 556) (j := i + 2) (by omega) hn0 dL_law_556 ?_
      refine x_i2l C (pc := 557) (v := (xs (i + 2) : Int32).toInt64) dL_law_557 rfl ?_
      refine x_ldc2 C (pc := 558) (v := 4294967295) kc_L_law_81 dL_law_558 ?_
      refine x_land C (pc := 561) (v := ((xs (i + 2) : Int32).toInt64) &&& 4294967295) dL_law_561 rfl ?_
      refine x_lor C (pc := 562) (v := (((xs (i + 1) : Int32).toInt64) <<< ((32 : Int32).toInt64 &&& 63)) ||| (((xs (i + 2) : Int32).toInt64) &&& 4294967295)) dL_law_562 rfl ?_
      refine x_eqSt (st2 := [.long (lN X), .ref (z + 123), .int (-4)]) (by rw [hXe]) ?_
      refine x_cViR C (pc := 563) (st := [.int (-4)]) (c_X7_put_e2 l D z cI cZ cP cR (132 + 14 * kq) F 123 len X (nI f0) (nI hn) spt wrg rd a ps slr sv sda wy pa2 nu hM (by omega) hlen hX64 hm (by omega)) (cwV 1 C.2.2.2.2.1 gL_law_X7_put rfl rfl rfl hd_X7_put ⟨Nat.le_of_ble_eq_true rfl, Nat.le_of_ble_eq_true rfl⟩) (by omega) hM.ob rfl rfl rfl (Nat.le_of_ble_eq_true rfl) dL_law_563 ⟨rm_c (by show 132 + 14 * kq + 0 ≤ 10000; omega), rm_s (by show 3833 + 90 * kq + 0 ≤ 100000; omega)⟩ ?_
      refine x_icmp_eq C (pc := 566) (tgt := 669) dL_law_566 (by decide) (fun c_566 => ?_) (fun c_566 => absurd c_566 (not_not_intro rfl))
      exact K kq F (Nat.le_succ _) (LI.mk hR hC hM hA hpi hrk hps hds hsl hcd hcd2)
set_option maxHeartbeats 8000000 in
set_option maxRecDepth 100000 in
theorem lc_wipe {p : Program} {l : Launch} {e : Env} {s : State} {m : MethodId} {below : List Frame} {meth : Method} {c : Code} {z : Nat} {D : va_G} {Q : State → Prop} {cI cZ cP cR : ClassId} {b n0 : Nat} {xs : Nat → Int32} (C : gC p s m #[.ref b] c RL cL_law 4 wsL_law z D cI cZ cP cR) (hX : va_X b n0 xs s s.heap) (hb0 : b < s.heap.size) (hz : z = s.heap.size) (hn0 : n0 ≤ 2048) {i kq : Nat} {F : Nat → va_E} (hi : i + 4 ≤ n0) (hkq : 4 * kq ≤ i) (hI : LI z cI cZ cP cR kq F) (K : ∀ (kq2 : Nat) (F2 : Nat → va_E), kq2 ≤ kq + 1 → LI z cI cZ cP cR kq2 F2 → gX p l e room_1 s m #[.ref b] below meth c 4 z D Q (132 + 14 * kq2) F2 (132 + 14 * kq2) (3833 + 90 * kq2) [(3, .int (nI i)), (2, .ref (z + 123)), (1, .ref (z + 0)), (0, .ref b)] 669 []) : gX p l e room_1 s m #[.ref b] below meth c 4 z D Q (132 + 14 * kq) F (132 + 14 * kq) (3833 + 90 * kq) [(3, .int (nI i)), (2, .ref (z + 123)), (1, .ref (z + 0)), (0, .ref b)] 571 [] := by
  obtain ⟨n, kk, cw, c0, wi, rl, sp, pd, bs, od, pi, T, hn, hb, hd, sl, sd, len, pa, f0, spt, wrg, rd, a, ps, slr, sv, sda, wy, pa2, nu, cd, hR, hC, hM, hA, hpi, hrk, hps, hds, hsl, hcd, hcd2⟩ := hI
  obtain ⟨-, -, -, -, -, -, -, hnn, hkk, hcw, hcnt, hc0, hsp, hrl, hwi, hod⟩ := id hA
  obtain ⟨hf0, hn6, -⟩ := id hps
  have hlen : len ≤ 80 := hC.2.2.2.2.2.2.2.1
  have h2n := two_lt hnn
  have hkq2 : kq ≤ 512 := by omega
  have hmR := mR.mk hA hpi hrk
  refine x_aload_n C (pc := 571) 2 dL_law_571 rfl ?_
  refine x_cViE C (pc := 572) (st := []) (c_X6_wipe l D z cI cZ cP cR (132 + 14 * kq) F n kk cw c0 wi rl sp pd bs od pi T hn hb hd sl sd len pa  hR hnn hkk hcw hc0 hcnt hsp hpi hC ) (cwV 0 C.2.2.2.2.1 gL_law_X6_wipe rfl rfl rfl hd_X6_wipe ⟨Nat.le_of_ble_eq_true rfl, Nat.le_of_ble_eq_true rfl⟩) (by omega) hC.1.1 rfl rfl rfl (Nat.le_of_ble_eq_true rfl) dL_law_572 ⟨rm_c (by show 132 + 14 * kq + 0 ≤ 10000; omega), rm_s (by show 3833 + 90 * kq + 0 ≤ 100000; omega)⟩ (fun F_572 h_572 => ?_)
  obtain ⟨hR2, hC2, fr2⟩ := h_572
  have hM2 := hM.same (F2 := F_572) (fun q h1 h2 => fr2 q (by omega))
  refine x_aload_n C (pc := 575) 1 dL_law_575 rfl ?_
  refine x_cViE C (pc := 576) (st := [.int (nI len)]) (c_X7_wipe l D z cI cZ cP cR (132 + 14 * kq) F_572 123 len (nI f0) (nI hn) spt wrg rd a ps slr sv sda wy pa2 nu hM2 (by omega)) (cwV 0 C.2.2.2.2.1 gL_law_X7_wipe rfl rfl rfl hd_X7_wipe ⟨Nat.le_of_ble_eq_true rfl, Nat.le_of_ble_eq_true rfl⟩) (by omega) hM2.ob rfl rfl rfl (Nat.le_of_ble_eq_true rfl) dL_law_576 ⟨rm_c (by show 132 + 14 * kq + 0 ≤ 10000; omega), rm_s (by show 3833 + 90 * kq + 0 ≤ 100000; omega)⟩ (fun F_576 h_576 => ?_)
  obtain ⟨hM3, fr3⟩ := h_576
  have hR3 := hR2.same (F2 := F_576) (fun q h1 h2 => fr3 q (by omega))
  have hC3 := isCl_same (F2 := F_576) hC2 (fun q hq => fr3 q (by omega))
  refine x_icmp_eq C (pc := 579) (tgt := 669) dL_law_579 (by decide) (fun c_579 => ?_) (fun c_579 => absurd c_579 (not_not_intro rfl))
  exact K kq F_576 (Nat.le_succ _) (LI.mk (cd := cd) (len := 0) hR3 hC3 hM3 hA hpi hrk hps hds hsl (fun x hx => absurd hx (Nat.not_lt_zero x)) (fun x hx => absurd hx (Nat.not_lt_zero x)))
set_option maxHeartbeats 8000000 in
set_option maxRecDepth 100000 in
theorem lc_fault {p : Program} {l : Launch} {e : Env} {s : State} {m : MethodId} {below : List Frame} {meth : Method} {c : Code} {z : Nat} {D : va_G} {Q : State → Prop} {cI cZ cP cR : ClassId} {b n0 : Nat} {xs : Nat → Int32} (C : gC p s m #[.ref b] c RL cL_law 4 wsL_law z D cI cZ cP cR) (hX : va_X b n0 xs s s.heap) (hb0 : b < s.heap.size) (hz : z = s.heap.size) (hn0 : n0 ≤ 2048) {i kq : Nat} {F : Nat → va_E} (hi : i + 4 ≤ n0) (hkq : 4 * kq ≤ i) (hI : LI z cI cZ cP cR kq F) (K : ∀ (kq2 : Nat) (F2 : Nat → va_E), kq2 ≤ kq + 1 → LI z cI cZ cP cR kq2 F2 → gX p l e room_1 s m #[.ref b] below meth c 4 z D Q (132 + 14 * kq2) F2 (132 + 14 * kq2) (3833 + 90 * kq2) [(3, .int (nI i)), (2, .ref (z + 123)), (1, .ref (z + 0)), (0, .ref b)] 669 []) : gX p l e room_1 s m #[.ref b] below meth c 4 z D Q (132 + 14 * kq) F (132 + 14 * kq) (3833 + 90 * kq) [(3, .int (nI i)), (2, .ref (z + 123)), (1, .ref (z + 0)), (0, .ref b)] 584 [] := by
  obtain ⟨n, kk, cw, c0, wi, rl, sp, pd, bs, od, pi, T, hn, hb, hd, sl, sd, len, pa, f0, spt, wrg, rd, a, ps, slr, sv, sda, wy, pa2, nu, cd, hR, hC, hM, hA, hpi, hrk, hps, hds, hsl, hcd, hcd2⟩ := hI
  obtain ⟨-, -, -, -, -, -, -, hnn, hkk, hcw, hcnt, hc0, hsp, hrl, hwi, hod⟩ := id hA
  obtain ⟨hf0, hn6, -⟩ := id hps
  have hlen : len ≤ 80 := hC.2.2.2.2.2.2.2.1
  have h2n := two_lt hnn
  have hkq2 : kq ≤ 512 := by omega
  have hmR := mR.mk hA hpi hrk
  refine x_aload_n C (pc := 584) 2 dL_law_584 rfl ?_
  refine x_cViE C (pc := 585) (st := []) (c_X6_fault l D z cI cZ cP cR (132 + 14 * kq) F n kk cw c0 wi rl sp pd bs od pi T hn hb hd sl sd len pa cd hR hnn hkk hcw hc0 hcnt hsp hpi hC hcd) (cwV 0 C.2.2.2.2.1 gL_law_X6_fault rfl rfl rfl hd_X6_fault ⟨Nat.le_of_ble_eq_true rfl, Nat.le_of_ble_eq_true rfl⟩) (by omega) hC.1.1 rfl rfl rfl (Nat.le_of_ble_eq_true rfl) dL_law_585 ⟨rm_c (by show 132 + 14 * kq + 0 ≤ 10000; omega), rm_s (by show 3833 + 90 * kq + 0 ≤ 100000; omega)⟩ (fun F_585 h_585 => ?_)
  obtain ⟨hR2, hC2, fr2⟩ := h_585
  have hM2 := hM.same (F2 := F_585) (fun q h1 h2 => fr2 q (by omega))
  refine x_aload_n C (pc := 588) 1 dL_law_588 rfl ?_
  refine x_cViE C (pc := 589) (st := [.int (opI (fltG cd len len 0 rs0))]) (c_X7_fault l D z cI cZ cP cR (132 + 14 * kq) F_585 123 len (nI f0) (nI hn) spt wrg rd cd a ps slr sv sda wy pa2 nu hM2 (by omega) hcd2 hlen) (cwV 0 C.2.2.2.2.1 gL_law_X7_fault rfl rfl rfl hd_X7_fault ⟨Nat.le_of_ble_eq_true rfl, Nat.le_of_ble_eq_true rfl⟩) (by omega) hM2.ob rfl rfl rfl (Nat.le_of_ble_eq_true rfl) dL_law_589 ⟨rm_c (by show 132 + 14 * kq + 0 ≤ 10000; omega), rm_s (by show 3833 + 90 * kq + 0 ≤ 100000; omega)⟩ (fun F_589 h_589 => ?_)
  obtain ⟨T3, eT3, hM3, hT31, hT32, fr3⟩ := h_589
  have hR3 := hR2.same (F2 := F_589) (fun q h1 h2 => fr3 q (by omega))
  have hC3 := isCl_same (F2 := F_589) hC2 (fun q hq => fr3 q (by omega))
  refine x_icmp_eq C (pc := 592) (tgt := 669) dL_law_592 (by decide) (fun c_592 => ?_) (fun c_592 => absurd c_592 (not_not_intro (flt_eq nu)))
  exact K kq F_589 (Nat.le_succ _) (LI.mk hR3 hC3 hM3 hA hpi hrk hps hds hsl hcd hcd2)
set_option maxHeartbeats 8000000 in
set_option maxRecDepth 100000 in
theorem lc_make {p : Program} {l : Launch} {e : Env} {s : State} {m : MethodId} {below : List Frame} {meth : Method} {c : Code} {z : Nat} {D : va_G} {Q : State → Prop} {cI cZ cP cR : ClassId} {b n0 : Nat} {xs : Nat → Int32} (C : gC p s m #[.ref b] c RL cL_law 4 wsL_law z D cI cZ cP cR) (hX : va_X b n0 xs s s.heap) (hb0 : b < s.heap.size) (hz : z = s.heap.size) (hn0 : n0 ≤ 2048) {i kq : Nat} {F : Nat → va_E} (hi : i + 4 ≤ n0) (hkq : 4 * kq ≤ i) (hI : LI z cI cZ cP cR kq F) (K : ∀ (kq2 : Nat) (F2 : Nat → va_E), kq2 ≤ kq + 1 → LI z cI cZ cP cR kq2 F2 → gX p l e room_1 s m #[.ref b] below meth c 4 z D Q (132 + 14 * kq2) F2 (132 + 14 * kq2) (3833 + 90 * kq2) [(3, .int (nI i)), (2, .ref (z + 123)), (1, .ref (z + 0)), (0, .ref b)] 669 []) : gX p l e room_1 s m #[.ref b] below meth c 4 z D Q (132 + 14 * kq) F (132 + 14 * kq) (3833 + 90 * kq) [(3, .int (nI i)), (2, .ref (z + 123)), (1, .ref (z + 0)), (0, .ref b)] 597 [] := by
  obtain ⟨n, kk, cw, c0, wi, rl, sp, pd, bs, od, pi, T, hn, hb, hd, sl, sd, len, pa, f0, spt, wrg, rd, a, ps, slr, sv, sda, wy, pa2, nu, cd, hR, hC, hM, hA, hpi, hrk, hps, hds, hsl, hcd, hcd2⟩ := hI
  obtain ⟨-, -, -, -, -, -, -, hnn, hkk, hcw, hcnt, hc0, hsp, hrl, hwi, hod⟩ := id hA
  obtain ⟨hf0, hn6, -⟩ := id hps
  have hlen : len ≤ 80 := hC.2.2.2.2.2.2.2.1
  have h2n := two_lt hnn
  have hkq2 : kq ≤ 512 := by omega
  have hmR := mR.mk hA hpi hrk
  have hte := text_eq (cd := cd) (len := len) (kk := kk) (cw := cw) nu
  by_cases hw : (FTG cd len nu).1.2.1 = true
  · refine x_aload_n C (pc := 597) 2 dL_law_597 rfl ?_
    refine x_cViE C (pc := 598) (st := []) (c_X6_make_e l D z cI cZ cP cR (132 + 14 * kq) F n kk cw c0 wi rl sp pd bs od pi T hn hb hd sl sd len pa cd hR hnn hkk hcw hc0 hcnt hsp hpi hC hcd (by rw [hte.1 hw]; simp)) (cwV 0 C.2.2.2.2.1 gL_law_X6_make rfl rfl rfl hd_X6_make ⟨Nat.le_of_ble_eq_true rfl, Nat.le_of_ble_eq_true rfl⟩) (by omega) hC.1.1 rfl rfl rfl (Nat.le_of_ble_eq_true rfl) dL_law_598 ⟨rm_c (by show 132 + 14 * kq + 0 ≤ 10000; omega), rm_s (by show 3833 + 90 * kq + 0 ≤ 100000; omega)⟩ (fun F_598 h_598 => ?_)
    obtain ⟨hR2, hC2, fr2⟩ := h_598
    have hM2 := hM.same (F2 := F_598) (fun q h1 h2 => fr2 q (by omega))
    refine x_aload_n C (pc := 601) 1 dL_law_601 rfl ?_
    refine x_cViE C (pc := 602) (st := [.int (-3)]) (c_X7_make_e l D z cI cZ cP cR (132 + 14 * kq) F_598 123 f0 hn len spt wrg rd cd a ps slr sv sda wy pa2 nu n kk cw c0 wi rl sp pd od hM2 (by omega) hf0 hn6 hA hcd2 hlen hw) (cwV 0 C.2.2.2.2.1 gL_law_X7_make rfl rfl rfl hd_X7_make ⟨Nat.le_of_ble_eq_true rfl, Nat.le_of_ble_eq_true rfl⟩) (by omega) hM2.ob rfl rfl rfl (Nat.le_of_ble_eq_true rfl) dL_law_602 ⟨rm_c (by show 132 + 14 * kq + 0 ≤ 10000; omega), rm_s (by show 3833 + 90 * kq + 0 ≤ 100000; omega)⟩ (fun F_602 h_602 => ?_)
    obtain ⟨s3, w3, r3, nu3, hM3, fr3⟩ := h_602
    have hR3 := hR2.same (F2 := F_602) (fun q h1 h2 => fr3 q (by omega))
    have hC3 := isCl_same (F2 := F_602) hC2 (fun q hq => fr3 q (by omega))
    refine x_icmp_eq C (pc := 605) (tgt := 669) dL_law_605 (by decide) (fun c_605 => ?_) (fun c_605 => absurd c_605 (not_not_intro rfl))
    exact K kq F_602 (Nat.le_succ _) (LI.mk hR3 hC3 hM3 hA hpi hrk hps hds hsl hcd hcd2)
  · have hw' : (FTG cd len nu).1.2.1 = false := by simpa using hw
    have hmm := (hte.2 hw').2 (n, pd)
    refine x_aload_n C (pc := 597) 2 dL_law_597 rfl ?_
    refine x_cViE C (pc := 598) (st := []) (c_X6_make_s l D z cI cZ cP cR (132 + 14 * kq) F n kk cw c0 wi rl sp pd bs od pi T hn hb hd sl sd len pa cd hR hnn hkk hcw hc0 hcnt hsp hpi hC hcd (hte.2 hw').1 hwi ⟨pi, hpi, hrk⟩) (cwV 0 C.2.2.2.2.1 gL_law_X6_make rfl rfl rfl hd_X6_make ⟨Nat.le_of_ble_eq_true rfl, Nat.le_of_ble_eq_true rfl⟩) (by omega) hC.1.1 rfl rfl rfl (Nat.le_of_ble_eq_true rfl) dL_law_598 ⟨rm_c (by show 132 + 14 * kq + 0 ≤ 10000; omega), rm_s (by show 3833 + 90 * kq + 0 ≤ 100000; omega)⟩ (fun F_598 h_598 => ?_)
    obtain ⟨hb2, b2, w2, hR2, hw2, ⟨pi2, hpi2, hrk2⟩, hC2, fr2⟩ := h_598
    have hM2 := hM.same (F2 := F_598) (fun q h1 h2 => fr2 q (by omega))
    refine x_aload_n C (pc := 601) 1 dL_law_601 rfl ?_
    refine x_cViE C (pc := 602) (st := [.int (nI (mkC cd len kk cw (len + 1) 0 rs0 0 (n, pd)).1)]) (c_X7_make_s l D z cI cZ cP cR (132 + 14 * kq) F_598 123 f0 hn len spt wrg rd cd a ps slr sv sda wy pa2 nu n kk cw c0 wi rl sp pd od hM2 (by omega) hf0 hn6 hA hcd2 hlen hw') (cwV 0 C.2.2.2.2.1 gL_law_X7_make rfl rfl rfl hd_X7_make ⟨Nat.le_of_ble_eq_true rfl, Nat.le_of_ble_eq_true rfl⟩) (by omega) hM2.ob rfl rfl rfl (Nat.le_of_ble_eq_true rfl) dL_law_602 ⟨rm_c (by show 132 + 14 * kq + 0 ≤ 10000; omega), rm_s (by show 3833 + 90 * kq + 0 ≤ 100000; omega)⟩ (fun F_602 h_602 => ?_)
    obtain ⟨s3, w3, r3, nu3, a3, hM3, hA3, fr3⟩ := h_602
    have hR3 := hR2.same (F2 := F_602) (fun q h1 h2 => fr3 q (by omega))
    have hC3 := isCl_same (F2 := F_602) hC2 (fun q hq => fr3 q (by omega))
    refine x_icmp_eq C (pc := 605) (tgt := 669) dL_law_605 (by decide) (fun c_605 => ?_) (fun c_605 => absurd c_605 (not_not_intro (by rw [hmm])))
    exact K kq F_602 (Nat.le_succ _) (by subst hw2; have h1 := hR3; have h2 := hpi2; have h3 := hrk2; rw [hmm] at h1 h2 h3; have hM3k := hM3; rw [kpM_eq] at hM3k; exact (LI.mk (cd := cd) (len := 0) h1 hC3 hM3k hA3 h2 h3 (by have h9 := ps_keep hps hmR; rw [kpM_eq] at h9; exact h9) (hds_keep hds hsp) hsl (fun x hx => absurd hx (Nat.not_lt_zero x)) (fun x hx => absurd hx (Nat.not_lt_zero x))))
set_option maxHeartbeats 8000000 in
set_option maxRecDepth 100000 in
theorem lc_undo {p : Program} {l : Launch} {e : Env} {s : State} {m : MethodId} {below : List Frame} {meth : Method} {c : Code} {z : Nat} {D : va_G} {Q : State → Prop} {cI cZ cP cR : ClassId} {b n0 : Nat} {xs : Nat → Int32} (C : gC p s m #[.ref b] c RL cL_law 4 wsL_law z D cI cZ cP cR) (hX : va_X b n0 xs s s.heap) (hb0 : b < s.heap.size) (hz : z = s.heap.size) (hn0 : n0 ≤ 2048) {i kq : Nat} {F : Nat → va_E} (hi : i + 4 ≤ n0) (hkq : 4 * kq ≤ i) (hI : LI z cI cZ cP cR kq F) (K : ∀ (kq2 : Nat) (F2 : Nat → va_E), kq2 ≤ kq + 1 → LI z cI cZ cP cR kq2 F2 → gX p l e room_1 s m #[.ref b] below meth c 4 z D Q (132 + 14 * kq2) F2 (132 + 14 * kq2) (3833 + 90 * kq2) [(3, .int (nI i)), (2, .ref (z + 123)), (1, .ref (z + 0)), (0, .ref b)] 669 []) : gX p l e room_1 s m #[.ref b] below meth c 4 z D Q (132 + 14 * kq) F (132 + 14 * kq) (3833 + 90 * kq) [(3, .int (nI i)), (2, .ref (z + 123)), (1, .ref (z + 0)), (0, .ref b)] 610 [] := by
  obtain ⟨n, kk, cw, c0, wi, rl, sp, pd, bs, od, pi, T, hn, hb, hd, sl, sd, len, pa, f0, spt, wrg, rd, a, ps, slr, sv, sda, wy, pa2, nu, cd, hR, hC, hM, hA, hpi, hrk, hps, hds, hsl, hcd, hcd2⟩ := hI
  obtain ⟨-, -, -, -, -, -, -, hnn, hkk, hcw, hcnt, hc0, hsp, hrl, hwi, hod⟩ := id hA
  obtain ⟨hf0, hn6, -⟩ := id hps
  have hlen : len ≤ 80 := hC.2.2.2.2.2.2.2.1
  have h2n := two_lt hnn
  have hkq2 : kq ≤ 512 := by omega
  have hmR := mR.mk hA hpi hrk
  by_cases h0 : hn = 0
  · refine x_aload_n C (pc := 610) 2 dL_law_610 rfl ?_
    refine x_cViR C (pc := 611) (st := []) (c_X6_undo_e l D z cI cZ cP cR (132 + 14 * kq) F n kk cw c0 wi rl sp pd bs od pi T hn hb hd sl sd len pa  hR hnn hkk hcw hc0 hcnt hsp hpi hC h0) (cwV 0 C.2.2.2.2.1 gL_law_X6_undo rfl rfl rfl hd_X6_undo ⟨Nat.le_of_ble_eq_true rfl, Nat.le_of_ble_eq_true rfl⟩) (by omega) hC.1.1 rfl rfl rfl (Nat.le_of_ble_eq_true rfl) dL_law_611 ⟨rm_c (by show 132 + 14 * kq + 0 ≤ 10000; omega), rm_s (by show 3833 + 90 * kq + 0 ≤ 100000; omega)⟩ ?_
    refine x_aload_n C (pc := 614) 1 dL_law_614 rfl ?_
    refine x_cViR C (pc := 615) (st := [.int (-5)]) (c_X7_undo_e l D z cI cZ cP cR (132 + 14 * kq) F 123 f0 hn (nI len) spt wrg rd a ps slr sv sda wy pa2 nu  hM (by omega) hf0 hn6 h0) (cwV 0 C.2.2.2.2.1 gL_law_X7_undo rfl rfl rfl hd_X7_undo ⟨Nat.le_of_ble_eq_true rfl, Nat.le_of_ble_eq_true rfl⟩) (by omega) hM.ob rfl rfl rfl (Nat.le_of_ble_eq_true rfl) dL_law_615 ⟨rm_c (by show 132 + 14 * kq + 0 ≤ 10000; omega), rm_s (by show 3833 + 90 * kq + 0 ≤ 100000; omega)⟩ ?_
    refine x_icmp_eq C (pc := 618) (tgt := 669) dL_law_618 (by decide) (fun c_618 => ?_) (fun c_618 => absurd c_618 (not_not_intro rfl))
    exact K kq F (Nat.le_succ _) (LI.mk hR hC hM hA hpi hrk hps hds hsl hcd hcd2)
  · refine x_aload_n C (pc := 610) 2 dL_law_610 rfl ?_
    refine x_cViE C (pc := 611) (st := []) (c_X6_undo_s l D z cI cZ cP cR (132 + 14 * kq) F n kk cw c0 wi rl sp pd bs od pi T hn hb hd sl sd len pa  hR hnn hkk hcw hc0 hcnt hsp hpi hC (by omega) hds) (cwV 0 C.2.2.2.2.1 gL_law_X6_undo rfl rfl rfl hd_X6_undo ⟨Nat.le_of_ble_eq_true rfl, Nat.le_of_ble_eq_true rfl⟩) (by omega) hC.1.1 rfl rfl rfl (Nat.le_of_ble_eq_true rfl) dL_law_611 ⟨rm_c (by show 132 + 14 * kq + 0 ≤ 10000; omega), rm_s (by show 3833 + 90 * kq + 0 ≤ 100000; omega)⟩ (fun F_611 h_611 => ?_)
    obtain ⟨hR2, hC2, fr2⟩ := h_611
    have hM2 := hM.same (F2 := F_611) (fun q h1 h2 => fr2 q (by omega))
    refine x_aload_n C (pc := 614) 1 dL_law_614 rfl ?_
    refine x_cViE C (pc := 615) (st := [.int (nI (hn - 1))]) (c_X7_undo_s l D z cI cZ cP cR (132 + 14 * kq) F_611 123 f0 hn (nI len) spt wrg rd a ps slr sv sda wy pa2 nu  hM2 (by omega) hf0 hn6 (by omega)) (cwV 0 C.2.2.2.2.1 gL_law_X7_undo rfl rfl rfl hd_X7_undo ⟨Nat.le_of_ble_eq_true rfl, Nat.le_of_ble_eq_true rfl⟩) (by omega) hM2.ob rfl rfl rfl (Nat.le_of_ble_eq_true rfl) dL_law_615 ⟨rm_c (by show 132 + 14 * kq + 0 ≤ 10000; omega), rm_s (by show 3833 + 90 * kq + 0 ≤ 100000; omega)⟩ (fun F_615 h_615 => ?_)
    obtain ⟨hM3, fr3⟩ := h_615
    have hR3 := hR2.same (F2 := F_615) (fun q h1 h2 => fr3 q (by omega))
    have hC3 := isCl_same (F2 := F_615) hC2 (fun q hq => fr3 q (by omega))
    refine x_icmp_eq C (pc := 618) (tgt := 669) dL_law_618 (by decide) (fun c_618 => ?_) (fun c_618 => absurd c_618 (not_not_intro rfl))
    exact K kq F_615 (Nat.le_succ _) (LI.mkD hR3 hC3 hM3 ((ps_undo hps (by omega)).2.ext (fun x hx => cpA_lt hx)) (ps_undo hps (by omega)).1 hds hsl hcd hcd2)
set_option maxHeartbeats 8000000 in
set_option maxRecDepth 100000 in
theorem lc_save {p : Program} {l : Launch} {e : Env} {s : State} {m : MethodId} {below : List Frame} {meth : Method} {c : Code} {z : Nat} {D : va_G} {Q : State → Prop} {cI cZ cP cR : ClassId} {b n0 : Nat} {xs : Nat → Int32} (C : gC p s m #[.ref b] c RL cL_law 4 wsL_law z D cI cZ cP cR) (hX : va_X b n0 xs s s.heap) (hb0 : b < s.heap.size) (hz : z = s.heap.size) (hn0 : n0 ≤ 2048) {i kq : Nat} {F : Nat → va_E} (hi : i + 4 ≤ n0) (hkq : 4 * kq ≤ i) (hI : LI z cI cZ cP cR kq F) (K : ∀ (kq2 : Nat) (F2 : Nat → va_E), kq2 ≤ kq + 1 → LI z cI cZ cP cR kq2 F2 → gX p l e room_1 s m #[.ref b] below meth c 4 z D Q (132 + 14 * kq2) F2 (132 + 14 * kq2) (3833 + 90 * kq2) [(3, .int (nI i)), (2, .ref (z + 123)), (1, .ref (z + 0)), (0, .ref b)] 669 []) : gX p l e room_1 s m #[.ref b] below meth c 4 z D Q (132 + 14 * kq) F (132 + 14 * kq) (3833 + 90 * kq) [(3, .int (nI i)), (2, .ref (z + 123)), (1, .ref (z + 0)), (0, .ref b)] 623 [] := by
  obtain ⟨n, kk, cw, c0, wi, rl, sp, pd, bs, od, pi, T, hn, hb, hd, sl, sd, len, pa, f0, spt, wrg, rd, a, ps, slr, sv, sda, wy, pa2, nu, cd, hR, hC, hM, hA, hpi, hrk, hps, hds, hsl, hcd, hcd2⟩ := hI
  obtain ⟨-, -, -, -, -, -, -, hnn, hkk, hcw, hcnt, hc0, hsp, hrl, hwi, hod⟩ := id hA
  obtain ⟨hf0, hn6, -⟩ := id hps
  have hlen : len ≤ 80 := hC.2.2.2.2.2.2.2.1
  have h2n := two_lt hnn
  have hkq2 : kq ≤ 512 := by omega
  have hmR := mR.mk hA hpi hrk
  by_cases hv : inB (xs (i + 1)) 0 1 = true
  · obtain ⟨v, hv1, hve⟩ := inB_of (m := 1) (by decide) hv
    have hv2 : v < 2 := by omega
    cases hq : sl v with
    | none =>
      refine x_aload_n C (pc := 623) 2 dL_law_623 rfl ?_
      refine x_aload_n C (pc := 624) 3 dL_law_624 rfl ?_
      refine x_iload_n C (pc := 625) 0 dL_law_625 rfl ?_
      refine x_iconst C (pc := 626) (v := 1) dL_law_626 (by decide) ?_
      refine x_iadd C (pc := 627) (v := nI (i + 1)) dL_law_627 (nI_add i 1) ?_
      refine x_sld C hX hb0 hz (pc := 628) (j := i + 1) (by omega) hn0 dL_law_628 ?_
      refine x_eqi hve ?_
      refine x_cViE C (pc := 629) (st := []) (c_X6_save_n l D z cI cZ cP cR (132 + 14 * kq) F n kk cw c0 wi rl sp pd bs od pi T hn hb hd sl sd len pa v hR hnn hkk hcw hc0 hcnt hsp hpi hC hv2 hq) (cwV 1 C.2.2.2.2.1 gL_law_X6_save rfl rfl rfl hd_X6_save ⟨Nat.le_of_ble_eq_true rfl, Nat.le_of_ble_eq_true rfl⟩) (by omega) hC.1.1 rfl rfl rfl (Nat.le_of_ble_eq_true rfl) dL_law_629 ⟨rm_c (by show 132 + 14 * kq + 14 ≤ 10000; omega), rm_s (by show 3833 + 90 * kq + 90 ≤ 100000; omega)⟩ (fun F_629 h_629 => ?_)
      obtain ⟨hR2, hC2, frs⟩ := h_629
      have hM2 := hM.same (F2 := F_629) (fun q h1 h2 => frs q (by omega) (by omega))
      refine x_aload_n C (pc := 632) 1 dL_law_632 rfl ?_
      refine x_aload_n C (pc := 633) 3 dL_law_633 rfl ?_
      refine x_iload_n C (pc := 634) 0 dL_law_634 rfl ?_
      refine x_iconst C (pc := 635) (v := 1) dL_law_635 (by decide) ?_
      refine x_iadd C (pc := 636) (v := nI (i + 1)) dL_law_636 (nI_add i 1) ?_
      refine x_sld C hX hb0 hz (pc := 637) (j := i + 1) (by omega) hn0 dL_law_637 ?_
      refine x_eqi hve ?_
      refine x_cViE C (pc := 638) (st := [.int (nI kk)]) (c_X7_save_s l D z cI cZ cP cR (132 + 14 * kq + 14) F_629 123 (nI f0) (nI hn) (nI len) spt wrg rd a ps slr sv sda wy pa2 nu n kk cw c0 wi rl sp pd od v hM2 (by omega) hA hv2) (cwV 1 C.2.2.2.2.1 gL_law_X7_save rfl rfl rfl hd_X7_save ⟨Nat.le_of_ble_eq_true rfl, Nat.le_of_ble_eq_true rfl⟩) (by omega) hM2.ob rfl rfl rfl (Nat.le_of_ble_eq_true rfl) dL_law_638 ⟨rm_c (by show 132 + 14 * kq + 14 + 0 ≤ 10000; omega), rm_s (by show 3833 + 90 * kq + 90 + 0 ≤ 100000; omega)⟩ (fun F_638 h_638 => ?_)
      obtain ⟨hM3, fr3⟩ := h_638
      have hR3 := hR2.same (F2 := F_638) (fun q h1 h2 => fr3 q (by omega))
      have hC3 := isCl_same (F2 := F_638) hC2 (fun q hq => fr3 q (by omega))
      refine x_icmp_eq C (pc := 641) (tgt := 669) dL_law_641 (by decide) (fun c_641 => ?_) (fun c_641 => absurd c_641 (not_not_intro rfl))
      exact x_cs (N2 := 132 + 14 * (kq + 1)) (c2 := 132 + 14 * (kq + 1)) (s2 := 3833 + 90 * (kq + 1)) (by omega) (by omega) (by omega) (K (kq + 1) F_638 (Nat.le_refl _) (by have h9 := hC3; rw [show 132 + 14 * kq + 14 = 132 + 14 * (kq + 1) by omega] at h9; exact (LI.mk hR3 h9 hM3 hA hpi hrk hps hds (sl_save hsl hv2 (by rw [slU, va_up_self]) (fun i hi => by rw [slU, va_up_ne _ _ hi]) hmR) hcd hcd2)))
    | some q =>
      refine x_aload_n C (pc := 623) 2 dL_law_623 rfl ?_
      refine x_aload_n C (pc := 624) 3 dL_law_624 rfl ?_
      refine x_iload_n C (pc := 625) 0 dL_law_625 rfl ?_
      refine x_iconst C (pc := 626) (v := 1) dL_law_626 (by decide) ?_
      refine x_iadd C (pc := 627) (v := nI (i + 1)) dL_law_627 (nI_add i 1) ?_
      refine x_sld C hX hb0 hz (pc := 628) (j := i + 1) (by omega) hn0 dL_law_628 ?_
      refine x_eqi hve ?_
      refine x_cViE C (pc := 629) (st := []) (c_X6_save_q l D z cI cZ cP cR (132 + 14 * kq) F n kk cw c0 wi rl sp pd bs od pi T hn hb hd sl sd len pa v q hR hnn hkk hcw hc0 hcnt hsp hpi hC hv2 hq) (cwV 1 C.2.2.2.2.1 gL_law_X6_save rfl rfl rfl hd_X6_save ⟨Nat.le_of_ble_eq_true rfl, Nat.le_of_ble_eq_true rfl⟩) (by omega) hC.1.1 rfl rfl rfl (Nat.le_of_ble_eq_true rfl) dL_law_629 ⟨rm_c (by show 132 + 14 * kq + 0 ≤ 10000; omega), rm_s (by show 3833 + 90 * kq + 0 ≤ 100000; omega)⟩ (fun F_629 h_629 => ?_)
      obtain ⟨hR2, hC2, frs⟩ := h_629
      have hM2 := hM.same (F2 := F_629) (fun q h1 h2 => frs q (by omega))
      refine x_aload_n C (pc := 632) 1 dL_law_632 rfl ?_
      refine x_aload_n C (pc := 633) 3 dL_law_633 rfl ?_
      refine x_iload_n C (pc := 634) 0 dL_law_634 rfl ?_
      refine x_iconst C (pc := 635) (v := 1) dL_law_635 (by decide) ?_
      refine x_iadd C (pc := 636) (v := nI (i + 1)) dL_law_636 (nI_add i 1) ?_
      refine x_sld C hX hb0 hz (pc := 637) (j := i + 1) (by omega) hn0 dL_law_637 ?_
      refine x_eqi hve ?_
      refine x_cViE C (pc := 638) (st := [.int (nI kk)]) (c_X7_save_s l D z cI cZ cP cR (132 + 14 * kq) F_629 123 (nI f0) (nI hn) (nI len) spt wrg rd a ps slr sv sda wy pa2 nu n kk cw c0 wi rl sp pd od v hM2 (by omega) hA hv2) (cwV 1 C.2.2.2.2.1 gL_law_X7_save rfl rfl rfl hd_X7_save ⟨Nat.le_of_ble_eq_true rfl, Nat.le_of_ble_eq_true rfl⟩) (by omega) hM2.ob rfl rfl rfl (Nat.le_of_ble_eq_true rfl) dL_law_638 ⟨rm_c (by show 132 + 14 * kq + 0 ≤ 10000; omega), rm_s (by show 3833 + 90 * kq + 0 ≤ 100000; omega)⟩ (fun F_638 h_638 => ?_)
      obtain ⟨hM3, fr3⟩ := h_638
      have hR3 := hR2.same (F2 := F_638) (fun q h1 h2 => fr3 q (by omega))
      have hC3 := isCl_same (F2 := F_638) hC2 (fun q hq => fr3 q (by omega))
      refine x_icmp_eq C (pc := 641) (tgt := 669) dL_law_641 (by decide) (fun c_641 => ?_) (fun c_641 => absurd c_641 (not_not_intro rfl))
      exact K kq F_638 (Nat.le_succ _) (LI.mk hR3 hC3 hM3 hA hpi hrk hps hds (sl_save hsl hv2 hq (fun i _ => rfl) hmR) hcd hcd2)
  · have hv' : inB (xs (i + 1)) 0 1 = false := by simpa using hv
    refine x_aload_n C (pc := 623) 2 dL_law_623 rfl ?_
    refine x_aload_n C (pc := 624) 3 dL_law_624 rfl ?_
    refine x_iload_n C (pc := 625) 0 dL_law_625 rfl ?_
    refine x_iconst C (pc := 626) (v := 1) dL_law_626 (by decide) ?_
    refine x_iadd C (pc := 627) (v := nI (i + 1)) dL_law_627 (nI_add i 1) ?_
    refine x_sld C hX hb0 hz (pc := 628) (j := i + 1) (by omega) hn0 dL_law_628 ?_
    refine x_cViR C (pc := 629) (st := []) (c_X6_save_e l D z cI cZ cP cR (132 + 14 * kq) F n kk cw c0 wi rl sp pd bs od pi T hn hb hd sl sd len pa (xs (i + 1)) hR hnn hkk hcw hc0 hcnt hsp hpi hC hv') (cwV 1 C.2.2.2.2.1 gL_law_X6_save rfl rfl rfl hd_X6_save ⟨Nat.le_of_ble_eq_true rfl, Nat.le_of_ble_eq_true rfl⟩) (by omega) hC.1.1 rfl rfl rfl (Nat.le_of_ble_eq_true rfl) dL_law_629 ⟨rm_c (by show 132 + 14 * kq + 0 ≤ 10000; omega), rm_s (by show 3833 + 90 * kq + 0 ≤ 100000; omega)⟩ ?_
    refine x_aload_n C (pc := 632) 1 dL_law_632 rfl ?_
    refine x_aload_n C (pc := 633) 3 dL_law_633 rfl ?_
    refine x_iload_n C (pc := 634) 0 dL_law_634 rfl ?_
    refine x_iconst C (pc := 635) (v := 1) dL_law_635 (by decide) ?_
    refine x_iadd C (pc := 636) (v := nI (i + 1)) dL_law_636 (nI_add i 1) ?_
    refine x_sld C hX hb0 hz (pc := 637) (j := i + 1) (by omega) hn0 dL_law_637 ?_
    refine x_cViR C (pc := 638) (st := [.int (-2)]) (c_X7_save_e l D z cI cZ cP cR (132 + 14 * kq) F 123 (nI f0) (nI hn) (nI len) spt wrg rd a ps slr sv sda wy pa2 nu n kk cw c0 wi rl sp pd od (xs (i + 1)) hM (by omega) hA hv') (cwV 1 C.2.2.2.2.1 gL_law_X7_save rfl rfl rfl hd_X7_save ⟨Nat.le_of_ble_eq_true rfl, Nat.le_of_ble_eq_true rfl⟩) (by omega) hM.ob rfl rfl rfl (Nat.le_of_ble_eq_true rfl) dL_law_638 ⟨rm_c (by show 132 + 14 * kq + 0 ≤ 10000; omega), rm_s (by show 3833 + 90 * kq + 0 ≤ 100000; omega)⟩ ?_
    refine x_icmp_eq C (pc := 641) (tgt := 669) dL_law_641 (by decide) (fun c_641 => ?_) (fun c_641 => absurd c_641 (not_not_intro rfl))
    exact K kq F (Nat.le_succ _) (LI.mk hR hC hM hA hpi hrk hps hds hsl hcd hcd2)
set_option maxHeartbeats 8000000 in
set_option maxRecDepth 100000 in
theorem lc_restore {p : Program} {l : Launch} {e : Env} {s : State} {m : MethodId} {below : List Frame} {meth : Method} {c : Code} {z : Nat} {D : va_G} {Q : State → Prop} {cI cZ cP cR : ClassId} {b n0 : Nat} {xs : Nat → Int32} (C : gC p s m #[.ref b] c RL cL_law 4 wsL_law z D cI cZ cP cR) (hX : va_X b n0 xs s s.heap) (hb0 : b < s.heap.size) (hz : z = s.heap.size) (hn0 : n0 ≤ 2048) {i kq : Nat} {F : Nat → va_E} (hi : i + 4 ≤ n0) (hkq : 4 * kq ≤ i) (hI : LI z cI cZ cP cR kq F) (K : ∀ (kq2 : Nat) (F2 : Nat → va_E), kq2 ≤ kq + 1 → LI z cI cZ cP cR kq2 F2 → gX p l e room_1 s m #[.ref b] below meth c 4 z D Q (132 + 14 * kq2) F2 (132 + 14 * kq2) (3833 + 90 * kq2) [(3, .int (nI i)), (2, .ref (z + 123)), (1, .ref (z + 0)), (0, .ref b)] 669 []) : gX p l e room_1 s m #[.ref b] below meth c 4 z D Q (132 + 14 * kq) F (132 + 14 * kq) (3833 + 90 * kq) [(3, .int (nI i)), (2, .ref (z + 123)), (1, .ref (z + 0)), (0, .ref b)] 646 [] := by
  obtain ⟨n, kk, cw, c0, wi, rl, sp, pd, bs, od, pi, T, hn, hb, hd, sl, sd, len, pa, f0, spt, wrg, rd, a, ps, slr, sv, sda, wy, pa2, nu, cd, hR, hC, hM, hA, hpi, hrk, hps, hds, hsl, hcd, hcd2⟩ := hI
  obtain ⟨-, -, -, -, -, -, -, hnn, hkk, hcw, hcnt, hc0, hsp, hrl, hwi, hod⟩ := id hA
  obtain ⟨hf0, hn6, -⟩ := id hps
  have hlen : len ≤ 80 := hC.2.2.2.2.2.2.2.1
  have h2n := two_lt hnn
  have hkq2 : kq ≤ 512 := by omega
  have hmR := mR.mk hA hpi hrk
  by_cases hv : inB (xs (i + 1)) 0 1 = true
  · obtain ⟨v, hv1, hve⟩ := inB_of (m := 1) (by decide) hv
    have hv2 : v < 2 := by omega
    cases hq : sl v with
    | none =>
      have hsv0 : sv v = 0 := by
        rcases hsl v hv2 with ⟨-, h⟩ | ⟨q, h, -⟩
        · exact h
        · rw [hq] at h; cases h
      refine x_aload_n C (pc := 646) 2 dL_law_646 rfl ?_
      refine x_aload_n C (pc := 647) 3 dL_law_647 rfl ?_
      refine x_iload_n C (pc := 648) 0 dL_law_648 rfl ?_
      refine x_iconst C (pc := 649) (v := 1) dL_law_649 (by decide) ?_
      refine x_iadd C (pc := 650) (v := nI (i + 1)) dL_law_650 (nI_add i 1) ?_
      refine x_sld C hX hb0 hz (pc := 651) (j := i + 1) (by omega) hn0 dL_law_651 ?_
      refine x_eqi hve ?_
      refine x_cViR C (pc := 652) (st := []) (c_X6_restore_e2 l D z cI cZ cP cR (132 + 14 * kq) F n kk cw c0 wi rl sp pd bs od pi T hn hb hd sl sd len pa v hR hnn hkk hcw hc0 hcnt hsp hpi hC hv2 hq) (cwV 1 C.2.2.2.2.1 gL_law_X6_restore rfl rfl rfl hd_X6_restore ⟨Nat.le_of_ble_eq_true rfl, Nat.le_of_ble_eq_true rfl⟩) (by omega) hC.1.1 rfl rfl rfl (Nat.le_of_ble_eq_true rfl) dL_law_652 ⟨rm_c (by show 132 + 14 * kq + 0 ≤ 10000; omega), rm_s (by show 3833 + 90 * kq + 0 ≤ 100000; omega)⟩ ?_
      refine x_aload_n C (pc := 655) 1 dL_law_655 rfl ?_
      refine x_aload_n C (pc := 656) 3 dL_law_656 rfl ?_
      refine x_iload_n C (pc := 657) 0 dL_law_657 rfl ?_
      refine x_iconst C (pc := 658) (v := 1) dL_law_658 (by decide) ?_
      refine x_iadd C (pc := 659) (v := nI (i + 1)) dL_law_659 (nI_add i 1) ?_
      refine x_sld C hX hb0 hz (pc := 660) (j := i + 1) (by omega) hn0 dL_law_660 ?_
      refine x_eqi hve ?_
      refine x_cViR C (pc := 661) (st := [.int (-5)]) (c_X7_restore_e2 l D z cI cZ cP cR (132 + 14 * kq) F 123 f0 hn (nI len) spt wrg rd a ps slr sv sda wy pa2 nu v hM (by omega) hf0 hn6 hv2 hsv0) (cwV 1 C.2.2.2.2.1 gL_law_X7_restore rfl rfl rfl hd_X7_restore ⟨Nat.le_of_ble_eq_true rfl, Nat.le_of_ble_eq_true rfl⟩) (by omega) hM.ob rfl rfl rfl (Nat.le_of_ble_eq_true rfl) dL_law_661 ⟨rm_c (by show 132 + 14 * kq + 0 ≤ 10000; omega), rm_s (by show 3833 + 90 * kq + 0 ≤ 100000; omega)⟩ ?_
      refine x_icmp_eq C (pc := 664) (tgt := 669) dL_law_664 (by decide) (fun c_664 => ?_) (fun c_664 => absurd c_664 (not_not_intro rfl))
      exact K kq F (Nat.le_succ _) (LI.mk hR hC hM hA hpi hrk hps hds hsl hcd hcd2)
    | some q =>
      obtain ⟨hsv1, hms⟩ : ¬ sv v = 0 ∧ mR (fun x => slr (65 * v + x)) (sd v) := by
        rcases hsl v hv2 with ⟨h, -⟩ | ⟨q2, h, h2, h3⟩
        · rw [hq] at h; cases h
        · exact ⟨h2, h3⟩
      refine x_aload_n C (pc := 646) 2 dL_law_646 rfl ?_
      refine x_aload_n C (pc := 647) 3 dL_law_647 rfl ?_
      refine x_iload_n C (pc := 648) 0 dL_law_648 rfl ?_
      refine x_iconst C (pc := 649) (v := 1) dL_law_649 (by decide) ?_
      refine x_iadd C (pc := 650) (v := nI (i + 1)) dL_law_650 (nI_add i 1) ?_
      refine x_sld C hX hb0 hz (pc := 651) (j := i + 1) (by omega) hn0 dL_law_651 ?_
      refine x_eqi hve ?_
      refine x_cViE C (pc := 652) (st := []) (c_X6_restore_s l D z cI cZ cP cR (132 + 14 * kq) F n kk cw c0 wi rl sp pd bs od pi T hn hb hd sl sd len pa v q hR hnn hkk hcw hc0 hcnt hsp hpi hC hv2 hq (mR_sp hms)) (cwV 1 C.2.2.2.2.1 gL_law_X6_restore rfl rfl rfl hd_X6_restore ⟨Nat.le_of_ble_eq_true rfl, Nat.le_of_ble_eq_true rfl⟩) (by omega) hC.1.1 rfl rfl rfl (Nat.le_of_ble_eq_true rfl) dL_law_652 ⟨rm_c (by show 132 + 14 * kq + 0 ≤ 10000; omega), rm_s (by show 3833 + 90 * kq + 0 ≤ 100000; omega)⟩ (fun F_652 h_652 => ?_)
      obtain ⟨hb2, hR2, hC2, fr2⟩ := h_652
      have hM2 := hM.same (F2 := F_652) (fun q h1 h2 => fr2 q (by omega))
      refine x_aload_n C (pc := 655) 1 dL_law_655 rfl ?_
      refine x_aload_n C (pc := 656) 3 dL_law_656 rfl ?_
      refine x_iload_n C (pc := 657) 0 dL_law_657 rfl ?_
      refine x_iconst C (pc := 658) (v := 1) dL_law_658 (by decide) ?_
      refine x_iadd C (pc := 659) (v := nI (i + 1)) dL_law_659 (nI_add i 1) ?_
      refine x_sld C hX hb0 hz (pc := 660) (j := i + 1) (by omega) hn0 dL_law_660 ?_
      refine x_eqi hve ?_
      refine x_cViE C (pc := 661) (st := [.int ((sd v).1 2)]) (c_X7_restore_s l D z cI cZ cP cR (132 + 14 * kq) F_652 123 f0 hn (nI len) spt wrg rd a ps slr sv sda wy pa2 nu v hM2 (by omega) hf0 hn6 hv2 hsv1) (cwV 1 C.2.2.2.2.1 gL_law_X7_restore rfl rfl rfl hd_X7_restore ⟨Nat.le_of_ble_eq_true rfl, Nat.le_of_ble_eq_true rfl⟩) (by omega) hM2.ob rfl rfl rfl (Nat.le_of_ble_eq_true rfl) dL_law_661 ⟨rm_c (by show 132 + 14 * kq + 0 ≤ 10000; omega), rm_s (by show 3833 + 90 * kq + 0 ≤ 100000; omega)⟩ (fun F_661 h_661 => ?_)
      obtain ⟨hM3, fr3⟩ := h_661
      have hR3 := hR2.same (F2 := F_661) (fun q h1 h2 => fr3 q (by omega))
      have hC3 := isCl_same (F2 := F_661) hC2 (fun q hq => fr3 q (by omega))
      refine x_icmp_eq C (pc := 664) (tgt := 669) dL_law_664 (by decide) (fun c_664 => ?_) (fun c_664 => absurd c_664 (not_not_intro (mR_cp hms)))
      exact K kq F_661 (Nat.le_succ _) (by have hM3k := hM3; rw [kpM_eq] at hM3k; exact LI.mkD hR3 hC3 hM3k (hms.ext (fun x hx => cpA_lt hx)) (by have h9 := ps_keep hps hmR; rw [kpM_eq] at h9; exact h9) (hds_keep hds hsp) hsl hcd hcd2)
  · have hv' : inB (xs (i + 1)) 0 1 = false := by simpa using hv
    refine x_aload_n C (pc := 646) 2 dL_law_646 rfl ?_
    refine x_aload_n C (pc := 647) 3 dL_law_647 rfl ?_
    refine x_iload_n C (pc := 648) 0 dL_law_648 rfl ?_
    refine x_iconst C (pc := 649) (v := 1) dL_law_649 (by decide) ?_
    refine x_iadd C (pc := 650) (v := nI (i + 1)) dL_law_650 (nI_add i 1) ?_
    refine x_sld C hX hb0 hz (pc := 651) (j := i + 1) (by omega) hn0 dL_law_651 ?_
    refine x_cViR C (pc := 652) (st := []) (c_X6_restore_e1 l D z cI cZ cP cR (132 + 14 * kq) F n kk cw c0 wi rl sp pd bs od pi T hn hb hd sl sd len pa (xs (i + 1)) hR hnn hkk hcw hc0 hcnt hsp hpi hC hv') (cwV 1 C.2.2.2.2.1 gL_law_X6_restore rfl rfl rfl hd_X6_restore ⟨Nat.le_of_ble_eq_true rfl, Nat.le_of_ble_eq_true rfl⟩) (by omega) hC.1.1 rfl rfl rfl (Nat.le_of_ble_eq_true rfl) dL_law_652 ⟨rm_c (by show 132 + 14 * kq + 0 ≤ 10000; omega), rm_s (by show 3833 + 90 * kq + 0 ≤ 100000; omega)⟩ ?_
    refine x_aload_n C (pc := 655) 1 dL_law_655 rfl ?_
    refine x_aload_n C (pc := 656) 3 dL_law_656 rfl ?_
    refine x_iload_n C (pc := 657) 0 dL_law_657 rfl ?_
    refine x_iconst C (pc := 658) (v := 1) dL_law_658 (by decide) ?_
    refine x_iadd C (pc := 659) (v := nI (i + 1)) dL_law_659 (nI_add i 1) ?_
    refine x_sld C hX hb0 hz (pc := 660) (j := i + 1) (by omega) hn0 dL_law_660 ?_
    refine x_cViR C (pc := 661) (st := [.int (-2)]) (c_X7_restore_e1 l D z cI cZ cP cR (132 + 14 * kq) F 123 f0 hn (nI len) spt wrg rd a ps slr sv sda wy pa2 nu (xs (i + 1)) hM (by omega) hf0 hn6 hv') (cwV 1 C.2.2.2.2.1 gL_law_X7_restore rfl rfl rfl hd_X7_restore ⟨Nat.le_of_ble_eq_true rfl, Nat.le_of_ble_eq_true rfl⟩) (by omega) hM.ob rfl rfl rfl (Nat.le_of_ble_eq_true rfl) dL_law_661 ⟨rm_c (by show 132 + 14 * kq + 0 ≤ 10000; omega), rm_s (by show 3833 + 90 * kq + 0 ≤ 100000; omega)⟩ ?_
    refine x_icmp_eq C (pc := 664) (tgt := 669) dL_law_664 (by decide) (fun c_664 => ?_) (fun c_664 => absurd c_664 (not_not_intro rfl))
    exact K kq F (Nat.le_succ _) (LI.mk hR hC hM hA hpi hrk hps hds hsl hcd hcd2)
