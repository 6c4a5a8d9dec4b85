/-- the law's walk -/
def LZ (Z : Cx) (b L : Nat) (xs : Nat → Int32) : Prop := XC Z "NestedDeedsLaw" code ret ∧ (zR Z).frames = 2048 ∧ (zR Z).locals = 84000 ∧ zn Z = 4 ∧ va_X b L xs (zs Z) (zs Z).heap ∧ b < (zs Z).heap.size ∧ ¬ zA Z b ∧ zk Z ≤ (zR Z).cells ∧ zt Z ≤ (zR Z).slots ∧ L ≤ 3072
abbrev wl2 (G : Gx) (a a' : Nat → Nat) (σ τ : St) : va_W := cw G a σ ++ rw G a' τ
abbrev wl3 (G : Gx) (a a' : Nat → Nat) (σ τ : St) : va_W := rw G a' τ ++ cw G a σ
theorem law_1 (G : Gx) (a a' : Nat → Nat) (σ τ : St) : ([0, 1, 2, 3, 4, 5, 6, 7, 8, 9, 10, 11, 12, 13, 14, 15, 16, 17, 18, 19, 20, 21, 22, 23, 24, 25, 26, 27, 28, 29, 30, 31, 32] : List Nat).map (fun i => (wl2 G a a' σ τ)[i]?) = (cw G a σ).map some := rfl
theorem law_2 (G : Gx) (a a' : Nat → Nat) (σ τ : St) : ([33, 34, 35, 36, 37, 38, 39, 40, 41, 42, 43, 44, 45, 46, 47, 48, 49, 50, 51, 52, 53, 54, 55, 56, 57, 58] : List Nat).map (fun i => (wl2 G a a' σ τ)[i]?) = (rw G a' τ).map some := rfl
theorem law_3 (G : Gx) (a a' : Nat → Nat) (σ τ : St) : ([0, 1, 2, 3, 4, 5, 6, 7, 8, 9, 10, 11, 12, 13, 14, 15, 16, 17, 18, 19, 20, 21, 22, 23, 24, 25] : List Nat).map (fun i => (wl3 G a a' σ τ)[i]?) = (rw G a' τ).map some := rfl
theorem law_4 (G : Gx) (a a' : Nat → Nat) (σ τ : St) : ([26, 27, 28, 29, 30, 31, 32, 33, 34, 35, 36, 37, 38, 39, 40, 41, 42, 43, 44, 45, 46, 47, 48, 49, 50, 51, 52, 53, 54, 55, 56, 57, 58] : List Nat).map (fun i => (wl3 G a a' σ τ)[i]?) = (cw G a σ).map some := rfl
theorem cw_0 (G : Gx) (a : Nat → Nat) (σ : St) : ∃ fs, (cw G a σ)[0]? = some (a 0, .inr (11, fs)) := ⟨_, rfl⟩
theorem rw_0 (G : Gx) (a : Nat → Nat) (σ : St) : ∃ fs, (rw G a σ)[0]? = some (a 0, .inr (12, fs)) := ⟨_, rfl⟩
theorem law_x {Z : Cx} {own : String} {cc : ByteArray} {rt rt' : Option FieldType} {lv : List (Nat × Value)} {pc : Nat} {st rest : List Value} {y : MethodName} {bytes : ByteArray} {maxL fr lc index n : Nat} {As : List Value} {r : Value} {S S' : AS} {a a' : Nat → Nat} {σ τ : St} (X : XC Z own cc rt) (hM : MM (zl Z) (zG Z) y bytes maxL rt' fr lc (.ref (a 0) :: As) (cw (zG Z) a σ) (PC (zG Z) a S' r)) (cv : CV own index y bytes maxL rt' n) (hn : As.length = n) (hc : y.cls = "NestedDeeds") (hR1 : fr + 1 ≤ (zR Z).frames) (hR2 : 8 + (maxL + 11) + lc ≤ (zR Z).locals) (hk : zk Z ≤ (zR Z).cells) (ht : zt Z ≤ (zR Z).slots) (hst : st = As.reverse ++ .ref (a 0) :: rest) (hcat : (rest.map fun v => v.category).sum ≤ 8) (hd : decode cc pc = .ok (.invokevirtual index, 3))
    (kk : ∀ σ', RC S' σ' → V Z (wl3 (zG Z) a a' σ' τ) lv (pc + 3) (r :: rest)) : V Z (wl2 (zG Z) a a' σ τ) lv pc st := by
  obtain ⟨fs, h0⟩ := cw_0 (zG Z) a σ
  refine V.callF (ws := wl2 (zG Z) a a' σ τ) (wr := rw (zG Z) a' τ) (ci := 11) (T := TX11) (N := 13) X hM cv hn 0 h0 (by rw [hc]; rfl) [0, 1, 2, 3, 4, 5, 6, 7, 8, 9, 10, 11, 12, 13, 14, 15, 16, 17, 18, 19, 20, 21, 22, 23, 24, 25, 26, 27, 28, 29, 30, 31, 32] [33, 34, 35, 36, 37, 38, 39, 40, 41, 42, 43, 44, 45, 46, 47, 48, 49, 50, 51, 52, 53, 54, 55, 56, 57, 58] (law_1 _ _ _ _ _) (law_2 _ _ _ _ _) (by decide) (by decide) (by decide) hR1 hR2 hk ht hst hcat hd ?_
  rintro _ _ ⟨rfl, σ', rfl, h⟩
  exact kk σ' h
theorem law_m {Z : Cx} {own : String} {cc : ByteArray} {rt rt' : Option FieldType} {lv : List (Nat × Value)} {pc : Nat} {st rest : List Value} {y : MethodName} {bytes : ByteArray} {maxL fr lc index n : Nat} {As : List Value} {r : Value} {S S' : AS} {a a' : Nat → Nat} {σ τ : St} (X : XC Z own cc rt) (hM : MM (zl Z) (zG Z) y bytes maxL rt' fr lc (.ref (a' 0) :: As) (rw (zG Z) a' τ) (PR (zG Z) a' S' r)) (cv : CV own index y bytes maxL rt' n) (hn : As.length = n) (hc : y.cls = "NestedDeedsModel") (hR1 : fr + 1 ≤ (zR Z).frames) (hR2 : 8 + (maxL + 11) + lc ≤ (zR Z).locals) (hk : zk Z ≤ (zR Z).cells) (ht : zt Z ≤ (zR Z).slots) (hst : st = As.reverse ++ .ref (a' 0) :: rest) (hcat : (rest.map fun v => v.category).sum ≤ 8) (hd : decode cc pc = .ok (.invokevirtual index, 3))
    (kk : ∀ τ', RR S' τ' → V Z (wl2 (zG Z) a a' σ τ') lv (pc + 3) (r :: rest)) : V Z (wl3 (zG Z) a a' σ τ) lv pc st := by
  obtain ⟨fs, h0⟩ := rw_0 (zG Z) a' τ
  refine V.callF (ws := wl3 (zG Z) a a' σ τ) (wr := cw (zG Z) a σ) (ci := 12) (T := TX12) (N := 41) X hM cv hn 0 h0 (by rw [hc]; rfl) [0, 1, 2, 3, 4, 5, 6, 7, 8, 9, 10, 11, 12, 13, 14, 15, 16, 17, 18, 19, 20, 21, 22, 23, 24, 25] [26, 27, 28, 29, 30, 31, 32, 33, 34, 35, 36, 37, 38, 39, 40, 41, 42, 43, 44, 45, 46, 47, 48, 49, 50, 51, 52, 53, 54, 55, 56, 57, 58] (law_3 _ _ _ _ _) (law_4 _ _ _ _ _) (by decide) (by decide) (by decide) hR1 hR2 hk ht hst hcat hd ?_
  rintro _ _ ⟨rfl, τ', rfl, h⟩
  exact kk τ' h
theorem and31 (x : Int32) : ∃ t, t < 32 ∧ x &&& nI 31 = nI t := by
  refine ⟨(x &&& nI 31).toBitVec.toNat, ?_, ?_⟩
  · have h : (x &&& nI 31).toBitVec = x.toBitVec &&& 31#32 := rfl
    rw [h, BitVec.toNat_and]
    have := Nat.and_le_right (n := x.toBitVec.toNat) (m := (31#32).toNat)
    have h2 : (31#32).toNat = 31 := rfl
    omega
  · apply Int32.toBitVec_inj.mp
    show (x &&& nI 31).toBitVec = BitVec.ofNat 32 (x &&& nI 31).toBitVec.toNat
    rw [BitVec.ofNat_toNat]; simp
theorem inc_6 (x : Nat) : nI x + Int32.ofInt 6 = nI (x + 6) := by
  have h : Int32.ofInt 6 = nI 6 := by decide
  rw [h]; exact (Int32.ofNat_add x 6).symm

set_option maxHeartbeats 4000000 in
set_option maxRecDepth 100000 in
theorem law_deed {Z : Cx} {b L i : Nat} {xs : Nat → Int32} {a a' : Nat → Nat} {S : AS} {σ τ : St} (hZ : LZ Z b L xs) (hi : i + 6 ≤ L) (hc : RC S σ) (hr : RR S τ) (kk : ∀ (S : AS) (σ τ : St), RC S σ → RR S τ → V Z (wl2 (zG Z) a a' σ τ) [(3, .int (nI i)), (2, .ref (a' 0)), (1, .ref (a 0)), (0, .ref b)] 838 []) : V Z (wl2 (zG Z) a a' σ τ) [(3, .int (nI i)), (2, .ref (a' 0)), (1, .ref (a 0)), (0, .ref b)] 144 [] := by
  obtain ⟨X, hRf, hRl, hn, hX, hbl, hbA, hk0, ht0, hL⟩ := hZ
  refine V.aload_n X 2 dL_law_144 rfl rfl ?_
  refine V.aload_n X 3 dL_law_145 rfl rfl ?_
  refine V.iload_n X 0 dL_law_146 rfl rfl ?_
  refine V.iconst X (v := nI 1) dL_law_147 (by decide) ?_
  refine V.iaddN X dL_law_148 ?_
  refine V.sld X hX hbl hbA (vp_in_nI (show i + 1 < L by omega) (by omega)) dL_law_149 ?_
  refine V.topi (y := xs (i + 1)) (by rw [nI_clamp (by omega)]) ?_
  refine V.aload_n X 3 dL_law_150 rfl rfl ?_
  refine V.iload_n X 0 dL_law_151 rfl rfl ?_
  refine V.iconst X (v := nI 2) dL_law_152 (by decide) ?_
  refine V.iaddN X dL_law_153 ?_
  refine V.sld X hX hbl hbA (vp_in_nI (show i + 2 < L by omega) (by omega)) dL_law_154 ?_
  refine V.topi (y := xs (i + 2)) (by rw [nI_clamp (by omega)]) ?_
  refine law_x (As := [.int (xs (i + 1)), .int (xs (i + 2))]) (rest := []) (S := S) X (cl_deed (zl Z) (zG Z) a (xs (i + 1)) (xs (i + 2)) hc) cv_L_13 rfl rfl (len hRf (by decide)) (len hRl (by decide)) hk0 ht0 rfl (Nat.le_of_ble_eq_true rfl) dL_law_155 (fun σ' hc' => ?_)
  refine V.aload_n X 1 dL_law_158 rfl rfl ?_
  refine V.aload_n X 3 dL_law_159 rfl rfl ?_
  refine V.iload_n X 0 dL_law_160 rfl rfl ?_
  refine V.iconst X (v := nI 1) dL_law_161 (by decide) ?_
  refine V.iaddN X dL_law_162 ?_
  refine V.sld X hX hbl hbA (vp_in_nI (show i + 1 < L by omega) (by omega)) dL_law_163 ?_
  refine V.topi (y := xs (i + 1)) (by rw [nI_clamp (by omega)]) ?_
  refine V.aload_n X 3 dL_law_164 rfl rfl ?_
  refine V.iload_n X 0 dL_law_165 rfl rfl ?_
  refine V.iconst X (v := nI 2) dL_law_166 (by decide) ?_
  refine V.iaddN X dL_law_167 ?_
  refine V.sld X hX hbl hbA (vp_in_nI (show i + 2 < L by omega) (by omega)) dL_law_168 ?_
  refine V.topi (y := xs (i + 2)) (by rw [nI_clamp (by omega)]) ?_
  refine law_m (As := [.int (xs (i + 1)), .int (xs (i + 2))]) (rest := [.int ((sp_deed S (xs (i + 1)) (xs (i + 2))).1)]) (S := S) X (rf_deed (zl Z) (zG Z) a' τ (xs (i + 1)) (xs (i + 2)) hr) cv_L_17 rfl rfl (len hRf (by decide)) (len hRl (by decide)) hk0 ht0 rfl (Nat.le_of_ble_eq_true rfl) dL_law_169 (fun τ' hr' => ?_)
  exact V.icmp_eq X 838 dL_law_172 (by decide) (fun _ => kk _ σ' τ' hc' hr') (fun z => absurd rfl z)

set_option maxHeartbeats 4000000 in
set_option maxRecDepth 100000 in
theorem law_enclose {Z : Cx} {b L i : Nat} {xs : Nat → Int32} {a a' : Nat → Nat} {S : AS} {σ τ : St} (hZ : LZ Z b L xs) (hi : i + 6 ≤ L) (hc : RC S σ) (hr : RR S τ) (kk : ∀ (S : AS) (σ τ : St), RC S σ → RR S τ → V Z (wl2 (zG Z) a a' σ τ) [(3, .int (nI i)), (2, .ref (a' 0)), (1, .ref (a 0)), (0, .ref b)] 838 []) : V Z (wl2 (zG Z) a a' σ τ) [(3, .int (nI i)), (2, .ref (a' 0)), (1, .ref (a 0)), (0, .ref b)] 177 [] := by
  obtain ⟨X, hRf, hRl, hn, hX, hbl, hbA, hk0, ht0, hL⟩ := hZ
  refine V.aload_n X 2 dL_law_177 rfl rfl ?_
  refine V.aload_n X 3 dL_law_178 rfl rfl ?_
  refine V.iload_n X 0 dL_law_179 rfl rfl ?_
  refine V.iconst X (v := nI 1) dL_law_180 (by decide) ?_
  refine V.iaddN X dL_law_181 ?_
  refine V.sld X hX hbl hbA (vp_in_nI (show i + 1 < L by omega) (by omega)) dL_law_182 ?_
  refine V.topi (y := xs (i + 1)) (by rw [nI_clamp (by omega)]) ?_
  refine V.aload_n X 3 dL_law_183 rfl rfl ?_
  refine V.iload_n X 0 dL_law_184 rfl rfl ?_
  refine V.iconst X (v := nI 2) dL_law_185 (by decide) ?_
  refine V.iaddN X dL_law_186 ?_
  refine V.sld X hX hbl hbA (vp_in_nI (show i + 2 < L by omega) (by omega)) dL_law_187 ?_
  refine V.topi (y := xs (i + 2)) (by rw [nI_clamp (by omega)]) ?_
  refine law_x (As := [.int (xs (i + 1)), .int (xs (i + 2))]) (rest := []) (S := S) X (cl_enclose (zl Z) (zG Z) a (xs (i + 1)) (xs (i + 2)) hc) cv_L_18 rfl rfl (len hRf (by decide)) (len hRl (by decide)) hk0 ht0 rfl (Nat.le_of_ble_eq_true rfl) dL_law_188 (fun σ' hc' => ?_)
  refine V.aload_n X 1 dL_law_191 rfl rfl ?_
  refine V.aload_n X 3 dL_law_192 rfl rfl ?_
  refine V.iload_n X 0 dL_law_193 rfl rfl ?_
  refine V.iconst X (v := nI 1) dL_law_194 (by decide) ?_
  refine V.iaddN X dL_law_195 ?_
  refine V.sld X hX hbl hbA (vp_in_nI (show i + 1 < L by omega) (by omega)) dL_law_196 ?_
  refine V.topi (y := xs (i + 1)) (by rw [nI_clamp (by omega)]) ?_
  refine V.aload_n X 3 dL_law_197 rfl rfl ?_
  refine V.iload_n X 0 dL_law_198 rfl rfl ?_
  refine V.iconst X (v := nI 2) dL_law_199 (by decide) ?_
  refine V.iaddN X dL_law_200 ?_
  refine V.sld X hX hbl hbA (vp_in_nI (show i + 2 < L by omega) (by omega)) dL_law_201 ?_
  refine V.topi (y := xs (i + 2)) (by rw [nI_clamp (by omega)]) ?_
  refine law_m (As := [.int (xs (i + 1)), .int (xs (i + 2))]) (rest := [.int ((sp_enclose S (xs (i + 1)) (xs (i + 2))).1)]) (S := S) X (rf_enclose (zl Z) (zG Z) a' τ (xs (i + 1)) (xs (i + 2)) hr) cv_L_21 rfl rfl (len hRf (by decide)) (len hRl (by decide)) hk0 ht0 rfl (Nat.le_of_ble_eq_true rfl) dL_law_202 (fun τ' hr' => ?_)
  exact V.icmp_eq X 838 dL_law_205 (by decide) (fun _ => kk _ σ' τ' hc' hr') (fun z => absurd rfl z)

set_option maxHeartbeats 4000000 in
set_option maxRecDepth 100000 in
theorem law_chain {Z : Cx} {b L i : Nat} {xs : Nat → Int32} {a a' : Nat → Nat} {S : AS} {σ τ : St} (hZ : LZ Z b L xs) (hi : i + 6 ≤ L) (hc : RC S σ) (hr : RR S τ) (kk : ∀ (S : AS) (σ τ : St), RC S σ → RR S τ → V Z (wl2 (zG Z) a a' σ τ) [(3, .int (nI i)), (2, .ref (a' 0)), (1, .ref (a 0)), (0, .ref b)] 838 []) : V Z (wl2 (zG Z) a a' σ τ) [(3, .int (nI i)), (2, .ref (a' 0)), (1, .ref (a 0)), (0, .ref b)] 210 [] := by
  obtain ⟨X, hRf, hRl, hn, hX, hbl, hbA, hk0, ht0, hL⟩ := hZ
  refine V.aload_n X 2 dL_law_210 rfl rfl ?_
  refine V.aload_n X 3 dL_law_211 rfl rfl ?_
  refine V.iload_n X 0 dL_law_212 rfl rfl ?_
  refine V.iconst X (v := nI 1) dL_law_213 (by decide) ?_
  refine V.iaddN X dL_law_214 ?_
  refine V.sld X hX hbl hbA (vp_in_nI (show i + 1 < L by omega) (by omega)) dL_law_215 ?_
  refine V.topi (y := xs (i + 1)) (by rw [nI_clamp (by omega)]) ?_
  refine V.aload_n X 3 dL_law_216 rfl rfl ?_
  refine V.iload_n X 0 dL_law_217 rfl rfl ?_
  refine V.iconst X (v := nI 2) dL_law_218 (by decide) ?_
  refine V.iaddN X dL_law_219 ?_
  refine V.sld X hX hbl hbA (vp_in_nI (show i + 2 < L by omega) (by omega)) dL_law_220 ?_
  refine V.topi (y := xs (i + 2)) (by rw [nI_clamp (by omega)]) ?_
  refine V.aload_n X 3 dL_law_221 rfl rfl ?_
  refine V.iload_n X 0 dL_law_222 rfl rfl ?_
  refine V.iconst X (v := nI 3) dL_law_223 (by decide) ?_
  refine V.iaddN X dL_law_224 ?_
  refine V.sld X hX hbl hbA (vp_in_nI (show i + 3 < L by omega) (by omega)) dL_law_225 ?_
  refine V.topi (y := xs (i + 3)) (by rw [nI_clamp (by omega)]) ?_
  refine V.aload_n X 3 dL_law_226 rfl rfl ?_
  refine V.iload_n X 0 dL_law_227 rfl rfl ?_
  refine V.iconst X (v := nI 4) dL_law_228 (by decide) ?_
  refine V.iaddN X dL_law_229 ?_
  refine V.sld X hX hbl hbA (vp_in_nI (show i + 4 < L by omega) (by omega)) dL_law_230 ?_
  refine V.topi (y := xs (i + 4)) (by rw [nI_clamp (by omega)]) ?_
  refine V.aload_n X 3 dL_law_231 rfl rfl ?_
  refine V.iload_n X 0 dL_law_232 rfl rfl ?_
  refine V.iconst X (v := nI 5) dL_law_233 (by decide) ?_
  refine V.iaddN X dL_law_234 ?_
  refine V.sld X hX hbl hbA (vp_in_nI (show i + 5 < L by omega) (by omega)) dL_law_235 ?_
  refine V.topi (y := xs (i + 5)) (by rw [nI_clamp (by omega)]) ?_
  refine law_x (As := [.int (xs (i + 1)), .int (xs (i + 2)), .int (xs (i + 3)), .int (xs (i + 4)), .int (xs (i + 5))]) (rest := []) (S := S) X (cl_chain (zl Z) (zG Z) a (xs (i + 1)) (xs (i + 2)) (xs (i + 3)) (xs (i + 4)) (xs (i + 5)) hc) cv_L_22 rfl rfl (len hRf (by decide)) (len hRl (by decide)) hk0 ht0 rfl (Nat.le_of_ble_eq_true rfl) dL_law_236 (fun σ' hc' => ?_)
  refine V.aload_n X 1 dL_law_239 rfl rfl ?_
  refine V.aload_n X 3 dL_law_240 rfl rfl ?_
  refine V.iload_n X 0 dL_law_241 rfl rfl ?_
  refine V.iconst X (v := nI 1) dL_law_242 (by decide) ?_
  refine V.iaddN X dL_law_243 ?_
  refine V.sld X hX hbl hbA (vp_in_nI (show i + 1 < L by omega) (by omega)) dL_law_244 ?_
  refine V.topi (y := xs (i + 1)) (by rw [nI_clamp (by omega)]) ?_
  refine V.aload_n X 3 dL_law_245 rfl rfl ?_
  refine V.iload_n X 0 dL_law_246 rfl rfl ?_
  refine V.iconst X (v := nI 2) dL_law_247 (by decide) ?_
  refine V.iaddN X dL_law_248 ?_
  refine V.sld X hX hbl hbA (vp_in_nI (show i + 2 < L by omega) (by omega)) dL_law_249 ?_
  refine V.topi (y := xs (i + 2)) (by rw [nI_clamp (by omega)]) ?_
  refine V.aload_n X 3 dL_law_250 rfl rfl ?_
  refine V.iload_n X 0 dL_law_251 rfl rfl ?_
  refine V.iconst X (v := nI 3) dL_law_252 (by decide) ?_
  refine V.iaddN X dL_law_253 ?_
  refine V.sld X hX hbl hbA (vp_in_nI (show i + 3 < L by omega) (by omega)) dL_law_254 ?_
  refine V.topi (y := xs (i + 3)) (by rw [nI_clamp (by omega)]) ?_
  refine V.aload_n X 3 dL_law_255 rfl rfl ?_
  refine V.iload_n X 0 dL_law_256 rfl rfl ?_
  refine V.iconst X (v := nI 4) dL_law_257 (by decide) ?_
  refine V.iaddN X dL_law_258 ?_
  refine V.sld X hX hbl hbA (vp_in_nI (show i + 4 < L by omega) (by omega)) dL_law_259 ?_
  refine V.topi (y := xs (i + 4)) (by rw [nI_clamp (by omega)]) ?_
  refine V.aload_n X 3 dL_law_260 rfl rfl ?_
  refine V.iload_n X 0 dL_law_261 rfl rfl ?_
  refine V.iconst X (v := nI 5) dL_law_262 (by decide) ?_
  refine V.iaddN X dL_law_263 ?_
  refine V.sld X hX hbl hbA (vp_in_nI (show i + 5 < L by omega) (by omega)) dL_law_264 ?_
  refine V.topi (y := xs (i + 5)) (by rw [nI_clamp (by omega)]) ?_
  refine law_m (As := [.int (xs (i + 1)), .int (xs (i + 2)), .int (xs (i + 3)), .int (xs (i + 4)), .int (xs (i + 5))]) (rest := [.int ((sp_chain S (xs (i + 1)) (xs (i + 2)) (xs (i + 3)) (xs (i + 4)) (xs (i + 5))).1)]) (S := S) X (rf_chain (zl Z) (zG Z) a' τ (xs (i + 1)) (xs (i + 2)) (xs (i + 3)) (xs (i + 4)) (xs (i + 5)) hr) cv_L_26 rfl rfl (len hRf (by decide)) (len hRl (by decide)) hk0 ht0 rfl (Nat.le_of_ble_eq_true rfl) dL_law_265 (fun τ' hr' => ?_)
  exact V.icmp_eq X 838 dL_law_268 (by decide) (fun _ => kk _ σ' τ' hc' hr') (fun z => absurd rfl z)

set_option maxHeartbeats 4000000 in
set_option maxRecDepth 100000 in
theorem law_way {Z : Cx} {b L i : Nat} {xs : Nat → Int32} {a a' : Nat → Nat} {S : AS} {σ τ : St} (hZ : LZ Z b L xs) (hi : i + 6 ≤ L) (hc : RC S σ) (hr : RR S τ) (kk : ∀ (S : AS) (σ τ : St), RC S σ → RR S τ → V Z (wl2 (zG Z) a a' σ τ) [(3, .int (nI i)), (2, .ref (a' 0)), (1, .ref (a 0)), (0, .ref b)] 838 []) : V Z (wl2 (zG Z) a a' σ τ) [(3, .int (nI i)), (2, .ref (a' 0)), (1, .ref (a 0)), (0, .ref b)] 273 [] := by
  obtain ⟨X, hRf, hRl, hn, hX, hbl, hbA, hk0, ht0, hL⟩ := hZ
  refine V.aload_n X 2 dL_law_273 rfl rfl ?_
  refine V.aload_n X 3 dL_law_274 rfl rfl ?_
  refine V.iload_n X 0 dL_law_275 rfl rfl ?_
  refine V.iconst X (v := nI 1) dL_law_276 (by decide) ?_
  refine V.iaddN X dL_law_277 ?_
  refine V.sld X hX hbl hbA (vp_in_nI (show i + 1 < L by omega) (by omega)) dL_law_278 ?_
  refine V.topi (y := xs (i + 1)) (by rw [nI_clamp (by omega)]) ?_
  refine law_x (As := [.int (xs (i + 1))]) (rest := []) (S := S) X (cl_way (zl Z) (zG Z) a (xs (i + 1)) hc) cv_L_27 rfl rfl (len hRf (by decide)) (len hRl (by decide)) hk0 ht0 rfl (Nat.le_of_ble_eq_true rfl) dL_law_279 (fun σ' hc' => ?_)
  refine V.aload_n X 1 dL_law_282 rfl rfl ?_
  refine V.aload_n X 3 dL_law_283 rfl rfl ?_
  refine V.iload_n X 0 dL_law_284 rfl rfl ?_
  refine V.iconst X (v := nI 1) dL_law_285 (by decide) ?_
  refine V.iaddN X dL_law_286 ?_
  refine V.sld X hX hbl hbA (vp_in_nI (show i + 1 < L by omega) (by omega)) dL_law_287 ?_
  refine V.topi (y := xs (i + 1)) (by rw [nI_clamp (by omega)]) ?_
  refine law_m (As := [.int (xs (i + 1))]) (rest := [.int ((sp_way S (xs (i + 1))).1)]) (S := S) X (rf_way (zl Z) (zG Z) a' τ (xs (i + 1)) hr) cv_L_31 rfl rfl (len hRf (by decide)) (len hRl (by decide)) hk0 ht0 rfl (Nat.le_of_ble_eq_true rfl) dL_law_288 (fun τ' hr' => ?_)
  exact V.icmp_eq X 838 dL_law_291 (by decide) (fun _ => kk _ σ' τ' hc' hr') (fun z => absurd rfl z)

set_option maxHeartbeats 4000000 in
set_option maxRecDepth 100000 in
theorem law_meter {Z : Cx} {b L i : Nat} {xs : Nat → Int32} {a a' : Nat → Nat} {S : AS} {σ τ : St} (hZ : LZ Z b L xs) (hi : i + 6 ≤ L) (hc : RC S σ) (hr : RR S τ) (kk : ∀ (S : AS) (σ τ : St), RC S σ → RR S τ → V Z (wl2 (zG Z) a a' σ τ) [(3, .int (nI i)), (2, .ref (a' 0)), (1, .ref (a 0)), (0, .ref b)] 838 []) : V Z (wl2 (zG Z) a a' σ τ) [(3, .int (nI i)), (2, .ref (a' 0)), (1, .ref (a 0)), (0, .ref b)] 296 [] := by
  obtain ⟨X, hRf, hRl, hn, hX, hbl, hbA, hk0, ht0, hL⟩ := hZ
  refine V.aload_n X 2 dL_law_296 rfl rfl ?_
  refine V.aload_n X 3 dL_law_297 rfl rfl ?_
  refine V.iload_n X 0 dL_law_298 rfl rfl ?_
  refine V.iconst X (v := nI 1) dL_law_299 (by decide) ?_
  refine V.iaddN X dL_law_300 ?_
  refine V.sld X hX hbl hbA (vp_in_nI (show i + 1 < L by omega) (by omega)) dL_law_301 ?_
  refine V.topi (y := xs (i + 1)) (by rw [nI_clamp (by omega)]) ?_
  refine law_x (As := [.int (xs (i + 1))]) (rest := []) (S := S) X (cl_meter (zl Z) (zG Z) a (xs (i + 1)) hc) cv_L_32 rfl rfl (len hRf (by decide)) (len hRl (by decide)) hk0 ht0 rfl (Nat.le_of_ble_eq_true rfl) dL_law_302 (fun σ' hc' => ?_)
  refine V.aload_n X 1 dL_law_305 rfl rfl ?_
  refine V.aload_n X 3 dL_law_306 rfl rfl ?_
  refine V.iload_n X 0 dL_law_307 rfl rfl ?_
  refine V.iconst X (v := nI 1) dL_law_308 (by decide) ?_
  refine V.iaddN X dL_law_309 ?_
  refine V.sld X hX hbl hbA (vp_in_nI (show i + 1 < L by omega) (by omega)) dL_law_310 ?_
  refine V.topi (y := xs (i + 1)) (by rw [nI_clamp (by omega)]) ?_
  refine law_m (As := [.int (xs (i + 1))]) (rest := [.int ((sp_meter S (xs (i + 1))).1)]) (S := S) X (rf_meter (zl Z) (zG Z) a' τ (xs (i + 1)) hr) cv_L_35 rfl rfl (len hRf (by decide)) (len hRl (by decide)) hk0 ht0 rfl (Nat.le_of_ble_eq_true rfl) dL_law_311 (fun τ' hr' => ?_)
  exact V.icmp_eq X 838 dL_law_314 (by decide) (fun _ => kk _ σ' τ' hc' hr') (fun z => absurd rfl z)

set_option maxHeartbeats 4000000 in
set_option maxRecDepth 100000 in
theorem law_of {Z : Cx} {b L i : Nat} {xs : Nat → Int32} {a a' : Nat → Nat} {S : AS} {σ τ : St} (hZ : LZ Z b L xs) (hi : i + 6 ≤ L) (hc : RC S σ) (hr : RR S τ) (kk : ∀ (S : AS) (σ τ : St), RC S σ → RR S τ → V Z (wl2 (zG Z) a a' σ τ) [(3, .int (nI i)), (2, .ref (a' 0)), (1, .ref (a 0)), (0, .ref b)] 838 []) : V Z (wl2 (zG Z) a a' σ τ) [(3, .int (nI i)), (2, .ref (a' 0)), (1, .ref (a 0)), (0, .ref b)] 319 [] := by
  obtain ⟨X, hRf, hRl, hn, hX, hbl, hbA, hk0, ht0, hL⟩ := hZ
  refine V.aload_n X 2 dL_law_319 rfl rfl ?_
  refine V.aload_n X 3 dL_law_320 rfl rfl ?_
  refine V.iload_n X 0 dL_law_321 rfl rfl ?_
  refine V.iconst X (v := nI 1) dL_law_322 (by decide) ?_
  refine V.iaddN X dL_law_323 ?_
  refine V.sld X hX hbl hbA (vp_in_nI (show i + 1 < L by omega) (by omega)) dL_law_324 ?_
  refine V.topi (y := xs (i + 1)) (by rw [nI_clamp (by omega)]) ?_
  refine V.aload_n X 3 dL_law_325 rfl rfl ?_
  refine V.iload_n X 0 dL_law_326 rfl rfl ?_
  refine V.iconst X (v := nI 2) dL_law_327 (by decide) ?_
  refine V.iaddN X dL_law_328 ?_
  refine V.sld X hX hbl hbA (vp_in_nI (show i + 2 < L by omega) (by omega)) dL_law_329 ?_
  refine V.topi (y := xs (i + 2)) (by rw [nI_clamp (by omega)]) ?_
  refine law_x (As := [.int (xs (i + 1)), .int (xs (i + 2))]) (rest := []) (S := S) X (cl_of (zl Z) (zG Z) a (xs (i + 1)) (xs (i + 2)) hc) cv_L_36 rfl rfl (len hRf (by decide)) (len hRl (by decide)) hk0 ht0 rfl (Nat.le_of_ble_eq_true rfl) dL_law_330 (fun σ' hc' => ?_)
  refine V.aload_n X 1 dL_law_333 rfl rfl ?_
  refine V.aload_n X 3 dL_law_334 rfl rfl ?_
  refine V.iload_n X 0 dL_law_335 rfl rfl ?_
  refine V.iconst X (v := nI 1) dL_law_336 (by decide) ?_
  refine V.iaddN X dL_law_337 ?_
  refine V.sld X hX hbl hbA (vp_in_nI (show i + 1 < L by omega) (by omega)) dL_law_338 ?_
  refine V.topi (y := xs (i + 1)) (by rw [nI_clamp (by omega)]) ?_
  refine V.aload_n X 3 dL_law_339 rfl rfl ?_
  refine V.iload_n X 0 dL_law_340 rfl rfl ?_
  refine V.iconst X (v := nI 2) dL_law_341 (by decide) ?_
  refine V.iaddN X dL_law_342 ?_
  refine V.sld X hX hbl hbA (vp_in_nI (show i + 2 < L by omega) (by omega)) dL_law_343 ?_
  refine V.topi (y := xs (i + 2)) (by rw [nI_clamp (by omega)]) ?_
  refine law_m (As := [.int (xs (i + 1)), .int (xs (i + 2))]) (rest := [.int (sp_of S (xs (i + 1)) (xs (i + 2)))]) (S := S) X (rf_of (zl Z) (zG Z) a' τ (xs (i + 1)) (xs (i + 2)) hr) cv_L_39 rfl rfl (len hRf (by decide)) (len hRl (by decide)) hk0 ht0 rfl (Nat.le_of_ble_eq_true rfl) dL_law_344 (fun τ' hr' => ?_)
  exact V.icmp_eq X 838 dL_law_347 (by decide) (fun _ => kk _ σ' τ' hc' hr') (fun z => absurd rfl z)

set_option maxHeartbeats 4000000 in
set_option maxRecDepth 100000 in
theorem law_part {Z : Cx} {b L i : Nat} {xs : Nat → Int32} {a a' : Nat → Nat} {S : AS} {σ τ : St} (hZ : LZ Z b L xs) (hi : i + 6 ≤ L) (hc : RC S σ) (hr : RR S τ) (kk : ∀ (S : AS) (σ τ : St), RC S σ → RR S τ → V Z (wl2 (zG Z) a a' σ τ) [(3, .int (nI i)), (2, .ref (a' 0)), (1, .ref (a 0)), (0, .ref b)] 838 []) : V Z (wl2 (zG Z) a a' σ τ) [(3, .int (nI i)), (2, .ref (a' 0)), (1, .ref (a 0)), (0, .ref b)] 352 [] := by
  obtain ⟨X, hRf, hRl, hn, hX, hbl, hbA, hk0, ht0, hL⟩ := hZ
  refine V.aload_n X 2 dL_law_352 rfl rfl ?_
  refine V.aload_n X 3 dL_law_353 rfl rfl ?_
  refine V.iload_n X 0 dL_law_354 rfl rfl ?_
  refine V.iconst X (v := nI 1) dL_law_355 (by decide) ?_
  refine V.iaddN X dL_law_356 ?_
  refine V.sld X hX hbl hbA (vp_in_nI (show i + 1 < L by omega) (by omega)) dL_law_357 ?_
  refine V.topi (y := xs (i + 1)) (by rw [nI_clamp (by omega)]) ?_
  refine V.aload_n X 3 dL_law_358 rfl rfl ?_
  refine V.iload_n X 0 dL_law_359 rfl rfl ?_
  refine V.iconst X (v := nI 2) dL_law_360 (by decide) ?_
  refine V.iaddN X dL_law_361 ?_
  refine V.sld X hX hbl hbA (vp_in_nI (show i + 2 < L by omega) (by omega)) dL_law_362 ?_
  refine V.topi (y := xs (i + 2)) (by rw [nI_clamp (by omega)]) ?_
  refine law_x (As := [.int (xs (i + 1)), .int (xs (i + 2))]) (rest := []) (S := S) X (cl_part (zl Z) (zG Z) a (xs (i + 1)) (xs (i + 2)) hc) cv_L_40 rfl rfl (len hRf (by decide)) (len hRl (by decide)) hk0 ht0 rfl (Nat.le_of_ble_eq_true rfl) dL_law_363 (fun σ' hc' => ?_)
  refine V.aload_n X 1 dL_law_366 rfl rfl ?_
  refine V.aload_n X 3 dL_law_367 rfl rfl ?_
  refine V.iload_n X 0 dL_law_368 rfl rfl ?_
  refine V.iconst X (v := nI 1) dL_law_369 (by decide) ?_
  refine V.iaddN X dL_law_370 ?_
  refine V.sld X hX hbl hbA (vp_in_nI (show i + 1 < L by omega) (by omega)) dL_law_371 ?_
  refine V.topi (y := xs (i + 1)) (by rw [nI_clamp (by omega)]) ?_
  refine V.aload_n X 3 dL_law_372 rfl rfl ?_
  refine V.iload_n X 0 dL_law_373 rfl rfl ?_
  refine V.iconst X (v := nI 2) dL_law_374 (by decide) ?_
  refine V.iaddN X dL_law_375 ?_
  refine V.sld X hX hbl hbA (vp_in_nI (show i + 2 < L by omega) (by omega)) dL_law_376 ?_
  refine V.topi (y := xs (i + 2)) (by rw [nI_clamp (by omega)]) ?_
  refine law_m (As := [.int (xs (i + 1)), .int (xs (i + 2))]) (rest := [.int (sp_part S (xs (i + 1)) (xs (i + 2)))]) (S := S) X (rf_part (zl Z) (zG Z) a' τ (xs (i + 1)) (xs (i + 2)) hr) cv_L_43 rfl rfl (len hRf (by decide)) (len hRl (by decide)) hk0 ht0 rfl (Nat.le_of_ble_eq_true rfl) dL_law_377 (fun τ' hr' => ?_)
  exact V.icmp_eq X 838 dL_law_380 (by decide) (fun _ => kk _ σ' τ' hc' hr') (fun z => absurd rfl z)

set_option maxHeartbeats 4000000 in
set_option maxRecDepth 100000 in
theorem law_size {Z : Cx} {b L i : Nat} {xs : Nat → Int32} {a a' : Nat → Nat} {S : AS} {σ τ : St} (hZ : LZ Z b L xs) (hi : i + 6 ≤ L) (hc : RC S σ) (hr : RR S τ) (kk : ∀ (S : AS) (σ τ : St), RC S σ → RR S τ → V Z (wl2 (zG Z) a a' σ τ) [(3, .int (nI i)), (2, .ref (a' 0)), (1, .ref (a 0)), (0, .ref b)] 838 []) : V Z (wl2 (zG Z) a a' σ τ) [(3, .int (nI i)), (2, .ref (a' 0)), (1, .ref (a 0)), (0, .ref b)] 385 [] := by
  obtain ⟨X, hRf, hRl, hn, hX, hbl, hbA, hk0, ht0, hL⟩ := hZ
  refine V.aload_n X 2 dL_law_385 rfl rfl ?_
  refine V.aload_n X 3 dL_law_386 rfl rfl ?_
  refine V.iload_n X 0 dL_law_387 rfl rfl ?_
  refine V.iconst X (v := nI 1) dL_law_388 (by decide) ?_
  refine V.iaddN X dL_law_389 ?_
  refine V.sld X hX hbl hbA (vp_in_nI (show i + 1 < L by omega) (by omega)) dL_law_390 ?_
  refine V.topi (y := xs (i + 1)) (by rw [nI_clamp (by omega)]) ?_
  refine law_x (As := [.int (xs (i + 1))]) (rest := []) (S := S) X (cl_size (zl Z) (zG Z) a (xs (i + 1)) hc) cv_L_44 rfl rfl (len hRf (by decide)) (len hRl (by decide)) hk0 ht0 rfl (Nat.le_of_ble_eq_true rfl) dL_law_391 (fun σ' hc' => ?_)
  refine V.aload_n X 1 dL_law_394 rfl rfl ?_
  refine V.aload_n X 3 dL_law_395 rfl rfl ?_
  refine V.iload_n X 0 dL_law_396 rfl rfl ?_
  refine V.iconst X (v := nI 1) dL_law_397 (by decide) ?_
  refine V.iaddN X dL_law_398 ?_
  refine V.sld X hX hbl hbA (vp_in_nI (show i + 1 < L by omega) (by omega)) dL_law_399 ?_
  refine V.topi (y := xs (i + 1)) (by rw [nI_clamp (by omega)]) ?_
  refine law_m (As := [.int (xs (i + 1))]) (rest := [.int ((sp_size S (xs (i + 1))).1)]) (S := S) X (rf_size (zl Z) (zG Z) a' τ (xs (i + 1)) hr) cv_L_47 rfl rfl (len hRf (by decide)) (len hRl (by decide)) hk0 ht0 rfl (Nat.le_of_ble_eq_true rfl) dL_law_400 (fun τ' hr' => ?_)
  exact V.icmp_eq X 838 dL_law_403 (by decide) (fun _ => kk _ σ' τ' hc' hr') (fun z => absurd rfl z)

set_option maxHeartbeats 4000000 in
set_option maxRecDepth 100000 in
theorem law_depth {Z : Cx} {b L i : Nat} {xs : Nat → Int32} {a a' : Nat → Nat} {S : AS} {σ τ : St} (hZ : LZ Z b L xs) (hi : i + 6 ≤ L) (hc : RC S σ) (hr : RR S τ) (kk : ∀ (S : AS) (σ τ : St), RC S σ → RR S τ → V Z (wl2 (zG Z) a a' σ τ) [(3, .int (nI i)), (2, .ref (a' 0)), (1, .ref (a 0)), (0, .ref b)] 838 []) : V Z (wl2 (zG Z) a a' σ τ) [(3, .int (nI i)), (2, .ref (a' 0)), (1, .ref (a 0)), (0, .ref b)] 408 [] := by
  obtain ⟨X, hRf, hRl, hn, hX, hbl, hbA, hk0, ht0, hL⟩ := hZ
  refine V.aload_n X 2 dL_law_408 rfl rfl ?_
  refine V.aload_n X 3 dL_law_409 rfl rfl ?_
  refine V.iload_n X 0 dL_law_410 rfl rfl ?_
  refine V.iconst X (v := nI 1) dL_law_411 (by decide) ?_
  refine V.iaddN X dL_law_412 ?_
  refine V.sld X hX hbl hbA (vp_in_nI (show i + 1 < L by omega) (by omega)) dL_law_413 ?_
  refine V.topi (y := xs (i + 1)) (by rw [nI_clamp (by omega)]) ?_
  refine law_x (As := [.int (xs (i + 1))]) (rest := []) (S := S) X (cl_depth (zl Z) (zG Z) a (xs (i + 1)) hc) cv_L_48 rfl rfl (len hRf (by decide)) (len hRl (by decide)) hk0 ht0 rfl (Nat.le_of_ble_eq_true rfl) dL_law_414 (fun σ' hc' => ?_)
  refine V.aload_n X 1 dL_law_417 rfl rfl ?_
  refine V.aload_n X 3 dL_law_418 rfl rfl ?_
  refine V.iload_n X 0 dL_law_419 rfl rfl ?_
  refine V.iconst X (v := nI 1) dL_law_420 (by decide) ?_
  refine V.iaddN X dL_law_421 ?_
  refine V.sld X hX hbl hbA (vp_in_nI (show i + 1 < L by omega) (by omega)) dL_law_422 ?_
  refine V.topi (y := xs (i + 1)) (by rw [nI_clamp (by omega)]) ?_
  refine law_m (As := [.int (xs (i + 1))]) (rest := [.int ((sp_depth S (xs (i + 1))).1)]) (S := S) X (rf_depth (zl Z) (zG Z) a' τ (xs (i + 1)) hr) cv_L_51 rfl rfl (len hRf (by decide)) (len hRl (by decide)) hk0 ht0 rfl (Nat.le_of_ble_eq_true rfl) dL_law_423 (fun τ' hr' => ?_)
  exact V.icmp_eq X 838 dL_law_426 (by decide) (fun _ => kk _ σ' τ' hc' hr') (fun z => absurd rfl z)

set_option maxHeartbeats 4000000 in
set_option maxRecDepth 100000 in
theorem law_worth {Z : Cx} {b L i : Nat} {xs : Nat → Int32} {a a' : Nat → Nat} {S : AS} {σ τ : St} (hZ : LZ Z b L xs) (hi : i + 6 ≤ L) (hc : RC S σ) (hr : RR S τ) (kk : ∀ (S : AS) (σ τ : St), RC S σ → RR S τ → V Z (wl2 (zG Z) a a' σ τ) [(3, .int (nI i)), (2, .ref (a' 0)), (1, .ref (a 0)), (0, .ref b)] 838 []) : V Z (wl2 (zG Z) a a' σ τ) [(3, .int (nI i)), (2, .ref (a' 0)), (1, .ref (a 0)), (0, .ref b)] 431 [] := by
  obtain ⟨X, hRf, hRl, hn, hX, hbl, hbA, hk0, ht0, hL⟩ := hZ
  refine V.aload_n X 2 dL_law_431 rfl rfl ?_
  refine V.aload_n X 3 dL_law_432 rfl rfl ?_
  refine V.iload_n X 0 dL_law_433 rfl rfl ?_
  refine V.iconst X (v := nI 1) dL_law_434 (by decide) ?_
  refine V.iaddN X dL_law_435 ?_
  refine V.sld X hX hbl hbA (vp_in_nI (show i + 1 < L by omega) (by omega)) dL_law_436 ?_
  refine V.topi (y := xs (i + 1)) (by rw [nI_clamp (by omega)]) ?_
  refine law_x (As := [.int (xs (i + 1))]) (rest := []) (S := S) X (cl_worth (zl Z) (zG Z) a (xs (i + 1)) hc) cv_L_52 rfl rfl (len hRf (by decide)) (len hRl (by decide)) hk0 ht0 rfl (Nat.le_of_ble_eq_true rfl) dL_law_437 (fun σ' hc' => ?_)
  refine V.aload_n X 1 dL_law_440 rfl rfl ?_
  refine V.aload_n X 3 dL_law_441 rfl rfl ?_
  refine V.iload_n X 0 dL_law_442 rfl rfl ?_
  refine V.iconst X (v := nI 1) dL_law_443 (by decide) ?_
  refine V.iaddN X dL_law_444 ?_
  refine V.sld X hX hbl hbA (vp_in_nI (show i + 1 < L by omega) (by omega)) dL_law_445 ?_
  refine V.topi (y := xs (i + 1)) (by rw [nI_clamp (by omega)]) ?_
  refine law_m (As := [.int (xs (i + 1))]) (rest := [.long ((sp_worth S (xs (i + 1))).1)]) (S := S) X (rf_worth (zl Z) (zG Z) a' τ (xs (i + 1)) hr) cv_L_56 rfl rfl (len hRf (by decide)) (len hRl (by decide)) hk0 ht0 rfl (Nat.le_of_ble_eq_true rfl) dL_law_446 (fun τ' hr' => ?_)
  exact V.lif_eq X 838 dL_law_449 dL_law_450 (by decide) (fun _ => kk _ σ' τ' hc' hr') (fun z => absurd rfl z)

set_option maxHeartbeats 4000000 in
set_option maxRecDepth 100000 in
theorem law_mark {Z : Cx} {b L i : Nat} {xs : Nat → Int32} {a a' : Nat → Nat} {S : AS} {σ τ : St} (hZ : LZ Z b L xs) (hi : i + 6 ≤ L) (hc : RC S σ) (hr : RR S τ) (kk : ∀ (S : AS) (σ τ : St), RC S σ → RR S τ → V Z (wl2 (zG Z) a a' σ τ) [(3, .int (nI i)), (2, .ref (a' 0)), (1, .ref (a 0)), (0, .ref b)] 838 []) : V Z (wl2 (zG Z) a a' σ τ) [(3, .int (nI i)), (2, .ref (a' 0)), (1, .ref (a 0)), (0, .ref b)] 455 [] := by
  obtain ⟨X, hRf, hRl, hn, hX, hbl, hbA, hk0, ht0, hL⟩ := hZ
  refine V.aload_n X 2 dL_law_455 rfl rfl ?_
  refine V.aload_n X 3 dL_law_456 rfl rfl ?_
  refine V.iload_n X 0 dL_law_457 rfl rfl ?_
  refine V.iconst X (v := nI 1) dL_law_458 (by decide) ?_
  refine V.iaddN X dL_law_459 ?_
  refine V.sld X hX hbl hbA (vp_in_nI (show i + 1 < L by omega) (by omega)) dL_law_460 ?_
  refine V.topi (y := xs (i + 1)) (by rw [nI_clamp (by omega)]) ?_
  refine law_x (As := [.int (xs (i + 1))]) (rest := []) (S := S) X (cl_mark (zl Z) (zG Z) a (xs (i + 1)) hc) cv_L_57 rfl rfl (len hRf (by decide)) (len hRl (by decide)) hk0 ht0 rfl (Nat.le_of_ble_eq_true rfl) dL_law_461 (fun σ' hc' => ?_)
  refine V.aload_n X 1 dL_law_464 rfl rfl ?_
  refine V.aload_n X 3 dL_law_465 rfl rfl ?_
  refine V.iload_n X 0 dL_law_466 rfl rfl ?_
  refine V.iconst X (v := nI 1) dL_law_467 (by decide) ?_
  refine V.iaddN X dL_law_468 ?_
  refine V.sld X hX hbl hbA (vp_in_nI (show i + 1 < L by omega) (by omega)) dL_law_469 ?_
  refine V.topi (y := xs (i + 1)) (by rw [nI_clamp (by omega)]) ?_
  refine law_m (As := [.int (xs (i + 1))]) (rest := [.long ((sp_mark S (xs (i + 1))).1)]) (S := S) X (rf_mark (zl Z) (zG Z) a' τ (xs (i + 1)) hr) cv_L_60 rfl rfl (len hRf (by decide)) (len hRl (by decide)) hk0 ht0 rfl (Nat.le_of_ble_eq_true rfl) dL_law_470 (fun τ' hr' => ?_)
  exact V.lif_eq X 838 dL_law_473 dL_law_474 (by decide) (fun _ => kk _ σ' τ' hc' hr') (fun z => absurd rfl z)

set_option maxHeartbeats 4000000 in
set_option maxRecDepth 100000 in
theorem law_alike {Z : Cx} {b L i : Nat} {xs : Nat → Int32} {a a' : Nat → Nat} {S : AS} {σ τ : St} (hZ : LZ Z b L xs) (hi : i + 6 ≤ L) (hc : RC S σ) (hr : RR S τ) (kk : ∀ (S : AS) (σ τ : St), RC S σ → RR S τ → V Z (wl2 (zG Z) a a' σ τ) [(3, .int (nI i)), (2, .ref (a' 0)), (1, .ref (a 0)), (0, .ref b)] 838 []) : V Z (wl2 (zG Z) a a' σ τ) [(3, .int (nI i)), (2, .ref (a' 0)), (1, .ref (a 0)), (0, .ref b)] 479 [] := by
  obtain ⟨X, hRf, hRl, hn, hX, hbl, hbA, hk0, ht0, hL⟩ := hZ
  refine V.aload_n X 2 dL_law_479 rfl rfl ?_
  refine V.aload_n X 3 dL_law_480 rfl rfl ?_
  refine V.iload_n X 0 dL_law_481 rfl rfl ?_
  refine V.iconst X (v := nI 1) dL_law_482 (by decide) ?_
  refine V.iaddN X dL_law_483 ?_
  refine V.sld X hX hbl hbA (vp_in_nI (show i + 1 < L by omega) (by omega)) dL_law_484 ?_
  refine V.topi (y := xs (i + 1)) (by rw [nI_clamp (by omega)]) ?_
  refine V.aload_n X 3 dL_law_485 rfl rfl ?_
  refine V.iload_n X 0 dL_law_486 rfl rfl ?_
  refine V.iconst X (v := nI 2) dL_law_487 (by decide) ?_
  refine V.iaddN X dL_law_488 ?_
  refine V.sld X hX hbl hbA (vp_in_nI (show i + 2 < L by omega) (by omega)) dL_law_489 ?_
  refine V.topi (y := xs (i + 2)) (by rw [nI_clamp (by omega)]) ?_
  refine law_x (As := [.int (xs (i + 1)), .int (xs (i + 2))]) (rest := []) (S := S) X (cl_alike (zl Z) (zG Z) a (xs (i + 1)) (xs (i + 2)) hc) cv_L_61 rfl rfl (len hRf (by decide)) (len hRl (by decide)) hk0 ht0 rfl (Nat.le_of_ble_eq_true rfl) dL_law_490 (fun σ' hc' => ?_)
  refine V.aload_n X 1 dL_law_493 rfl rfl ?_
  refine V.aload_n X 3 dL_law_494 rfl rfl ?_
  refine V.iload_n X 0 dL_law_495 rfl rfl ?_
  refine V.iconst X (v := nI 1) dL_law_496 (by decide) ?_
  refine V.iaddN X dL_law_497 ?_
  refine V.sld X hX hbl hbA (vp_in_nI (show i + 1 < L by omega) (by omega)) dL_law_498 ?_
  refine V.topi (y := xs (i + 1)) (by rw [nI_clamp (by omega)]) ?_
  refine V.aload_n X 3 dL_law_499 rfl rfl ?_
  refine V.iload_n X 0 dL_law_500 rfl rfl ?_
  refine V.iconst X (v := nI 2) dL_law_501 (by decide) ?_
  refine V.iaddN X dL_law_502 ?_
  refine V.sld X hX hbl hbA (vp_in_nI (show i + 2 < L by omega) (by omega)) dL_law_503 ?_
  refine V.topi (y := xs (i + 2)) (by rw [nI_clamp (by omega)]) ?_
  refine law_m (As := [.int (xs (i + 1)), .int (xs (i + 2))]) (rest := [.int ((sp_alike S (xs (i + 1)) (xs (i + 2))).1)]) (S := S) X (rf_alike (zl Z) (zG Z) a' τ (xs (i + 1)) (xs (i + 2)) hr) cv_L_64 rfl rfl (len hRf (by decide)) (len hRl (by decide)) hk0 ht0 rfl (Nat.le_of_ble_eq_true rfl) dL_law_504 (fun τ' hr' => ?_)
  exact V.icmp_eq X 838 dL_law_507 (by decide) (fun _ => kk _ σ' τ' hc' hr') (fun z => absurd rfl z)

set_option maxHeartbeats 4000000 in
set_option maxRecDepth 100000 in
theorem law_write {Z : Cx} {b L i : Nat} {xs : Nat → Int32} {a a' : Nat → Nat} {S : AS} {σ τ : St} (hZ : LZ Z b L xs) (hi : i + 6 ≤ L) (hc : RC S σ) (hr : RR S τ) (kk : ∀ (S : AS) (σ τ : St), RC S σ → RR S τ → V Z (wl2 (zG Z) a a' σ τ) [(3, .int (nI i)), (2, .ref (a' 0)), (1, .ref (a 0)), (0, .ref b)] 838 []) : V Z (wl2 (zG Z) a a' σ τ) [(3, .int (nI i)), (2, .ref (a' 0)), (1, .ref (a 0)), (0, .ref b)] 512 [] := by
  obtain ⟨X, hRf, hRl, hn, hX, hbl, hbA, hk0, ht0, hL⟩ := hZ
  refine V.aload_n X 2 dL_law_512 rfl rfl ?_
  refine V.aload_n X 3 dL_law_513 rfl rfl ?_
  refine V.iload_n X 0 dL_law_514 rfl rfl ?_
  refine V.iconst X (v := nI 1) dL_law_515 (by decide) ?_
  refine V.iaddN X dL_law_516 ?_
  refine V.sld X hX hbl hbA (vp_in_nI (show i + 1 < L by omega) (by omega)) dL_law_517 ?_
  refine V.topi (y := xs (i + 1)) (by rw [nI_clamp (by omega)]) ?_
  refine law_x (As := [.int (xs (i + 1))]) (rest := []) (S := S) X (cl_write (zl Z) (zG Z) a (xs (i + 1)) hc) cv_L_65 rfl rfl (len hRf (by decide)) (len hRl (by decide)) hk0 ht0 rfl (Nat.le_of_ble_eq_true rfl) dL_law_518 (fun σ' hc' => ?_)
  refine V.aload_n X 1 dL_law_521 rfl rfl ?_
  refine V.aload_n X 3 dL_law_522 rfl rfl ?_
  refine V.iload_n X 0 dL_law_523 rfl rfl ?_
  refine V.iconst X (v := nI 1) dL_law_524 (by decide) ?_
  refine V.iaddN X dL_law_525 ?_
  refine V.sld X hX hbl hbA (vp_in_nI (show i + 1 < L by omega) (by omega)) dL_law_526 ?_
  refine V.topi (y := xs (i + 1)) (by rw [nI_clamp (by omega)]) ?_
  refine law_m (As := [.int (xs (i + 1))]) (rest := [.int ((sp_write S (xs (i + 1))).1)]) (S := S) X (rf_write (zl Z) (zG Z) a' τ (xs (i + 1)) hr) cv_L_68 rfl rfl (len hRf (by decide)) (len hRl (by decide)) hk0 ht0 rfl (Nat.le_of_ble_eq_true rfl) dL_law_527 (fun τ' hr' => ?_)
  exact V.icmp_eq X 838 dL_law_530 (by decide) (fun _ => kk _ σ' τ' hc' hr') (fun z => absurd rfl z)

set_option maxHeartbeats 4000000 in
set_option maxRecDepth 100000 in
theorem law_find {Z : Cx} {b L i : Nat} {xs : Nat → Int32} {a a' : Nat → Nat} {S : AS} {σ τ : St} (hZ : LZ Z b L xs) (hi : i + 6 ≤ L) (hc : RC S σ) (hr : RR S τ) (kk : ∀ (S : AS) (σ τ : St), RC S σ → RR S τ → V Z (wl2 (zG Z) a a' σ τ) [(3, .int (nI i)), (2, .ref (a' 0)), (1, .ref (a 0)), (0, .ref b)] 838 []) : V Z (wl2 (zG Z) a a' σ τ) [(3, .int (nI i)), (2, .ref (a' 0)), (1, .ref (a 0)), (0, .ref b)] 535 [] := by
  obtain ⟨X, hRf, hRl, hn, hX, hbl, hbA, hk0, ht0, hL⟩ := hZ
  refine V.aload_n X 2 dL_law_535 rfl rfl ?_
  refine V.aload_n X 3 dL_law_536 rfl rfl ?_
  refine V.iload_n X 0 dL_law_537 rfl rfl ?_
  refine V.iconst X (v := nI 1) dL_law_538 (by decide) ?_
  refine V.iaddN X dL_law_539 ?_
  refine V.sld X hX hbl hbA (vp_in_nI (show i + 1 < L by omega) (by omega)) dL_law_540 ?_
  refine V.topi (y := xs (i + 1)) (by rw [nI_clamp (by omega)]) ?_
  refine V.aload_n X 3 dL_law_541 rfl rfl ?_
  refine V.iload_n X 0 dL_law_542 rfl rfl ?_
  refine V.iconst X (v := nI 2) dL_law_543 (by decide) ?_
  refine V.iaddN X dL_law_544 ?_
  refine V.sld X hX hbl hbA (vp_in_nI (show i + 2 < L by omega) (by omega)) dL_law_545 ?_
  refine V.topi (y := xs (i + 2)) (by rw [nI_clamp (by omega)]) ?_
  refine V.aload_n X 3 dL_law_546 rfl rfl ?_
  refine V.iload_n X 0 dL_law_547 rfl rfl ?_
  refine V.iconst X (v := nI 3) dL_law_548 (by decide) ?_
  refine V.iaddN X dL_law_549 ?_
  refine V.sld X hX hbl hbA (vp_in_nI (show i + 3 < L by omega) (by omega)) dL_law_550 ?_
  refine V.topi (y := xs (i + 3)) (by rw [nI_clamp (by omega)]) ?_
  refine law_x (As := [.int (xs (i + 1)), .int (xs (i + 2)), .int (xs (i + 3))]) (rest := []) (S := S) X (cl_find (zl Z) (zG Z) a (xs (i + 1)) (xs (i + 2)) (xs (i + 3)) hc) cv_L_69 rfl rfl (len hRf (by decide)) (len hRl (by decide)) hk0 ht0 rfl (Nat.le_of_ble_eq_true rfl) dL_law_551 (fun σ' hc' => ?_)
  refine V.aload_n X 1 dL_law_554 rfl rfl ?_
  refine V.aload_n X 3 dL_law_555 rfl rfl ?_
  refine V.iload_n X 0 dL_law_556 rfl rfl ?_
  refine V.iconst X (v := nI 1) dL_law_557 (by decide) ?_
  refine V.iaddN X dL_law_558 ?_
  refine V.sld X hX hbl hbA (vp_in_nI (show i + 1 < L by omega) (by omega)) dL_law_559 ?_
  refine V.topi (y := xs (i + 1)) (by rw [nI_clamp (by omega)]) ?_
  refine V.aload_n X 3 dL_law_560 rfl rfl ?_
  refine V.iload_n X 0 dL_law_561 rfl rfl ?_
  refine V.iconst X (v := nI 2) dL_law_562 (by decide) ?_
  refine V.iaddN X dL_law_563 ?_
  refine V.sld X hX hbl hbA (vp_in_nI (show i + 2 < L by omega) (by omega)) dL_law_564 ?_
  refine V.topi (y := xs (i + 2)) (by rw [nI_clamp (by omega)]) ?_
  refine V.aload_n X 3 dL_law_565 rfl rfl ?_
  refine V.iload_n X 0 dL_law_566 rfl rfl ?_
  refine V.iconst X (v := nI 3) dL_law_567 (by decide) ?_
  refine V.iaddN X dL_law_568 ?_
  refine V.sld X hX hbl hbA (vp_in_nI (show i + 3 < L by omega) (by omega)) dL_law_569 ?_
  refine V.topi (y := xs (i + 3)) (by rw [nI_clamp (by omega)]) ?_
  refine law_m (As := [.int (xs (i + 1)), .int (xs (i + 2)), .int (xs (i + 3))]) (rest := [.int ((sp_find S (xs (i + 1)) (xs (i + 2)) (xs (i + 3))).1)]) (S := S) X (rf_find (zl Z) (zG Z) a' τ (xs (i + 1)) (xs (i + 2)) (xs (i + 3)) hr) cv_L_73 rfl rfl (len hRf (by decide)) (len hRl (by decide)) hk0 ht0 rfl (Nat.le_of_ble_eq_true rfl) dL_law_570 (fun τ' hr' => ?_)
  exact V.icmp_eq X 838 dL_law_573 (by decide) (fun _ => kk _ σ' τ' hc' hr') (fun z => absurd rfl z)

set_option maxHeartbeats 4000000 in
set_option maxRecDepth 100000 in
theorem law_widest {Z : Cx} {b L i : Nat} {xs : Nat → Int32} {a a' : Nat → Nat} {S : AS} {σ τ : St} (hZ : LZ Z b L xs) (hi : i + 6 ≤ L) (hc : RC S σ) (hr : RR S τ) (kk : ∀ (S : AS) (σ τ : St), RC S σ → RR S τ → V Z (wl2 (zG Z) a a' σ τ) [(3, .int (nI i)), (2, .ref (a' 0)), (1, .ref (a 0)), (0, .ref b)] 838 []) : V Z (wl2 (zG Z) a a' σ τ) [(3, .int (nI i)), (2, .ref (a' 0)), (1, .ref (a 0)), (0, .ref b)] 578 [] := by
  obtain ⟨X, hRf, hRl, hn, hX, hbl, hbA, hk0, ht0, hL⟩ := hZ
  refine V.aload_n X 2 dL_law_578 rfl rfl ?_
  refine V.aload_n X 3 dL_law_579 rfl rfl ?_
  refine V.iload_n X 0 dL_law_580 rfl rfl ?_
  refine V.iconst X (v := nI 1) dL_law_581 (by decide) ?_
  refine V.iaddN X dL_law_582 ?_
  refine V.sld X hX hbl hbA (vp_in_nI (show i + 1 < L by omega) (by omega)) dL_law_583 ?_
  refine V.topi (y := xs (i + 1)) (by rw [nI_clamp (by omega)]) ?_
  refine V.aload_n X 3 dL_law_584 rfl rfl ?_
  refine V.iload_n X 0 dL_law_585 rfl rfl ?_
  refine V.iconst X (v := nI 2) dL_law_586 (by decide) ?_
  refine V.iaddN X dL_law_587 ?_
  refine V.sld X hX hbl hbA (vp_in_nI (show i + 2 < L by omega) (by omega)) dL_law_588 ?_
  refine V.topi (y := xs (i + 2)) (by rw [nI_clamp (by omega)]) ?_
  refine law_x (As := [.int (xs (i + 1)), .int (xs (i + 2))]) (rest := []) (S := S) X (cl_widest (zl Z) (zG Z) a (xs (i + 1)) (xs (i + 2)) hc) cv_L_74 rfl rfl (len hRf (by decide)) (len hRl (by decide)) hk0 ht0 rfl (Nat.le_of_ble_eq_true rfl) dL_law_589 (fun σ' hc' => ?_)
  refine V.aload_n X 1 dL_law_592 rfl rfl ?_
  refine V.aload_n X 3 dL_law_593 rfl rfl ?_
  refine V.iload_n X 0 dL_law_594 rfl rfl ?_
  refine V.iconst X (v := nI 1) dL_law_595 (by decide) ?_
  refine V.iaddN X dL_law_596 ?_
  refine V.sld X hX hbl hbA (vp_in_nI (show i + 1 < L by omega) (by omega)) dL_law_597 ?_
  refine V.topi (y := xs (i + 1)) (by rw [nI_clamp (by omega)]) ?_
  refine V.aload_n X 3 dL_law_598 rfl rfl ?_
  refine V.iload_n X 0 dL_law_599 rfl rfl ?_
  refine V.iconst X (v := nI 2) dL_law_600 (by decide) ?_
  refine V.iaddN X dL_law_601 ?_
  refine V.sld X hX hbl hbA (vp_in_nI (show i + 2 < L by omega) (by omega)) dL_law_602 ?_
  refine V.topi (y := xs (i + 2)) (by rw [nI_clamp (by omega)]) ?_
  refine law_m (As := [.int (xs (i + 1)), .int (xs (i + 2))]) (rest := [.int ((sp_widest S (xs (i + 1)) (xs (i + 2))).1)]) (S := S) X (rf_widest (zl Z) (zG Z) a' τ (xs (i + 1)) (xs (i + 2)) hr) cv_L_77 rfl rfl (len hRf (by decide)) (len hRl (by decide)) hk0 ht0 rfl (Nat.le_of_ble_eq_true rfl) dL_law_603 (fun τ' hr' => ?_)
  exact V.icmp_eq X 838 dL_law_606 (by decide) (fun _ => kk _ σ' τ' hc' hr') (fun z => absurd rfl z)

set_option maxHeartbeats 4000000 in
set_option maxRecDepth 100000 in
theorem law_copy {Z : Cx} {b L i : Nat} {xs : Nat → Int32} {a a' : Nat → Nat} {S : AS} {σ τ : St} (hZ : LZ Z b L xs) (hi : i + 6 ≤ L) (hc : RC S σ) (hr : RR S τ) (kk : ∀ (S : AS) (σ τ : St), RC S σ → RR S τ → V Z (wl2 (zG Z) a a' σ τ) [(3, .int (nI i)), (2, .ref (a' 0)), (1, .ref (a 0)), (0, .ref b)] 838 []) : V Z (wl2 (zG Z) a a' σ τ) [(3, .int (nI i)), (2, .ref (a' 0)), (1, .ref (a 0)), (0, .ref b)] 611 [] := by
  obtain ⟨X, hRf, hRl, hn, hX, hbl, hbA, hk0, ht0, hL⟩ := hZ
  refine V.aload_n X 2 dL_law_611 rfl rfl ?_
  refine V.aload_n X 3 dL_law_612 rfl rfl ?_
  refine V.iload_n X 0 dL_law_613 rfl rfl ?_
  refine V.iconst X (v := nI 1) dL_law_614 (by decide) ?_
  refine V.iaddN X dL_law_615 ?_
  refine V.sld X hX hbl hbA (vp_in_nI (show i + 1 < L by omega) (by omega)) dL_law_616 ?_
  refine V.topi (y := xs (i + 1)) (by rw [nI_clamp (by omega)]) ?_
  refine law_x (As := [.int (xs (i + 1))]) (rest := []) (S := S) X (cl_copy (zl Z) (zG Z) a (xs (i + 1)) hc) cv_L_78 rfl rfl (len hRf (by decide)) (len hRl (by decide)) hk0 ht0 rfl (Nat.le_of_ble_eq_true rfl) dL_law_617 (fun σ' hc' => ?_)
  refine V.aload_n X 1 dL_law_620 rfl rfl ?_
  refine V.aload_n X 3 dL_law_621 rfl rfl ?_
  refine V.iload_n X 0 dL_law_622 rfl rfl ?_
  refine V.iconst X (v := nI 1) dL_law_623 (by decide) ?_
  refine V.iaddN X dL_law_624 ?_
  refine V.sld X hX hbl hbA (vp_in_nI (show i + 1 < L by omega) (by omega)) dL_law_625 ?_
  refine V.topi (y := xs (i + 1)) (by rw [nI_clamp (by omega)]) ?_
  refine law_m (As := [.int (xs (i + 1))]) (rest := [.int ((sp_remake S (xs (i + 1)) (nI 2147483647) false).1)]) (S := S) X (rf_copy (zl Z) (zG Z) a' τ (xs (i + 1)) hr) cv_L_81 rfl rfl (len hRf (by decide)) (len hRl (by decide)) hk0 ht0 rfl (Nat.le_of_ble_eq_true rfl) dL_law_626 (fun τ' hr' => ?_)
  exact V.icmp_eq X 838 dL_law_629 (by decide) (fun _ => kk _ σ' τ' hc' hr') (fun z => absurd rfl z)

set_option maxHeartbeats 4000000 in
set_option maxRecDepth 100000 in
theorem law_thin {Z : Cx} {b L i : Nat} {xs : Nat → Int32} {a a' : Nat → Nat} {S : AS} {σ τ : St} (hZ : LZ Z b L xs) (hi : i + 6 ≤ L) (hc : RC S σ) (hr : RR S τ) (kk : ∀ (S : AS) (σ τ : St), RC S σ → RR S τ → V Z (wl2 (zG Z) a a' σ τ) [(3, .int (nI i)), (2, .ref (a' 0)), (1, .ref (a 0)), (0, .ref b)] 838 []) : V Z (wl2 (zG Z) a a' σ τ) [(3, .int (nI i)), (2, .ref (a' 0)), (1, .ref (a 0)), (0, .ref b)] 634 [] := by
  obtain ⟨X, hRf, hRl, hn, hX, hbl, hbA, hk0, ht0, hL⟩ := hZ
  refine V.aload_n X 2 dL_law_634 rfl rfl ?_
  refine V.aload_n X 3 dL_law_635 rfl rfl ?_
  refine V.iload_n X 0 dL_law_636 rfl rfl ?_
  refine V.iconst X (v := nI 1) dL_law_637 (by decide) ?_
  refine V.iaddN X dL_law_638 ?_
  refine V.sld X hX hbl hbA (vp_in_nI (show i + 1 < L by omega) (by omega)) dL_law_639 ?_
  refine V.topi (y := xs (i + 1)) (by rw [nI_clamp (by omega)]) ?_
  refine V.aload_n X 3 dL_law_640 rfl rfl ?_
  refine V.iload_n X 0 dL_law_641 rfl rfl ?_
  refine V.iconst X (v := nI 2) dL_law_642 (by decide) ?_
  refine V.iaddN X dL_law_643 ?_
  refine V.sld X hX hbl hbA (vp_in_nI (show i + 2 < L by omega) (by omega)) dL_law_644 ?_
  refine V.topi (y := xs (i + 2)) (by rw [nI_clamp (by omega)]) ?_
  refine law_x (As := [.int (xs (i + 1)), .int (xs (i + 2))]) (rest := []) (S := S) X (cl_thin (zl Z) (zG Z) a (xs (i + 1)) (xs (i + 2)) hc) cv_L_82 rfl rfl (len hRf (by decide)) (len hRl (by decide)) hk0 ht0 rfl (Nat.le_of_ble_eq_true rfl) dL_law_645 (fun σ' hc' => ?_)
  refine V.aload_n X 1 dL_law_648 rfl rfl ?_
  refine V.aload_n X 3 dL_law_649 rfl rfl ?_
  refine V.iload_n X 0 dL_law_650 rfl rfl ?_
  refine V.iconst X (v := nI 1) dL_law_651 (by decide) ?_
  refine V.iaddN X dL_law_652 ?_
  refine V.sld X hX hbl hbA (vp_in_nI (show i + 1 < L by omega) (by omega)) dL_law_653 ?_
  refine V.topi (y := xs (i + 1)) (by rw [nI_clamp (by omega)]) ?_
  refine V.aload_n X 3 dL_law_654 rfl rfl ?_
  refine V.iload_n X 0 dL_law_655 rfl rfl ?_
  refine V.iconst X (v := nI 2) dL_law_656 (by decide) ?_
  refine V.iaddN X dL_law_657 ?_
  refine V.sld X hX hbl hbA (vp_in_nI (show i + 2 < L by omega) (by omega)) dL_law_658 ?_
  refine V.topi (y := xs (i + 2)) (by rw [nI_clamp (by omega)]) ?_
  refine law_m (As := [.int (xs (i + 1)), .int (xs (i + 2))]) (rest := [.int ((sp_remake S (xs (i + 1)) (xs (i + 2)) false).1)]) (S := S) X (rf_thin (zl Z) (zG Z) a' τ (xs (i + 1)) (xs (i + 2)) hr) cv_L_85 rfl rfl (len hRf (by decide)) (len hRl (by decide)) hk0 ht0 rfl (Nat.le_of_ble_eq_true rfl) dL_law_659 (fun τ' hr' => ?_)
  exact V.icmp_eq X 838 dL_law_662 (by decide) (fun _ => kk _ σ' τ' hc' hr') (fun z => absurd rfl z)

set_option maxHeartbeats 4000000 in
set_option maxRecDepth 100000 in
theorem law_order {Z : Cx} {b L i : Nat} {xs : Nat → Int32} {a a' : Nat → Nat} {S : AS} {σ τ : St} (hZ : LZ Z b L xs) (hi : i + 6 ≤ L) (hc : RC S σ) (hr : RR S τ) (kk : ∀ (S : AS) (σ τ : St), RC S σ → RR S τ → V Z (wl2 (zG Z) a a' σ τ) [(3, .int (nI i)), (2, .ref (a' 0)), (1, .ref (a 0)), (0, .ref b)] 838 []) : V Z (wl2 (zG Z) a a' σ τ) [(3, .int (nI i)), (2, .ref (a' 0)), (1, .ref (a 0)), (0, .ref b)] 667 [] := by
  obtain ⟨X, hRf, hRl, hn, hX, hbl, hbA, hk0, ht0, hL⟩ := hZ
  refine V.aload_n X 2 dL_law_667 rfl rfl ?_
  refine V.aload_n X 3 dL_law_668 rfl rfl ?_
  refine V.iload_n X 0 dL_law_669 rfl rfl ?_
  refine V.iconst X (v := nI 1) dL_law_670 (by decide) ?_
  refine V.iaddN X dL_law_671 ?_
  refine V.sld X hX hbl hbA (vp_in_nI (show i + 1 < L by omega) (by omega)) dL_law_672 ?_
  refine V.topi (y := xs (i + 1)) (by rw [nI_clamp (by omega)]) ?_
  refine law_x (As := [.int (xs (i + 1))]) (rest := []) (S := S) X (cl_order (zl Z) (zG Z) a (xs (i + 1)) hc) cv_L_86 rfl rfl (len hRf (by decide)) (len hRl (by decide)) hk0 ht0 rfl (Nat.le_of_ble_eq_true rfl) dL_law_673 (fun σ' hc' => ?_)
  refine V.aload_n X 1 dL_law_676 rfl rfl ?_
  refine V.aload_n X 3 dL_law_677 rfl rfl ?_
  refine V.iload_n X 0 dL_law_678 rfl rfl ?_
  refine V.iconst X (v := nI 1) dL_law_679 (by decide) ?_
  refine V.iaddN X dL_law_680 ?_
  refine V.sld X hX hbl hbA (vp_in_nI (show i + 1 < L by omega) (by omega)) dL_law_681 ?_
  refine V.topi (y := xs (i + 1)) (by rw [nI_clamp (by omega)]) ?_
  refine law_m (As := [.int (xs (i + 1))]) (rest := [.int ((sp_remake S (xs (i + 1)) (nI 2147483647) true).1)]) (S := S) X (rf_order (zl Z) (zG Z) a' τ (xs (i + 1)) hr) cv_L_89 rfl rfl (len hRf (by decide)) (len hRl (by decide)) hk0 ht0 rfl (Nat.le_of_ble_eq_true rfl) dL_law_682 (fun τ' hr' => ?_)
  exact V.icmp_eq X 838 dL_law_685 (by decide) (fun _ => kk _ σ' τ' hc' hr') (fun z => absurd rfl z)

set_option maxHeartbeats 4000000 in
set_option maxRecDepth 100000 in
theorem law_feed {Z : Cx} {b L i : Nat} {xs : Nat → Int32} {a a' : Nat → Nat} {S : AS} {σ τ : St} (hZ : LZ Z b L xs) (hi : i + 6 ≤ L) (hc : RC S σ) (hr : RR S τ) (kk : ∀ (S : AS) (σ τ : St), RC S σ → RR S τ → V Z (wl2 (zG Z) a a' σ τ) [(3, .int (nI i)), (2, .ref (a' 0)), (1, .ref (a 0)), (0, .ref b)] 838 []) : V Z (wl2 (zG Z) a a' σ τ) [(3, .int (nI i)), (2, .ref (a' 0)), (1, .ref (a 0)), (0, .ref b)] 690 [] := by
  obtain ⟨X, hRf, hRl, hn, hX, hbl, hbA, hk0, ht0, hL⟩ := hZ
  refine V.aload_n X 2 dL_law_690 rfl rfl ?_
  refine V.aload_n X 3 dL_law_691 rfl rfl ?_
  refine V.iload_n X 0 dL_law_692 rfl rfl ?_
  refine V.iconst X (v := nI 1) dL_law_693 (by decide) ?_
  refine V.iaddN X dL_law_694 ?_
  refine V.sld X hX hbl hbA (vp_in_nI (show i + 1 < L by omega) (by omega)) dL_law_695 ?_
  refine V.topi (y := xs (i + 1)) (by rw [nI_clamp (by omega)]) ?_
  refine V.i2l X dL_law_696 rfl ?_
  refine V.bipush X (v := nI 32) dL_law_697 (by decide) ?_
  refine V.lshl X dL_law_699 rfl ?_
  refine V.aload_n X 3 dL_law_700 rfl rfl ?_
  refine V.iload_n X 0 dL_law_701 rfl rfl ?_
  refine V.iconst X (v := nI 2) dL_law_702 (by decide) ?_
  refine V.iaddN X dL_law_703 ?_
  refine V.sld X hX hbl hbA (vp_in_nI (show i + 2 < L by omega) (by omega)) dL_law_704 ?_
  refine V.topi (y := xs (i + 2)) (by rw [nI_clamp (by omega)]) ?_
  refine V.i2l X dL_law_705 rfl ?_
  refine V.ldc2 X dL_law_706 tw_1175 ?_
  refine V.land X dL_law_709 ?_
  refine V.lor X dL_law_710 ?_
  refine V.aload_n X 3 dL_law_711 rfl rfl ?_
  refine V.iload_n X 0 dL_law_712 rfl rfl ?_
  refine V.iconst X (v := nI 3) dL_law_713 (by decide) ?_
  refine V.iaddN X dL_law_714 ?_
  refine V.sld X hX hbl hbA (vp_in_nI (show i + 3 < L by omega) (by omega)) dL_law_715 ?_
  refine V.topi (y := xs (i + 3)) (by rw [nI_clamp (by omega)]) ?_
  refine law_x (As := [.long (((Int32.toInt64 (xs (i + 1))) <<< (Int32.toInt64 (nI 32) &&& 63)) ||| ((Int32.toInt64 (xs (i + 2))) &&& ((4294967295 : Int64)))), .int (xs (i + 3))]) (rest := []) (S := S) X (cl_feed (zl Z) (zG Z) a (((Int32.toInt64 (xs (i + 1))) <<< (Int32.toInt64 (nI 32) &&& 63)) ||| ((Int32.toInt64 (xs (i + 2))) &&& ((4294967295 : Int64)))) (xs (i + 3)) hc) cv_L_92 rfl rfl (len hRf (by decide)) (len hRl (by decide)) hk0 ht0 rfl (Nat.le_of_ble_eq_true rfl) dL_law_716 (fun σ' hc' => ?_)
  refine V.aload_n X 1 dL_law_719 rfl rfl ?_
  refine V.aload_n X 3 dL_law_720 rfl rfl ?_
  refine V.iload_n X 0 dL_law_721 rfl rfl ?_
  refine V.iconst X (v := nI 1) dL_law_722 (by decide) ?_
  refine V.iaddN X dL_law_723 ?_
  refine V.sld X hX hbl hbA (vp_in_nI (show i + 1 < L by omega) (by omega)) dL_law_724 ?_
  refine V.topi (y := xs (i + 1)) (by rw [nI_clamp (by omega)]) ?_
  refine V.i2l X dL_law_725 rfl ?_
  refine V.bipush X (v := nI 32) dL_law_726 (by decide) ?_
  refine V.lshl X dL_law_728 rfl ?_
  refine V.aload_n X 3 dL_law_729 rfl rfl ?_
  refine V.iload_n X 0 dL_law_730 rfl rfl ?_
  refine V.iconst X (v := nI 2) dL_law_731 (by decide) ?_
  refine V.iaddN X dL_law_732 ?_
  refine V.sld X hX hbl hbA (vp_in_nI (show i + 2 < L by omega) (by omega)) dL_law_733 ?_
  refine V.topi (y := xs (i + 2)) (by rw [nI_clamp (by omega)]) ?_
  refine V.i2l X dL_law_734 rfl ?_
  refine V.ldc2 X dL_law_735 tw_1175 ?_
  refine V.land X dL_law_738 ?_
  refine V.lor X dL_law_739 ?_
  refine V.aload_n X 3 dL_law_740 rfl rfl ?_
  refine V.iload_n X 0 dL_law_741 rfl rfl ?_
  refine V.iconst X (v := nI 3) dL_law_742 (by decide) ?_
  refine V.iaddN X dL_law_743 ?_
  refine V.sld X hX hbl hbA (vp_in_nI (show i + 3 < L by omega) (by omega)) dL_law_744 ?_
  refine V.topi (y := xs (i + 3)) (by rw [nI_clamp (by omega)]) ?_
  refine law_m (As := [.long (((Int32.toInt64 (xs (i + 1))) <<< (Int32.toInt64 (nI 32) &&& 63)) ||| ((Int32.toInt64 (xs (i + 2))) &&& ((4294967295 : Int64)))), .int (xs (i + 3))]) (rest := [.int ((sp_feed S (((Int32.toInt64 (xs (i + 1))) <<< (Int32.toInt64 (nI 32) &&& 63)) ||| ((Int32.toInt64 (xs (i + 2))) &&& ((4294967295 : Int64)))) (xs (i + 3))).1)]) (S := S) X (rf_feed (zl Z) (zG Z) a' τ (((Int32.toInt64 (xs (i + 1))) <<< (Int32.toInt64 (nI 32) &&& 63)) ||| ((Int32.toInt64 (xs (i + 2))) &&& ((4294967295 : Int64)))) (xs (i + 3)) hr) cv_L_96 rfl rfl (len hRf (by decide)) (len hRl (by decide)) hk0 ht0 rfl (Nat.le_of_ble_eq_true rfl) dL_law_745 (fun τ' hr' => ?_)
  exact V.icmp_eq X 838 dL_law_748 (by decide) (fun _ => kk _ σ' τ' hc' hr') (fun z => absurd rfl z)

set_option maxHeartbeats 4000000 in
set_option maxRecDepth 100000 in
theorem law_tear {Z : Cx} {b L i : Nat} {xs : Nat → Int32} {a a' : Nat → Nat} {S : AS} {σ τ : St} (hZ : LZ Z b L xs) (hi : i + 6 ≤ L) (hc : RC S σ) (hr : RR S τ) (kk : ∀ (S : AS) (σ τ : St), RC S σ → RR S τ → V Z (wl2 (zG Z) a a' σ τ) [(3, .int (nI i)), (2, .ref (a' 0)), (1, .ref (a 0)), (0, .ref b)] 838 []) : V Z (wl2 (zG Z) a a' σ τ) [(3, .int (nI i)), (2, .ref (a' 0)), (1, .ref (a 0)), (0, .ref b)] 753 [] := by
  obtain ⟨X, hRf, hRl, hn, hX, hbl, hbA, hk0, ht0, hL⟩ := hZ
  refine V.aload_n X 2 dL_law_753 rfl rfl ?_
  refine law_x (As := []) (rest := []) (S := S) X (cl_tear (zl Z) (zG Z) a  hc) cv_L_97 rfl rfl (len hRf (by decide)) (len hRl (by decide)) hk0 ht0 rfl (Nat.le_of_ble_eq_true rfl) dL_law_754 (fun σ' hc' => ?_)
  refine V.aload_n X 1 dL_law_757 rfl rfl ?_
  refine law_m (As := []) (rest := [.int (nI (yP S).length)]) (S := S) X (rf_tear (zl Z) (zG Z) a' τ  hr) cv_L_101 rfl rfl (len hRf (by decide)) (len hRl (by decide)) hk0 ht0 rfl (Nat.le_of_ble_eq_true rfl) dL_law_758 (fun τ' hr' => ?_)
  exact V.icmp_eq X 838 dL_law_761 (by decide) (fun _ => kk _ σ' τ' hc' hr') (fun z => absurd rfl z)

set_option maxHeartbeats 4000000 in
set_option maxRecDepth 100000 in
theorem law_byteAt {Z : Cx} {b L i : Nat} {xs : Nat → Int32} {a a' : Nat → Nat} {S : AS} {σ τ : St} (hZ : LZ Z b L xs) (hi : i + 6 ≤ L) (hc : RC S σ) (hr : RR S τ) (kk : ∀ (S : AS) (σ τ : St), RC S σ → RR S τ → V Z (wl2 (zG Z) a a' σ τ) [(3, .int (nI i)), (2, .ref (a' 0)), (1, .ref (a 0)), (0, .ref b)] 838 []) : V Z (wl2 (zG Z) a a' σ τ) [(3, .int (nI i)), (2, .ref (a' 0)), (1, .ref (a 0)), (0, .ref b)] 766 [] := by
  obtain ⟨X, hRf, hRl, hn, hX, hbl, hbA, hk0, ht0, hL⟩ := hZ
  refine V.aload_n X 2 dL_law_766 rfl rfl ?_
  refine V.aload_n X 3 dL_law_767 rfl rfl ?_
  refine V.iload_n X 0 dL_law_768 rfl rfl ?_
  refine V.iconst X (v := nI 1) dL_law_769 (by decide) ?_
  refine V.iaddN X dL_law_770 ?_
  refine V.sld X hX hbl hbA (vp_in_nI (show i + 1 < L by omega) (by omega)) dL_law_771 ?_
  refine V.topi (y := xs (i + 1)) (by rw [nI_clamp (by omega)]) ?_
  refine law_x (As := [.int (xs (i + 1))]) (rest := []) (S := S) X (cl_byteAt (zl Z) (zG Z) a (xs (i + 1)) hc) cv_L_102 rfl rfl (len hRf (by decide)) (len hRl (by decide)) hk0 ht0 rfl (Nat.le_of_ble_eq_true rfl) dL_law_772 (fun σ' hc' => ?_)
  refine V.aload_n X 1 dL_law_775 rfl rfl ?_
  refine V.aload_n X 3 dL_law_776 rfl rfl ?_
  refine V.iload_n X 0 dL_law_777 rfl rfl ?_
  refine V.iconst X (v := nI 1) dL_law_778 (by decide) ?_
  refine V.iaddN X dL_law_779 ?_
  refine V.sld X hX hbl hbA (vp_in_nI (show i + 1 < L by omega) (by omega)) dL_law_780 ?_
  refine V.topi (y := xs (i + 1)) (by rw [nI_clamp (by omega)]) ?_
  refine law_m (As := [.int (xs (i + 1))]) (rest := [.int (sp_byteAt S (xs (i + 1)))]) (S := S) X (rf_byteAt (zl Z) (zG Z) a' τ (xs (i + 1)) hr) cv_L_105 rfl rfl (len hRf (by decide)) (len hRl (by decide)) hk0 ht0 rfl (Nat.le_of_ble_eq_true rfl) dL_law_781 (fun τ' hr' => ?_)
  exact V.icmp_eq X 838 dL_law_784 (by decide) (fun _ => kk _ σ' τ' hc' hr') (fun z => absurd rfl z)

set_option maxHeartbeats 4000000 in
set_option maxRecDepth 100000 in
theorem law_read {Z : Cx} {b L i : Nat} {xs : Nat → Int32} {a a' : Nat → Nat} {S : AS} {σ τ : St} (hZ : LZ Z b L xs) (hi : i + 6 ≤ L) (hc : RC S σ) (hr : RR S τ) (kk : ∀ (S : AS) (σ τ : St), RC S σ → RR S τ → V Z (wl2 (zG Z) a a' σ τ) [(3, .int (nI i)), (2, .ref (a' 0)), (1, .ref (a 0)), (0, .ref b)] 838 []) : V Z (wl2 (zG Z) a a' σ τ) [(3, .int (nI i)), (2, .ref (a' 0)), (1, .ref (a 0)), (0, .ref b)] 789 [] := by
  obtain ⟨X, hRf, hRl, hn, hX, hbl, hbA, hk0, ht0, hL⟩ := hZ
  refine V.aload_n X 2 dL_law_789 rfl rfl ?_
  refine law_x (As := []) (rest := []) (S := S) X (cl_read (zl Z) (zG Z) a  hc) cv_L_106 rfl rfl (len hRf (by decide)) (len hRl (by decide)) hk0 ht0 rfl (Nat.le_of_ble_eq_true rfl) dL_law_790 (fun σ' hc' => ?_)
  refine V.aload_n X 1 dL_law_793 rfl rfl ?_
  refine law_m (As := []) (rest := [.int ((sp_read S).1)]) (S := S) X (rf_read (zl Z) (zG Z) a' τ  hr) cv_L_109 rfl rfl (len hRf (by decide)) (len hRl (by decide)) hk0 ht0 rfl (Nat.le_of_ble_eq_true rfl) dL_law_794 (fun τ' hr' => ?_)
  exact V.icmp_eq X 838 dL_law_797 (by decide) (fun _ => kk _ σ' τ' hc' hr') (fun z => absurd rfl z)

set_option maxHeartbeats 4000000 in
set_option maxRecDepth 100000 in
theorem law_answer {Z : Cx} {b L i : Nat} {xs : Nat → Int32} {a a' : Nat → Nat} {S : AS} {σ τ : St} (hZ : LZ Z b L xs) (hi : i + 6 ≤ L) (hc : RC S σ) (hr : RR S τ) (kk : ∀ (S : AS) (σ τ : St), RC S σ → RR S τ → V Z (wl2 (zG Z) a a' σ τ) [(3, .int (nI i)), (2, .ref (a' 0)), (1, .ref (a 0)), (0, .ref b)] 838 []) : V Z (wl2 (zG Z) a a' σ τ) [(3, .int (nI i)), (2, .ref (a' 0)), (1, .ref (a 0)), (0, .ref b)] 802 [] := by
  obtain ⟨X, hRf, hRl, hn, hX, hbl, hbA, hk0, ht0, hL⟩ := hZ
  refine V.aload_n X 2 dL_law_802 rfl rfl ?_
  refine law_x (As := []) (rest := []) (S := S) X (cl_answer (zl Z) (zG Z) a  hc) cv_L_110 rfl rfl (len hRf (by decide)) (len hRl (by decide)) hk0 ht0 rfl (Nat.le_of_ble_eq_true rfl) dL_law_803 (fun σ' hc' => ?_)
  refine V.aload_n X 1 dL_law_806 rfl rfl ?_
  refine law_m (As := []) (rest := [.int (yR S)]) (S := S) X (rf_answer (zl Z) (zG Z) a' τ  hr) cv_L_113 rfl rfl (len hRf (by decide)) (len hRl (by decide)) hk0 ht0 rfl (Nat.le_of_ble_eq_true rfl) dL_law_807 (fun τ' hr' => ?_)
  exact V.icmp_eq X 838 dL_law_810 (by decide) (fun _ => kk _ σ' τ' hc' hr') (fun z => absurd rfl z)

set_option maxHeartbeats 4000000 in
set_option maxRecDepth 100000 in
theorem law_count {Z : Cx} {b L i : Nat} {xs : Nat → Int32} {a a' : Nat → Nat} {S : AS} {σ τ : St} (hZ : LZ Z b L xs) (hi : i + 6 ≤ L) (hc : RC S σ) (hr : RR S τ) (kk : ∀ (S : AS) (σ τ : St), RC S σ → RR S τ → V Z (wl2 (zG Z) a a' σ τ) [(3, .int (nI i)), (2, .ref (a' 0)), (1, .ref (a 0)), (0, .ref b)] 838 []) : V Z (wl2 (zG Z) a a' σ τ) [(3, .int (nI i)), (2, .ref (a' 0)), (1, .ref (a 0)), (0, .ref b)] 815 [] := by
  obtain ⟨X, hRf, hRl, hn, hX, hbl, hbA, hk0, ht0, hL⟩ := hZ
  refine V.aload_n X 2 dL_law_815 rfl rfl ?_
  refine V.aload_n X 3 dL_law_816 rfl rfl ?_
  refine V.iload_n X 0 dL_law_817 rfl rfl ?_
  refine V.iconst X (v := nI 1) dL_law_818 (by decide) ?_
  refine V.iaddN X dL_law_819 ?_
  refine V.sld X hX hbl hbA (vp_in_nI (show i + 1 < L by omega) (by omega)) dL_law_820 ?_
  refine V.topi (y := xs (i + 1)) (by rw [nI_clamp (by omega)]) ?_
  refine law_x (As := [.int (xs (i + 1))]) (rest := []) (S := S) X (cl_count (zl Z) (zG Z) a (xs (i + 1)) hc) cv_L_114 rfl rfl (len hRf (by decide)) (len hRl (by decide)) hk0 ht0 rfl (Nat.le_of_ble_eq_true rfl) dL_law_821 (fun σ' hc' => ?_)
  refine V.aload_n X 1 dL_law_824 rfl rfl ?_
  refine V.aload_n X 3 dL_law_825 rfl rfl ?_
  refine V.iload_n X 0 dL_law_826 rfl rfl ?_
  refine V.iconst X (v := nI 1) dL_law_827 (by decide) ?_
  refine V.iaddN X dL_law_828 ?_
  refine V.sld X hX hbl hbA (vp_in_nI (show i + 1 < L by omega) (by omega)) dL_law_829 ?_
  refine V.topi (y := xs (i + 1)) (by rw [nI_clamp (by omega)]) ?_
  refine law_m (As := [.int (xs (i + 1))]) (rest := [.int (sp_count S (xs (i + 1)))]) (S := S) X (rf_count (zl Z) (zG Z) a' τ (xs (i + 1)) hr) cv_L_117 rfl rfl (len hRf (by decide)) (len hRl (by decide)) hk0 ht0 rfl (Nat.le_of_ble_eq_true rfl) dL_law_830 (fun τ' hr' => ?_)
  exact V.icmp_eq X 838 dL_law_833 (by decide) (fun _ => kk _ σ' τ' hc' hr') (fun z => absurd rfl z)

