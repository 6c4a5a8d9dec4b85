def wrV (F : Es) : Int32 := if F.1.2.1 = 0 then (if F.2.2 = true then -4 else nI F.2.1.length) else F.1.2.1
theorem wrA_no {S : AS} {j : Nat} (h : ¬ ((fWr S j).1.2.1 = 0 ∧ (fWr S j).2.2 = false)) : wrA S j = tld S (fWr S j).1 := by
  rw [wrA, if_neg h]; rfl
theorem wrA_yes {S : AS} {j : Nat} (h : (fWr S j).1.2.1 = 0 ∧ (fWr S j).2.2 = false) : wrA S j = stP (tld S (fWr S j).1) (fWr S j).2.1 := by
  rw [wrA, if_pos h]; rfl
theorem RR.stP {S : AS} {τ τ2 : St} {L : List Nat} (h : RR S τ) (hl : L.length ≤ 6000) (hb : ∀ b ∈ L, b < 256) (e : ars τ2 = ars τ) (e2 : gN τ2 2 = gN τ 2) (e3 : gN τ2 3 = gN τ 3) (e5 : gN τ2 5 = gN τ 5) (e6 : gN τ2 6 = gN τ 6) (eI : gI τ2 0 = gI τ 0) (h4 : gN τ2 4 = L.length) (hp : ∀ i, i < L.length → gA τ2 3 i = L.getD i 0) : RR (stP S L) τ2 := by
  obtain ⟨⟨o1, o2, o3, o4, o5, o6, o7⟩, r1, r2, r3, r4, r5, r6, r7, r8⟩ := h
  exact ⟨⟨o1, o2, o3, o4, hl, hb, o7⟩, r1.ofa e, e2.trans r2, e3.trans r3, h4, hp, eI.trans r6, e5.trans r7, e6.trans r8⟩
theorem fWr_mx (S : AS) (j : Nat) : mxD (fWr S j).1.1 ≤ botS S := runE_mx _ (by simp [mxD])
theorem fWr_lt {S : AS} (h : WA (yA S)) {j : Nat} (hj : j < aN (yA S)) : ∀ b ∈ (fWr S j).2.1, b < 256 := runE_lt _ (ev_lt h (j + 1) j 1 (by omega) hj) (fun b hb => by cases hb)
theorem fWr_G {S : AS} (h : WA (yA S)) (j : Nat) : runE (botS S) (evG (yA S) j 1) (([], 0, false), ([], false)) = fWr S j := evG_run h.eld (j + 1) j 1 (Nat.lt_succ_self _) _ ⟨by simp, fun z => by cases z⟩
theorem xW_bg (σ : St) : xW (sB (sN (sI (sN (sN (sN σ 7 0) 8 0) 9 0) 0 0) 10 0) 0 false) σ := ⟨rfl, rfl, rfl, rfl, rfl, rfl⟩
theorem RV_bg (σ : St) : RV id (([], 0, false) : List (Nat × Nat) × Int32 × Bool) (sB (sN (sI (sN (sN (sN σ 7 0) 8 0) 9 0) 0 0) 10 0) 0 false) := ⟨rfl, by simp, rfl, rfl, fun i q hq => by simp at hq⟩
theorem SHT_bg (σ : St) : SHT ([], false) (sB (sN (sI (sN (sN (sN σ 7 0) 8 0) 9 0) 0 0) 10 0) 0 false) := ⟨rfl, by simp, fun i hi => by simp at hi, rfl, fun z => by cases z⟩

set_option maxHeartbeats 4000000 in
set_option maxRecDepth 100000 in
theorem rf_write (l : Launch) (G : Gx) (a : Nat → Nat) (σ : St) {S : AS} (d : Int32) (h : RR S σ) : MM l G ⟨"NestedDeedsModel", "write", "(I)I"⟩ prog_14_method_36_code 6 (some .int) 2 50 [.ref (a 0), .int d] (rw G a σ) (PR G a (sp_write S d).2 (.int (sp_write S d).1)) := by
  refine MM.of (lv := [(0, .ref (a 0)), (1, .int d)]) (by decide +kernel) rfl (Nat.le_of_ble_eq_true rfl) ?_
  intro Z hRf hRl hl hG hn hk ht hA hQ X
  subst hG hl
  have X : XC Z "NestedDeedsModel" prog_14_method_36_code (some .int) := X
  have hk0 : zk Z ≤ (zR Z).cells := hk ▸ Nat.zero_le _
  have ht0 : zt Z ≤ (zR Z).slots := ht ▸ Nat.zero_le _
  have hW := h.1.1
  have hN := hW.1
  have hT := hW.2.1
  have hx := h.2.1
  obtain ⟨ix, hX⟩ := h.2.1
  obtain ⟨g0, g1, g2, g3⟩ := hX
  obtain ⟨o1, o2, o3, o4, o5, o6, o7, o8⟩ := h.1
  have e2 : gN σ 2 = yW S := h.2.2.1
  have e3 : gN σ 3 = yM S := h.2.2.2.1
  refine V.aload_n X 0 dX12_write_0 rfl rfl ?_
  refine V.iload_n X 1 dX12_write_1 rfl rfl ?_
  refine V.callV X rfl (r_isDeed (zl Z) (zG Z) a σ d (by omega)) cv_X12_104 rfl 0 rfl rfl (len hRf (by decide)) (len hRl (by decide)) hk0 ht0 [] rfl (Nat.le_of_ble_eq_true rfl) dX12_write_2 ?_
  rintro _ _ ⟨rfl, rfl⟩
  refine V.eqs (st' := [.int (bI (hasD (gN σ 0) d))]) rfl ?_
  refine V.if_neB X 13 dX12_write_5 (by decide) (fun c5 => ?_) (fun c5 => ?_)
  · rw [g0] at c5
    obtain ⟨d2, hd2, rfl⟩ := hasD_t (by omega) c5
    have hdn : dN (nI d2) = d2 := dN_nI (by omega)
    have hsp : sp_write S (nI d2) = (wrV (fWr S d2), wrA S d2) := by rw [sp_write, if_pos c5, hdn]; rfl
    have hwn := wrA_no (S := S) (j := d2)
    have hwy := wrA_yes (S := S) (j := d2)
    have hmx := fWr_mx S d2
    have hbt := fWr_lt hW hd2
    have hFd := fWr_G hW d2
    have hbs : botS S ≤ 1500 := by rw [h.hb]; split <;> omega
    have hb1 := h.1.bot
    have hbot := h.hb
    generalize fWr S d2 = F at *
    generalize wrA S d2 = S2 at *
    generalize hbv : botS S = bot at *
    have hE := hW.eld
    have hkd : ∀ p, p < aN (yA S) → aK (yA S) p < 12 := hW.2.2.1
    have LE : ∀ (τ : St) (g : Bool), xW τ σ → RV id F.1 τ → SHT F.2 τ → V Z (rw (zG Z) a τ) [(2, .int (bI g)), (0, .ref (a 0))] 179 [] := by
      intro τ g a1 a2 a3
      have e2 := a1.2.1
      have e3 := a1.2.2.1
      have e8 := a2.1
      have e9 := a2.2.2.1
      have eI := a2.2.2.2.1
      have ec : gN (rEnd τ) 6 = rCal σ (mxD F.1.1) := by show (if gN τ 2 = 0 then gN τ 9 else if gN τ 2 = 3 then min (gN τ 9) (gN τ 3) else 0) = _; rw [e2, e3, e9]; rfl
      have hRT : RR (tld S F.1) (rEnd τ) := h.told (π := id) (show xW (rEnd τ) σ from a1) a2.enf e8 ec (by rw [hbv]; exact hmx)
      have a31 := a3.1
      have a32 := a3.2.1
      have a33 := a3.2.2.1
      have a34 := a3.2.2.2.1
      have LC : ∀ (m i : Nat) (f : Nat → Nat), i + m = F.2.1.length → F.1.2.1 = 0 → F.2.2 = false → (∀ j, j < i → f j = F.2.1.getD j 0) → V Z (rw (zG Z) a (sA (rEnd τ) 3 f)) [(3, .int (nI i)), (2, .int (bI g)), (0, .ref (a 0))] 203 [] := by
        intro m
        induction m with
        | zero =>
          intro i f d1 dd2 d3 d4
          refine V.iload_n X 0 dX12_write_203 rfl rfl ?_
          refine V.aload_n X 2 dX12_write_204 rfl rfl ?_
          refine Vg_r_0_sheetSize (x := gN τ 10) X tw_855 dX12_write_205 rfl ?_
          refine V.icmp_geN X 229 dX12_write_208 (by decide) (by omega) (by omega) (fun c208 => ?_) (fun c208 => by exfalso; omega)
          refine V.aload_n X 2 dX12_write_229 rfl rfl ?_
          refine V.aload_n X 2 dX12_write_230 rfl rfl ?_
          refine Vg_r_0_sheetSize (x := gN τ 10) X tw_855 dX12_write_231 rfl ?_
          refine Vp_r_0_paperSize (x := gN τ 10) X tw_840 dX12_write_234 ?_
          refine V.aload_n X 2 dX12_write_237 rfl rfl ?_
          refine Vg_r_0_paperSize (x := gN τ 10) X tw_840 dX12_write_238 rfl ?_
          exact V.iret X rfl hA hk ht hQ rfl dX12_write_241 (⟨by rw [hsp]; show _ = some (Value.int (wrV F)); rw [wrV, if_pos dd2, if_neg (by rw [d3]; decide), a31], _, rfl, by rw [hsp]; show RR S2 _; rw [hwy ⟨dd2, d3⟩]; exact hRT.stP a32 hbt rfl rfl rfl rfl rfl rfl a31 (fun j hj => d4 j (by omega))⟩)
        | succ m ih =>
          intro i f d1 dd2 d3 d4
          refine V.iload_n X 0 dX12_write_203 rfl rfl ?_
          refine V.aload_n X 2 dX12_write_204 rfl rfl ?_
          refine Vg_r_0_sheetSize (x := gN τ 10) X tw_855 dX12_write_205 rfl ?_
          refine V.icmp_geN X 229 dX12_write_208 (by decide) (by omega) (by omega) (fun c208 => by exfalso; omega) (fun c208 => ?_)
          refine V.aload_n X 2 dX12_write_211 rfl rfl ?_
          refine Vg_r_0_paper X tw_839 dX12_write_212 ?_
          refine V.iload_n X 0 dX12_write_215 rfl rfl ?_
          refine V.aload_n X 2 dX12_write_216 rfl rfl ?_
          refine Vg_r_0_sheet X tw_854 dX12_write_217 ?_
          refine V.iload_n X 0 dX12_write_220 rfl rfl ?_
          refine Va_r_sheet (x := gA τ 8 i) X (by omega) dX12_write_221 rfl ?_
          refine Vs_r_paper (f := f) (i := i) (x := gA τ 8 i) X (by omega) dX12_write_222 rfl ?_
          refine V.iinc X (v := nI (i + 1)) (lv' := [(3, .int (nI (i + 1))), (2, .int (bI g)), (0, .ref (a 0))]) (k0 := 0) dX12_write_223 rfl (inc_1 _) (ltn hn (by decide)) rfl ?_
          refine V.goto X 203 dX12_write_226 (by decide) ?_
          refine V.eqw (ws' := rw (zG Z) a (sA (rEnd τ) 3 (va_up f i (gA τ 8 i)))) (by rw [sA_sA]) ?_
          refine V.sub [0, 1, 2] rfl (ih (i + 1) _ (by omega) dd2 d3 (fun j hj => ?_))
          by_cases z : j = i
          · subst z; rw [va_up_self, a33 _ (by omega)]
          · rw [va_up_ne _ _ z]; exact d4 j (by omega)
      refine V.aload_n X 1 dX12_write_179 rfl rfl ?_
      refine V.callV X rfl (r_ended (zl Z) (zG Z) a τ (by omega) (by omega) (by omega)) cv_X12_174 rfl 0 rfl rfl (len hRf (by decide)) (len hRl (by decide)) hk0 ht0 [] rfl (Nat.le_of_ble_eq_true rfl) dX12_write_180 ?_
      rintro _ _ ⟨rfl, rfl⟩
      refine V.eqs (st' := [.int (gI τ 0)]) rfl ?_
      refine V.if_eq X 191 dX12_write_183 (by decide) (fun c183 => ?_) (fun c183 => ?_)
      · refine V.aload_n X 1 dX12_write_191 rfl rfl ?_
        refine Vg_r_0_isOver (x := gB τ 0) X tw_856 dX12_write_192 rfl ?_
        refine V.if_eqB X 201 dX12_write_195 (by decide) (fun c195 => ?_) (fun c195 => ?_)
        · refine V.iconst X (v := nI 0) dX12_write_201 (by decide) ?_
          refine V.istore_n X (lv' := [(3, .int (nI 0)), (2, .int (bI g)), (0, .ref (a 0))]) dX12_write_202 rfl (ltn hn (by decide)) rfl ?_
          refine V.eqw (ws' := rw (zG Z) a (sA (rEnd τ) 3 (gA (rEnd τ) 3))) (by rw [sA_self]) ?_
          exact V.sub [0, 1, 2] rfl (LC _ 0 _ (Nat.zero_add _) (by rw [← eI]; exact c183) (by rw [← a34]; exact c195) (fun j hj => by omega))
        · refine V.bipush X (v := (-4)) dX12_write_198 (by decide) ?_
          exact V.iret X rfl hA hk ht hQ rfl dX12_write_200 (⟨by rw [hsp]; show _ = some (Value.int (wrV F)); rw [eI] at c183; rw [wrV, if_pos c183, if_pos (by rw [← a34]; exact c195)], _, rfl, by rw [hsp]; show RR S2 _; rw [hwn (fun z => by rw [a34, z.2] at c195; cases c195)]; exact hRT⟩)
      · refine V.aload_n X 1 dX12_write_186 rfl rfl ?_
        refine Vg_r_0_answer (x := gI τ 0) X tw_841 dX12_write_187 rfl ?_
        exact V.iret X rfl hA hk ht hQ rfl dX12_write_190 (⟨by rw [hsp]; show _ = some (Value.int (wrV F)); rw [eI] at c183 ⊢; rw [wrV, if_neg c183], _, rfl, by rw [hsp]; show RR S2 _; rw [hwn (fun z => c183 (by rw [eI]; exact z.1))]; exact hRT⟩)
    have LP : ∀ (m : Nat) (c : List (Nat × Nat)) (s : Es) (τ : St), 2 * (rst (aP (yA S)) id c).length + c.length ≤ m → WE (yA S) bot d2 F σ c s τ → V Z (rw (zG Z) a τ) [(2, .int (bI true)), (0, .ref (a 0))] 43 [] := by
      intro m
      induction m with
      | zero =>
        intro c s τ hm hI
        have hc : c = [] := List.length_eq_zero_iff.mp (by omega)
        subst hc
        obtain ⟨w1, w2, w3, w4, w5, w6, w7, w8, w9, w10⟩ := hI
        have w10 : s = F := w10
        subst w10
        have w2 : gN τ 7 = 0 := w2
        refine V.iload_n X 0 dX12_write_43 rfl rfl ?_
        refine V.if_eqB X 179 dX12_write_44 (by decide) (fun c44 => by exfalso; cases c44) (fun c44 => ?_)
        refine V.aload_n X 1 dX12_write_47 rfl rfl ?_
        refine Vg_r_0_depth (x := gN (τ) 7) X tw_846 dX12_write_48 rfl ?_
        refine V.if_leN X 179 dX12_write_51 (by decide) (by omega) (fun c51 => ?_) (fun c51 => by exfalso; omega)
        exact V.sub [0, 1] rfl (LE τ true w1 w5 w9)
      | succ m ih =>
        intro c s τ hm hI
        rcases c with _ | ⟨⟨x, t⟩, c⟩
        · obtain ⟨w1, w2, w3, w4, w5, w6, w7, w8, w9, w10⟩ := hI
          have w10 : s = F := w10
          subst w10
          have w2 : gN τ 7 = 0 := w2
          refine V.iload_n X 0 dX12_write_43 rfl rfl ?_
          refine V.if_eqB X 179 dX12_write_44 (by decide) (fun c44 => by exfalso; cases c44) (fun c44 => ?_)
          refine V.aload_n X 1 dX12_write_47 rfl rfl ?_
          refine Vg_r_0_depth (x := gN (τ) 7) X tw_846 dX12_write_48 rfl ?_
          refine V.if_leN X 179 dX12_write_51 (by decide) (by omega) (fun c51 => ?_) (fun c51 => by exfalso; omega)
          exact V.sub [0, 1] rfl (LE τ true w1 w5 w9)
        · have hI0 := hI
          obtain ⟨w1, w2, w3, w4, w5, w6, w7, w8, w9, w10⟩ := hI
          simp only [List.length_cons] at w2 hm
          have hxd : x ≤ d2 := w3.1.1
          have htt : t ≤ 4000 := w3.1.2
          have hd4 := w4.1
          simp only [id] at hd4
          have hxt : RRd (yA S) τ := hx.ofa w1.1
          have ew2 := w1.2.1
          have ew3 := w1.2.2.1
          have w94 := w9.2.2.2.1
          have hb4 : gA τ 5 (gN τ 7 - 1) = t := by rw [w2, Nat.add_sub_cancel]; exact w3.2.2.1
          have hp4 : gA τ 4 (gN τ 7 - 1) = x := by rw [w2, Nat.add_sub_cancel]; exact w3.2.1
          have hxA : x < aN (yA S) := by omega
          have hxl := tot_len hW hxA
          obtain ⟨f1, f2, f3, f4, f5, f6, f7⟩ := g2 x hxA
          have ek : gA τ 0 = gA σ 0 ∧ gA τ 1 = gA σ 1 ∧ gJ τ 0 = gJ σ 0 := by have := w1.1; simp only [ars, Prod.mk.injEq] at this; exact ⟨this.2.2.1, this.2.2.2.1, this.2.2.2.2.2.1⟩
          have em : gA τ 1 x = (aP (yA S) x).length := by rw [ek.2.1, f3]
          refine V.iload_n X 0 dX12_write_43 rfl rfl ?_
          refine V.if_eqB X 179 dX12_write_44 (by decide) (fun c44 => by exfalso; cases c44) (fun c44 => ?_)
          refine V.aload_n X 1 dX12_write_47 rfl rfl ?_
          refine Vg_r_0_depth (x := gN (τ) 7) X tw_846 dX12_write_48 rfl ?_
          refine V.if_leN X 179 dX12_write_51 (by decide) (by omega) (fun c51 => by exfalso; omega) (fun c51 => ?_)
          refine V.aload_n X 1 dX12_write_54 rfl rfl ?_
          refine Vg_r_0_isOver (x := gB (τ) 0) X tw_856 dX12_write_55 rfl ?_
          refine V.if_neB X 179 dX12_write_58 (by decide) (fun c58 => ?_) (fun c58 => ?_)
          · have hfu := runE_full (bot := bot) (rsG (yA S) ((x, t) :: c)) (s := s) (by rw [← w94]; exact c58) (w9.2.2.2.2 (by rw [← w94]; exact c58))
            rw [hfu] at w10
            exact V.sub [0, 1] rfl (LE τ true w1 (by rw [← w10]; exact w5) (by rw [← w10]; exact w9))
          · refine V.aload_n X 1 dX12_write_61 rfl rfl ?_
            refine Vg_r_0_pile X tw_849 dX12_write_62 ?_
            refine V.aload_n X 1 dX12_write_65 rfl rfl ?_
            refine Vg_r_0_depth (x := gN (τ) 7) X tw_846 dX12_write_66 rfl ?_
            refine V.iconst X (v := nI 1) dX12_write_69 (by decide) ?_
            refine V.isubN X dX12_write_70 (by omega) ?_
            refine Va_r_pile (x := gA (τ) 4 ((gN (τ) 7) - 1)) X (by omega) dX12_write_71 rfl ?_
            refine V.topi (y := nI x) (by rw [hp4]; try rfl) ?_
            refine V.istore_n X (lv' := [(3, .int (nI x)), (2, .int (bI true)), (0, .ref (a 0))]) dX12_write_72 rfl (ltn hn (by decide)) rfl ?_
            refine V.aload_n X 2 dX12_write_73 rfl rfl ?_
            refine Vg_r_0_begun X tw_851 dX12_write_74 ?_
            refine V.aload_n X 2 dX12_write_77 rfl rfl ?_
            refine Vg_r_0_depth (x := gN (τ) 7) X tw_846 dX12_write_78 rfl ?_
            refine V.iconst X (v := nI 1) dX12_write_81 (by decide) ?_
            refine V.isubN X dX12_write_82 (by omega) ?_
            refine Va_r_begun (x := gA (τ) 5 ((gN (τ) 7) - 1)) X (by omega) dX12_write_83 rfl ?_
            refine V.topi (y := nI t) (by rw [hb4]; try rfl) ?_
            refine V.istore X (lv' := [(4, .int (nI t)), (3, .int (nI x)), (2, .int (bI true)), (0, .ref (a 0))]) dX12_write_84 (ltn hn (by decide)) rfl ?_
            refine V.aload_n X 3 dX12_write_86 rfl rfl ?_
            refine V.iconst X (v := nI 0) dX12_write_87 (by decide) ?_
            refine V.eqs (st' := [.int (bI false), .ref (a 0)]) rfl ?_
            refine V.callV X rfl (r_nextFrom (zl Z) (zG Z) a τ (A := yA S) false x t hxt hW hxA (fun hz => by cases hz) (by omega) (by omega) hp4 hb4 (by omega)) cv_X12_170 rfl 0 rfl rfl (len hRf (by decide)) (len hRl (by decide)) hk0 ht0 [] rfl (Nat.le_of_ble_eq_true rfl) dX12_write_88 ?_
            rw [chf_f]
            rintro _ _ ⟨rfl, ⟨ho, rfl⟩ | ⟨⟨p, hp⟩, rfl⟩⟩
            · rw [ho]
              have hl : (aP (yA S) x).length ≤ t := List.getElem?_eq_none_iff.mp ho
              refine V.eqs (st' := [.int (-1)]) rfl ?_
              refine V.istore X (lv' := [(5, .int (-1)), (4, .int (nI t)), (3, .int (nI x)), (2, .int (bI true)), (0, .ref (a 0))]) dX12_write_91 (ltn hn (by decide)) rfl ?_
              refine V.iload X 0 dX12_write_93 rfl ?_
              refine V.iconst X (v := -1) dX12_write_95 (by decide) ?_
              refine V.icmp_ne X 127 dX12_write_96 (by decide) (fun c96 => by exfalso; exact c96 rfl) (fun c96 => ?_)
              refine V.aload_n X 4 dX12_write_99 rfl rfl ?_
              refine Vg_r_0_partMany X tw_831 dX12_write_100 ?_
              refine V.iload_n X 2 dX12_write_103 rfl rfl ?_
              refine Va_r_partMany (x := gA (τ) 1 x) X (by omega) dX12_write_104 rfl ?_
              refine V.topi (y := nI ((aP (yA S) x).length)) (by rw [em]; try rfl) ?_
              refine V.if_leN X 114 dX12_write_105 (by decide) (by omega) (fun c105 => ?_) (fun c105 => ?_)
              · refine V.aload_n X 4 dX12_write_114 rfl rfl ?_
                refine V.dup X dX12_write_115 rfl ?_
                refine Vg_r_0_depth (x := gN (τ) 7) X tw_846 dX12_write_116 rfl ?_
                refine V.iconst X (v := nI 1) dX12_write_119 (by decide) ?_
                refine V.isubN X dX12_write_120 (by omega) ?_
                refine Vp_r_0_depth (x := (gN (τ) 7) - 1) X tw_846 dX12_write_121 ?_
                refine V.goto X 176 dX12_write_124 (by decide) ?_
                refine V.goto X 43 dX12_write_176 (by decide) ?_
                have ecl : clB (yA S) x = [] := by rw [clB, if_neg (by omega)]
                exact V.sub [3, 4] rfl (ih c _ _ (by rw [rst_end hl] at hm; omega) (hI0.pop hl (xS.rf τ) (by rw [ecl, addB_nil w9.2.1]; exact w9)))
              · refine V.aload_n X 4 dX12_write_108 rfl rfl ?_
                refine V.bipush X (v := nI 41) dX12_write_109 (by decide) ?_
                refine V.callV X rfl (rr_put (zl Z) (zG Z) a 41 w9) cv_X12_202 rfl 0 rfl rfl (len hRf (by decide)) (len hRl (by decide)) hk0 ht0 [] rfl (Nat.le_of_ble_eq_true rfl) dX12_write_111 ?_
                rintro _ _ ⟨rfl, τ2, rfl, d1, d2x⟩
                refine V.eqs (st' := []) rfl ?_
                have n7x := d2x.1 7 (by decide)
                refine V.aload_n X 4 dX12_write_114 rfl rfl ?_
                refine V.dup X dX12_write_115 rfl ?_
                refine Vg_r_0_depth (x := gN (τ2) 7) X tw_846 dX12_write_116 rfl ?_
                refine V.iconst X (v := nI 1) dX12_write_119 (by decide) ?_
                refine V.isubN X dX12_write_120 (by omega) ?_
                refine Vp_r_0_depth (x := (gN (τ2) 7) - 1) X tw_846 dX12_write_121 ?_
                refine V.goto X 176 dX12_write_124 (by decide) ?_
                refine V.goto X 43 dX12_write_176 (by decide) ?_
                have ecl : clB (yA S) x = [41] := by rw [clB, if_pos (by omega)]
                exact V.sub [3, 4] rfl (ih c _ _ (by rw [rst_end hl] at hm; omega) (hI0.pop hl d2x (by rw [ecl]; exact d1)))
            · rw [hp]
              have hplt := hW.lt (List.mem_of_getElem? hp)
              have hpA : p < aN (yA S) := by omega
              obtain ⟨p1, p2, p3, p4, p5, p6, p7⟩ := g2 p hpA
              have w9b := w9.beg (va_up (gA τ 5) (gN τ 7 - 1) (t + 1))
              generalize hT1 : (sA τ 5 (va_up (gA τ 5) (gN τ 7 - 1) (t + 1))) = τ1 at w9b ⊢
              refine V.eqs (st' := [.int (nI p)]) rfl ?_
              refine V.istore X (lv' := [(5, .int (nI p)), (4, .int (nI t)), (3, .int (nI x)), (2, .int (bI true)), (0, .ref (a 0))]) dX12_write_91 (ltn hn (by decide)) rfl ?_
              refine V.iload X 0 dX12_write_93 rfl ?_
              refine V.iconst X (v := -1) dX12_write_95 (by decide) ?_
              refine V.icmp_ne X 127 dX12_write_96 (by decide) (fun c96 => ?_) (fun c96 => by exfalso; exact nI_nm1 (by omega) c96)
              refine V.aload_n X 4 dX12_write_127 rfl rfl ?_
              refine V.iload X 1 dX12_write_128 rfl ?_
              refine V.if_neN X 138 dX12_write_130 (by decide) (by omega) (fun c130 => ?_) (fun c130 => ?_)
              · refine V.bipush X (v := nI 44) dX12_write_138 (by decide) ?_
                refine V.callV X rfl (rr_put (zl Z) (zG Z) a 44 w9b) cv_X12_202 rfl 0 rfl rfl (len hRf (by decide)) (len hRl (by decide)) hk0 ht0 [] rfl (Nat.le_of_ble_eq_true rfl) dX12_write_140 ?_
                rintro _ _ ⟨rfl, τ2, rfl, d1, d2x⟩
                refine V.eqs (st' := []) rfl ?_
                have eop : opB t = [44] := by rw [opB, if_neg (by omega)]
                rw [← eop] at d1
                rw [← hT1] at d2x
                obtain ⟨s1, s2, s3, s4, s5, s6⟩ := hI0.step hW hd2 hbot hbs hp d2x d1
                have d14 := d1.2.2.2.1
                refine V.aload_n X 4 dX12_write_143 rfl rfl ?_
                refine Vg_r_0_isOver (x := gB (τ2) 0) X tw_856 dX12_write_144 rfl ?_
                refine V.if_neB X 164 dX12_write_147 (by decide) (fun c147 => ?_) (fun c147 => ?_)
                · refine V.iconst X (v := nI 0) dX12_write_164 (by decide) ?_
                  refine V.topi (y := bI false) rfl ?_
                  refine V.istore_n X (lv' := [(2, .int (bI false)), (5, .int (nI p)), (4, .int (nI t)), (3, .int (nI x)), (0, .ref (a 0))]) dX12_write_165 rfl (ltn hn (by decide)) rfl ?_
                  refine V.iload_n X 0 dX12_write_166 rfl rfl ?_
                  refine V.if_eqB X 176 dX12_write_167 (by decide) (fun c167 => ?_) (fun c167 => by exfalso; cases c167)
                  refine V.goto X 43 dX12_write_176 (by decide) ?_
                  refine V.iload_n X 0 dX12_write_43 rfl rfl ?_
                  refine V.if_eqB X 179 dX12_write_44 (by decide) (fun c44 => ?_) (fun c44 => by exfalso; cases c44)
                  obtain ⟨q1, q2, q3, q4⟩ := s5 (by rw [← d14]; exact c147)
                  exact V.sub [0, 4] rfl (LE _ false s1 q1 q2)
                · refine V.aload_n X 4 dX12_write_150 rfl rfl ?_
                  refine V.iload X 0 dX12_write_151 rfl ?_
                  refine V.iconst X (v := -1) dX12_write_153 (by decide) ?_
                  refine V.topi (y := oI none) rfl ?_
                  refine V.callV X rfl (r_visit (zl Z) (zG Z) a τ2 p none (by omega) s3 (by omega) (by have := s1.2.2.1; omega) (by have := s1.2.1; omega)) cv_X12_166 rfl 0 rfl rfl (len hRf (by decide)) (len hRl (by decide)) hk0 ht0 [] rfl (Nat.le_of_ble_eq_true rfl) dX12_write_154 ?_
                  rintro _ _ ⟨b, rfl, ⟨z1, rfl, rfl⟩ | ⟨z1, z2, rfl, rfl⟩ | ⟨z1, z2, rfl, rfl⟩⟩
                  · have uu := (s6 (by rw [← d14]; exact c147)).1 z1
                    have hxx : xW (sI τ2 0 (-5)) σ := (xW_halt _ _).tr s1
                    generalize (sI τ2 0 (-5)) = τ3 at uu hxx ⊢
                    refine V.eqs (st' := [.int (bI false)]) rfl ?_
                    refine V.if_eqB X 164 dX12_write_157 (by decide) (fun c157 => ?_) (fun c157 => by exfalso; cases c157)
                    refine V.iconst X (v := nI 0) dX12_write_164 (by decide) ?_
                    refine V.topi (y := bI false) rfl ?_
                    refine V.istore_n X (lv' := [(2, .int (bI false)), (5, .int (nI p)), (4, .int (nI t)), (3, .int (nI x)), (0, .ref (a 0))]) dX12_write_165 rfl (ltn hn (by decide)) rfl ?_
                    refine V.iload_n X 0 dX12_write_166 rfl rfl ?_
                    refine V.if_eqB X 176 dX12_write_167 (by decide) (fun c167 => ?_) (fun c167 => by exfalso; cases c167)
                    refine V.goto X 43 dX12_write_176 (by decide) ?_
                    refine V.iload_n X 0 dX12_write_43 rfl rfl ?_
                    refine V.if_eqB X 179 dX12_write_44 (by decide) (fun c44 => ?_) (fun c44 => by exfalso; cases c44)
                    exact V.sub [0, 4] rfl (LE _ false hxx uu.1 uu.2.1)
                  · have uu := (s6 (by rw [← d14]; exact c147)).2.1 z1 z2
                    have hxx : xW (sI τ2 0 (-6)) σ := (xW_halt _ _).tr s1
                    generalize (sI τ2 0 (-6)) = τ3 at uu hxx ⊢
                    refine V.eqs (st' := [.int (bI false)]) rfl ?_
                    refine V.if_eqB X 164 dX12_write_157 (by decide) (fun c157 => ?_) (fun c157 => by exfalso; cases c157)
                    refine V.iconst X (v := nI 0) dX12_write_164 (by decide) ?_
                    refine V.topi (y := bI false) rfl ?_
                    refine V.istore_n X (lv' := [(2, .int (bI false)), (5, .int (nI p)), (4, .int (nI t)), (3, .int (nI x)), (0, .ref (a 0))]) dX12_write_165 rfl (ltn hn (by decide)) rfl ?_
                    refine V.iload_n X 0 dX12_write_166 rfl rfl ?_
                    refine V.if_eqB X 176 dX12_write_167 (by decide) (fun c167 => ?_) (fun c167 => by exfalso; cases c167)
                    refine V.goto X 43 dX12_write_176 (by decide) ?_
                    refine V.iload_n X 0 dX12_write_43 rfl rfl ?_
                    refine V.if_eqB X 179 dX12_write_44 (by decide) (fun c44 => ?_) (fun c44 => by exfalso; cases c44)
                    exact V.sub [0, 4] rfl (LE _ false hxx uu.1 uu.2.1)
                  · have uu := (s6 (by rw [← d14]; exact c147)).2.2 z1 z2
                    have n0 : gA (rVU τ2 p none) 0 p = aK (yA S) p := by show gA τ2 0 p = _; rw [d2x.2.1 0 (by decide)]; show gA τ 0 p = _; rw [ek.1, p1]
                    have nJ : gJ (rVU τ2 p none) 0 p = aV (yA S) p := by show gJ τ2 0 p = _; rw [d2x.2.2.2.1]; show gJ τ 0 p = _; rw [ek.2.2, p2]
                    have nS := d1.vis p none
                    generalize (rVU τ2 p none) = τ3 at uu n0 nJ nS ⊢
                    refine V.eqs (st' := [.int (bI true)]) rfl ?_
                    refine V.if_eqB X 164 dX12_write_157 (by decide) (fun c157 => by exfalso; cases c157) (fun c157 => ?_)
                    refine V.iconst X (v := nI 1) dX12_write_160 (by decide) ?_
                    refine V.goto X 165 dX12_write_161 (by decide) ?_
                    refine V.topi (y := bI true) rfl ?_
                    refine V.istore_n X (lv' := [(2, .int (bI true)), (5, .int (nI p)), (4, .int (nI t)), (3, .int (nI x)), (0, .ref (a 0))]) dX12_write_165 rfl (ltn hn (by decide)) rfl ?_
                    refine V.iload_n X 0 dX12_write_166 rfl rfl ?_
                    refine V.if_eqB X 176 dX12_write_167 (by decide) (fun c167 => by exfalso; cases c167) (fun c167 => ?_)
                    refine V.aload_n X 4 dX12_write_170 rfl rfl ?_
                    refine V.iload X 1 dX12_write_171 rfl ?_
                    refine V.callV X rfl (r_putDeed (zl Z) (zG Z) a τ3 p (aK (yA S) p) (aV (yA S) p) (by omega) n0 (hkd p hpA) nJ nS) cv_X12_209 rfl 0 rfl rfl (len hRf (by decide)) (len hRl (by decide)) hk0 ht0 [] rfl (Nat.le_of_ble_eq_true rfl) dX12_write_173 ?_
                    rintro _ _ ⟨rfl, τ4, rfl, e1, e4⟩
                    refine V.eqs (st' := []) rfl ?_
                    refine V.goto X 43 dX12_write_176 (by decide) ?_
                    obtain ⟨v1, v2⟩ := uu τ4 e4 e1
                    exact V.sub [0, 4] rfl (ih _ _ _ (by simp only [List.length_cons]; omega) v1)
              · refine V.bipush X (v := nI 40) dX12_write_133 (by decide) ?_
                refine V.goto X 140 dX12_write_135 (by decide) ?_
                refine V.callV X rfl (rr_put (zl Z) (zG Z) a 40 w9b) cv_X12_202 rfl 0 rfl rfl (len hRf (by decide)) (len hRl (by decide)) hk0 ht0 [] rfl (Nat.le_of_ble_eq_true rfl) dX12_write_140 ?_
                rintro _ _ ⟨rfl, τ2, rfl, d1, d2x⟩
                refine V.eqs (st' := []) rfl ?_
                have eop : opB t = [40] := by rw [opB, if_pos (by omega)]
                rw [← eop] at d1
                rw [← hT1] at d2x
                obtain ⟨s1, s2, s3, s4, s5, s6⟩ := hI0.step hW hd2 hbot hbs hp d2x d1
                have d14 := d1.2.2.2.1
                refine V.aload_n X 4 dX12_write_143 rfl rfl ?_
                refine Vg_r_0_isOver (x := gB (τ2) 0) X tw_856 dX12_write_144 rfl ?_
                refine V.if_neB X 164 dX12_write_147 (by decide) (fun c147 => ?_) (fun c147 => ?_)
                · refine V.iconst X (v := nI 0) dX12_write_164 (by decide) ?_
                  refine V.topi (y := bI false) rfl ?_
                  refine V.istore_n X (lv' := [(2, .int (bI false)), (5, .int (nI p)), (4, .int (nI t)), (3, .int (nI x)), (0, .ref (a 0))]) dX12_write_165 rfl (ltn hn (by decide)) rfl ?_
                  refine V.iload_n X 0 dX12_write_166 rfl rfl ?_
                  refine V.if_eqB X 176 dX12_write_167 (by decide) (fun c167 => ?_) (fun c167 => by exfalso; cases c167)
                  refine V.goto X 43 dX12_write_176 (by decide) ?_
                  refine V.iload_n X 0 dX12_write_43 rfl rfl ?_
                  refine V.if_eqB X 179 dX12_write_44 (by decide) (fun c44 => ?_) (fun c44 => by exfalso; cases c44)
                  obtain ⟨q1, q2, q3, q4⟩ := s5 (by rw [← d14]; exact c147)
                  exact V.sub [0, 4] rfl (LE _ false s1 q1 q2)
                · refine V.aload_n X 4 dX12_write_150 rfl rfl ?_
                  refine V.iload X 0 dX12_write_151 rfl ?_
                  refine V.iconst X (v := -1) dX12_write_153 (by decide) ?_
                  refine V.topi (y := oI none) rfl ?_
                  refine V.callV X rfl (r_visit (zl Z) (zG Z) a τ2 p none (by omega) s3 (by omega) (by have := s1.2.2.1; omega) (by have := s1.2.1; omega)) cv_X12_166 rfl 0 rfl rfl (len hRf (by decide)) (len hRl (by decide)) hk0 ht0 [] rfl (Nat.le_of_ble_eq_true rfl) dX12_write_154 ?_
                  rintro _ _ ⟨b, rfl, ⟨z1, rfl, rfl⟩ | ⟨z1, z2, rfl, rfl⟩ | ⟨z1, z2, rfl, rfl⟩⟩
                  · have uu := (s6 (by rw [← d14]; exact c147)).1 z1
                    have hxx : xW (sI τ2 0 (-5)) σ := (xW_halt _ _).tr s1
                    generalize (sI τ2 0 (-5)) = τ3 at uu hxx ⊢
                    refine V.eqs (st' := [.int (bI false)]) rfl ?_
                    refine V.if_eqB X 164 dX12_write_157 (by decide) (fun c157 => ?_) (fun c157 => by exfalso; cases c157)
                    refine V.iconst X (v := nI 0) dX12_write_164 (by decide) ?_
                    refine V.topi (y := bI false) rfl ?_
                    refine V.istore_n X (lv' := [(2, .int (bI false)), (5, .int (nI p)), (4, .int (nI t)), (3, .int (nI x)), (0, .ref (a 0))]) dX12_write_165 rfl (ltn hn (by decide)) rfl ?_
                    refine V.iload_n X 0 dX12_write_166 rfl rfl ?_
                    refine V.if_eqB X 176 dX12_write_167 (by decide) (fun c167 => ?_) (fun c167 => by exfalso; cases c167)
                    refine V.goto X 43 dX12_write_176 (by decide) ?_
                    refine V.iload_n X 0 dX12_write_43 rfl rfl ?_
                    refine V.if_eqB X 179 dX12_write_44 (by decide) (fun c44 => ?_) (fun c44 => by exfalso; cases c44)
                    exact V.sub [0, 4] rfl (LE _ false hxx uu.1 uu.2.1)
                  · have uu := (s6 (by rw [← d14]; exact c147)).2.1 z1 z2
                    have hxx : xW (sI τ2 0 (-6)) σ := (xW_halt _ _).tr s1
                    generalize (sI τ2 0 (-6)) = τ3 at uu hxx ⊢
                    refine V.eqs (st' := [.int (bI false)]) rfl ?_
                    refine V.if_eqB X 164 dX12_write_157 (by decide) (fun c157 => ?_) (fun c157 => by exfalso; cases c157)
                    refine V.iconst X (v := nI 0) dX12_write_164 (by decide) ?_
                    refine V.topi (y := bI false) rfl ?_
                    refine V.istore_n X (lv' := [(2, .int (bI false)), (5, .int (nI p)), (4, .int (nI t)), (3, .int (nI x)), (0, .ref (a 0))]) dX12_write_165 rfl (ltn hn (by decide)) rfl ?_
                    refine V.iload_n X 0 dX12_write_166 rfl rfl ?_
                    refine V.if_eqB X 176 dX12_write_167 (by decide) (fun c167 => ?_) (fun c167 => by exfalso; cases c167)
                    refine V.goto X 43 dX12_write_176 (by decide) ?_
                    refine V.iload_n X 0 dX12_write_43 rfl rfl ?_
                    refine V.if_eqB X 179 dX12_write_44 (by decide) (fun c44 => ?_) (fun c44 => by exfalso; cases c44)
                    exact V.sub [0, 4] rfl (LE _ false hxx uu.1 uu.2.1)
                  · have uu := (s6 (by rw [← d14]; exact c147)).2.2 z1 z2
                    have n0 : gA (rVU τ2 p none) 0 p = aK (yA S) p := by show gA τ2 0 p = _; rw [d2x.2.1 0 (by decide)]; show gA τ 0 p = _; rw [ek.1, p1]
                    have nJ : gJ (rVU τ2 p none) 0 p = aV (yA S) p := by show gJ τ2 0 p = _; rw [d2x.2.2.2.1]; show gJ τ 0 p = _; rw [ek.2.2, p2]
                    have nS := d1.vis p none
                    generalize (rVU τ2 p none) = τ3 at uu n0 nJ nS ⊢
                    refine V.eqs (st' := [.int (bI true)]) rfl ?_
                    refine V.if_eqB X 164 dX12_write_157 (by decide) (fun c157 => by exfalso; cases c157) (fun c157 => ?_)
                    refine V.iconst X (v := nI 1) dX12_write_160 (by decide) ?_
                    refine V.goto X 165 dX12_write_161 (by decide) ?_
                    refine V.topi (y := bI true) rfl ?_
                    refine V.istore_n X (lv' := [(2, .int (bI true)), (5, .int (nI p)), (4, .int (nI t)), (3, .int (nI x)), (0, .ref (a 0))]) dX12_write_165 rfl (ltn hn (by decide)) rfl ?_
                    refine V.iload_n X 0 dX12_write_166 rfl rfl ?_
                    refine V.if_eqB X 176 dX12_write_167 (by decide) (fun c167 => by exfalso; cases c167) (fun c167 => ?_)
                    refine V.aload_n X 4 dX12_write_170 rfl rfl ?_
                    refine V.iload X 1 dX12_write_171 rfl ?_
                    refine V.callV X rfl (r_putDeed (zl Z) (zG Z) a τ3 p (aK (yA S) p) (aV (yA S) p) (by omega) n0 (hkd p hpA) nJ nS) cv_X12_209 rfl 0 rfl rfl (len hRf (by decide)) (len hRl (by decide)) hk0 ht0 [] rfl (Nat.le_of_ble_eq_true rfl) dX12_write_173 ?_
                    rintro _ _ ⟨rfl, τ4, rfl, e1, e4⟩
                    refine V.eqs (st' := []) rfl ?_
                    refine V.goto X 43 dX12_write_176 (by decide) ?_
                    obtain ⟨v1, v2⟩ := uu τ4 e4 e1
                    exact V.sub [0, 4] rfl (ih _ _ _ (by simp only [List.length_cons]; omega) v1)
    refine V.aload_n X 0 dX12_write_13 rfl rfl ?_
    refine V.callV X rfl (r_begin (zl Z) (zG Z) a σ) cv_X12_163 rfl 0 rfl rfl (len hRf (by decide)) (len hRl (by decide)) hk0 ht0 [] rfl (Nat.le_of_ble_eq_true rfl) dX12_write_14 ?_
    rintro _ _ ⟨rfl, rfl⟩
    refine V.eqs (st' := []) rfl ?_
    refine V.aload_n X 0 dX12_write_17 rfl rfl ?_
    refine V.iconst X (v := nI 0) dX12_write_18 (by decide) ?_
    refine Vp_r_0_sheetSize (x := 0) X tw_855 dX12_write_19 ?_
    refine V.aload_n X 0 dX12_write_22 rfl rfl ?_
    refine V.iconst X (v := nI 0) dX12_write_23 (by decide) ?_
    refine V.topi (y := bI false) rfl ?_
    refine Vp_r_0_isOver (x := false) X tw_856 dX12_write_24 ?_
    refine V.aload_n X 0 dX12_write_27 rfl rfl ?_
    refine V.iload_n X 1 dX12_write_28 rfl rfl ?_
    refine V.iconst X (v := -1) dX12_write_29 (by decide) ?_
    have q1 := xW_bg σ
    have q2 := RV_bg σ
    have q3 := SHT_bg σ
    have q7 : gN (sB (sN (sI (sN (sN (sN σ 7 0) 8 0) 9 0) 0 0) 10 0) 0 false) 7 = 0 := rfl
    have q8 : gN (sB (sN (sI (sN (sN (sN σ 7 0) 8 0) 9 0) 0 0) 10 0) 0 false) 8 = 0 := rfl
    have q9 : gN (sB (sN (sI (sN (sN (sN σ 7 0) 8 0) 9 0) 0 0) 10 0) 0 false) 9 = 0 := rfl
    generalize (sB (sN (sI (sN (sN (sN σ 7 0) 8 0) 9 0) 0 0) 10 0) 0 false) = τ0 at q1 q2 q3 q7 q8 q9 ⊢
    refine V.topi (y := oI none) rfl ?_
    refine V.callV X rfl (r_visit (zl Z) (zG Z) a τ0 d2 none (by omega) (by omega) (by omega) (by have := q1.2.2.1; omega) (by have := q1.2.1; omega)) cv_X12_166 rfl 0 rfl rfl (len hRf (by decide)) (len hRl (by decide)) hk0 ht0 [] rfl (Nat.le_of_ble_eq_true rfl) dX12_write_30 ?_
    rintro _ _ ⟨b, rfl, ⟨z1, rfl, rfl⟩ | ⟨z1, z2, rfl, rfl⟩ | ⟨z1, z2, rfl, rfl⟩⟩
    · omega
    · have := q1.2.2.1; omega
    · have hR1 : RV id (([(d2, 1)], 0, false) : List (Nat × Nat) × Int32 × Bool) (rVU τ0 d2 none) := q2.vis (n := 0) q7 (by simp) d2 none false
      have hxx : xW (rVU τ0 d2 none) σ := (xW_vis _ _ _).tr q1
      have nS := q3.vis d2 none
      have n7 : gN (rVU τ0 d2 none) 7 = 0 + 1 := by show gN τ0 7 + 1 = _; rw [q7]
      have hFr : FRs id (fun _ => none) (uW d2) [(d2, 0)] (rVU τ0 d2 none) := FRs.vis (c := []) (p := d2) trivial q7 ⟨Nat.le_refl d2, Nat.zero_le _⟩
      obtain ⟨f1, f2, f3, f4, f5, f6, f7⟩ := g2 d2 hd2
      have ek : gA (rVU τ0 d2 none) 0 = gA σ 0 ∧ gJ (rVU τ0 d2 none) 0 = gJ σ 0 := by have := hxx.1; simp only [ars, Prod.mk.injEq] at this; exact ⟨this.2.2.1, this.2.2.2.2.2.1⟩
      generalize (rVU τ0 d2 none) = τ1 at hR1 hxx nS n7 hFr ek ⊢
      refine V.eqs (st' := [.int (bI true)]) rfl ?_
      refine V.istore_n X (lv' := [(2, .int (bI true)), (0, .ref (a 0)), (1, .int (nI d2))]) dX12_write_33 rfl (ltn hn (by decide)) rfl ?_
      refine V.iload_n X 0 dX12_write_34 rfl rfl ?_
      refine V.if_eqB X 43 dX12_write_35 (by decide) (fun c35 => by exfalso; cases c35) (fun c35 => ?_)
      refine V.aload_n X 1 dX12_write_38 rfl rfl ?_
      refine V.iload_n X 2 dX12_write_39 rfl rfl ?_
      refine V.callV X rfl (r_putDeed (zl Z) (zG Z) a τ1 d2 (aK (yA S) d2) (aV (yA S) d2) (by omega) (by rw [ek.1, f1]) (hkd d2 hd2) (by rw [ek.2, f2]) nS) cv_X12_209 rfl 0 rfl rfl (len hRf (by decide)) (len hRl (by decide)) hk0 ht0 [] rfl (Nat.le_of_ble_eq_true rfl) dX12_write_40 ?_
      rintro _ _ ⟨rfl, τ4, rfl, e1, e4⟩
      refine V.eqs (st' := []) rfl ?_
      refine V.sub [0, 1] rfl (LP _ [(d2, 0)] (([(d2, 1)], 0, false), addB ([], false) (hdC (yA S) d2)) τ4 (Nat.le_refl _) ⟨(xS_xW e4).tr hxx, (e4.1 7 (by decide)).trans n7, hFr.xs e4, ⟨by simp, trivial⟩, hR1.xs e4, rfl, rfl, by simp [mxD]; exact hb1, e1, ?_⟩)
      rw [← hFd, evG_eq hE, runE_cons, runE_cons]
      have e0 : stE bot (([], 0, false), ([], false)) (.inl (d2, 1)) = (([(d2, 1)], 0, false), ([], false)) := by simp only [stE, stp]; rw [if_neg (by simp), if_neg (by simp), if_neg (by simp), if_neg (by show ¬ bot < 1; omega)]; rfl
      rw [e0, stE_r, if_neg (by simp), rsG, rsG, List.append_nil]; rfl
  · refine V.aload_n X 0 dX12_write_8 rfl rfl ?_
    refine V.callV X rfl (r_bad (zl Z) (zG Z) a σ) cv_X12_182 rfl 0 rfl rfl (len hRf (by decide)) (len hRl (by decide)) hk0 ht0 [] rfl (Nat.le_of_ble_eq_true rfl) dX12_write_9 ?_
    rintro _ _ ⟨rfl, rfl⟩
    refine V.eqs (st' := [.int (-2)]) rfl ?_
    exact V.iret X rfl hA hk ht hQ rfl dX12_write_12 (⟨by rw [sp_write, if_neg (fun z => by rw [g0, z] at c5; cases c5)], _, rfl, by rw [sp_write, if_neg (fun z => by rw [g0, z] at c5; cases c5)]; exact h.bad⟩)

