theorem rp_now (l : Launch) (G : Gx) (a : Nat → Nat) {P : List Nat} {τ : St} (hP : PTr P τ) {i : Nat} (hi : gN τ 12 = i) (h12 : i < 2 ^ 31) : MM l G ⟨"NestedDeedsModel", "now", "()I"⟩ prog_14_method_49_code 1 (some .int) 0 0 [.ref (a 0)] (rw G a τ) (fun rv w => rv = some (.int (oI (P[i]?))) ∧ w = rw G a τ) :=
  (r_now l G a τ (by rw [hP.1]; exact hP.2.2.1) (by rw [hi]; exact h12)).mono (fun rv w hp => ⟨by rw [hp.1, hP.at, hi], hp.2⟩)
def PFg (G : Gx) (a : Nat → Nat) (σ : St) (P : List Nat) (i : Nat) (rv : Option Value) (w : va_W) : Prop := ∃ (v : Int32) (τ : St), rv = some (.int v) ∧ w = rw G a τ ∧ xR τ σ ∧ (fBd P i = true → gO τ 0 = some (pNe P i)) ∧ (fBd P i = false → gO τ 0 = gO σ 0 ∧ gN τ 12 = pNe P i ∧ v = pNv P i)

set_option maxHeartbeats 4000000 in
set_option maxRecDepth 100000 in
theorem r_isFigure (l : Launch) (G : Gx) (a : Nat → Nat) (σ : St) {P : List Nat} {i : Nat} (hP : PTr P σ) (hi : gN σ 12 = i) (h12 : i < 2 ^ 31) : MM l G ⟨"NestedDeedsModel", "isFigure", "()Z"⟩ prog_14_method_50_code 1 (some .boolean) 1 22 [.ref (a 0)] (rw G a σ) (fun rv w => rv = some (.int (bI (isFg P[i]?))) ∧ w = rw G a σ) := by
  refine MM.of (lv := [(0, .ref (a 0))]) (by decide +kernel) rfl (Nat.le_of_ble_eq_true rfl) ?_
  intro Z hRf hRl hl hG hn hk ht hA hQ X
  subst hG hl
  have X : XC Z "NestedDeedsModel" prog_14_method_50_code (some .boolean) := X
  have hk0 : zk Z ≤ (zR Z).cells := hk ▸ Nat.zero_le _
  have ht0 : zt Z ≤ (zR Z).slots := ht ▸ Nat.zero_le _
  refine V.aload_n X 0 dX12_isFigure_0 rfl rfl ?_
  refine V.callV X rfl (rp_now (zl Z) (zG Z) a (τ := σ) hP (i := i) hi (by omega)) cv_X12_239 rfl 0 rfl rfl (len hRf (by decide)) (len hRl (by decide)) hk0 ht0 [] rfl (Nat.le_of_ble_eq_true rfl) dX12_isFigure_1 ?_
  rintro _ _ ⟨rfl, rfl⟩
  refine V.eqs (st' := [.int (oI (P[i]?))]) rfl ?_
  refine V.bipush X (v := nI 48) dX12_isFigure_4 (by decide) ?_
  refine V.bipush X (v := nI 57) dX12_isFigure_6 (by decide) ?_
  refine V.callS X rfl (k_in (zl Z) (zG Z) (rw (zG Z) a σ) (oI (P[i]?)) (nI 48) (nI 57)) cs_X12_93 rfl (len hRf (by decide)) (len hRl (by decide)) hk0 ht0 [] rfl (Nat.le_of_ble_eq_true rfl) dX12_isFigure_8 ?_
  rintro _ _ ⟨rfl, rfl⟩
  refine V.eqs (st' := [.int (bI (inR (oI (P[i]?)) (nI 48) (nI 57)))]) rfl ?_
  exact V.zret X rfl hA hk ht hQ rfl (bI_01 _) dX12_isFigure_11 (⟨by rw [inR_fg (hP.b i)], rfl⟩)

set_option maxHeartbeats 4000000 in
set_option maxRecDepth 100000 in
theorem r_figures (l : Launch) (G : Gx) (a : Nat → Nat) (σ : St) {P : List Nat} {i : Nat} (hP : PTr P σ) (hi : gN σ 12 = i) (h12 : i ≤ 6001) : MM l G ⟨"NestedDeedsModel", "figures", "()I"⟩ prog_14_method_51_code 6 (some .int) 2 42 [.ref (a 0)] (rw G a σ) (PFg G a σ P i) := by
  refine MM.of (lv := [(0, .ref (a 0))]) (by decide +kernel) rfl (Nat.le_of_ble_eq_true rfl) ?_
  intro Z hRf hRl hl hG hn hk ht hA hQ X
  subst hG hl
  have X : XC Z "NestedDeedsModel" prog_14_method_51_code (some .int) := X
  have hk0 : zk Z ≤ (zR Z).cells := hk ▸ Nat.zero_le _
  have ht0 : zt Z ≤ (zR Z).slots := ht ▸ Nat.zero_le _
  have hl6 := hP.2.2.1
  have hJ : pJ P i ≤ i + 1 := by simp only [pJ]; split <;> omega
  have L54 : ∀ (τ : St), gN τ 12 = pJ P i → xR τ σ → ¬ (isFg P[pJ P i]? = true ∧ ¬ (pMi P i = true ∧ P[pJ P i]? = some 48)) → V Z (rw (zG Z) a τ) [(2, .int (bI (pMi P i))), (1, .int (nI i)), (0, .ref (a 0))] 54 [] := by
    intro τ d1 d2 d3
    refine V.aload_n X 2 dX12_figures_54 rfl rfl ?_
    refine V.aload_n X 2 dX12_figures_55 rfl rfl ?_
    refine Vg_r_0_place (x := gN (τ) 12) X tw_867 dX12_figures_56 rfl ?_
    refine V.topi (y := nI (pJ P i)) (by rw [d1]) ?_
    refine V.topi (y := oI (some (pJ P i))) rfl ?_
    refine Vp_r_0_wrong (x := some (pJ P i)) X tw_868 dX12_figures_59 ?_
    refine V.iconst X (v := nI 0) dX12_figures_62 (by decide) ?_
    exact V.iret X rfl hA hk ht hQ rfl dX12_figures_63 (⟨_, _, rfl, rfl, (xR_O _ _).tr d2, fun _ => by rw [(fg_1 d3).2]; rfl, fun z => by rw [(fg_1 d3).1] at z; cases z⟩)
  have L188 : ∀ (τ : St) (vv nn : Nat), xR τ σ → fBd P i = true ∧ pNe P i = i → V Z (rw (zG Z) a τ) [(3, .long (sgL (pMi P i) vv)), (5, .int (nI nn)), (2, .int (bI (pMi P i))), (1, .int (nI i)), (0, .ref (a 0))] 188 [] := by
    intro τ vv nn d1 d2
    refine V.aload_n X 4 dX12_figures_188 rfl rfl ?_
    refine V.iload_n X 3 dX12_figures_189 rfl rfl ?_
    refine V.topi (y := oI (some i)) rfl ?_
    refine Vp_r_0_wrong (x := some i) X tw_868 dX12_figures_190 ?_
    refine V.lload_n X 0 dX12_figures_193 rfl rfl ?_
    refine V.l2i X dX12_figures_194 rfl ?_
    exact V.iret X rfl hA hk ht hQ rfl dX12_figures_195 (⟨_, _, rfl, rfl, (xR_O _ _).tr d1, fun _ => by rw [d2.2]; rfl, fun z => by rw [d2.1] at z; cases z⟩)
  have L162 : ∀ (τ : St) (vv : Nat), vv = dv P (pJ P i) (min (pfN P 6001 (pJ P i)) 11) → isFg P[pJ P i]? = true ∧ ¬ (pMi P i = true ∧ P[pJ P i]? = some 48) → ¬ P[pJ P i]? = some 48 → gN τ 12 = pJ P i + pfN P 6001 (pJ P i) → xR τ σ → gO τ 0 = gO σ 0 → V Z (rw (zG Z) a τ) [(5, .int (nI (pfN P 6001 (pJ P i)))), (3, .long (lN vv)), (2, .int (bI (pMi P i))), (1, .int (nI i)), (0, .ref (a 0))] 162 [] := by
    intro τ vv d0 d1 d2 d3 d4 d5
    have fg := fg_4 hl6 d1 d2 d0
    have hNl := pfN_le P 6001 (pJ P i)
    refine V.iload_n X 2 dX12_figures_162 rfl rfl ?_
    refine V.if_eqB X 171 dX12_figures_163 (by decide) (fun c163 => ?_) (fun c163 => ?_)
    · refine V.lload_n X 1 dX12_figures_171 rfl rfl ?_
      refine V.topl (y := sgL (pMi P i) vv) (by rw [sgL, if_neg (by rw [c163]; decide)]) ?_
      refine V.lstore_n X (lv' := [(3, .long (sgL (pMi P i) vv)), (5, .int (nI (pfN P 6001 (pJ P i)))), (2, .int (bI (pMi P i))), (1, .int (nI i)), (0, .ref (a 0))]) dX12_figures_172 rfl (ltn hn (by decide)) rfl ?_
      refine V.iload X 1 dX12_figures_173 rfl ?_
      refine V.bipush X (v := nI 10) dX12_figures_175 (by decide) ?_
      refine V.icmp_gtN X 188 dX12_figures_177 (by decide) (by omega) (by decide) (fun c177 => ?_) (fun c177 => ?_)
      · exact V.sub [0, 1, 2, 3, 4] rfl (L188 τ vv _ d4 (fg.2 (Or.inl c177)))
      · refine V.lload_n X 0 dX12_figures_180 rfl rfl ?_
        refine V.lload_n X 0 dX12_figures_181 rfl rfl ?_
        refine V.l2i X dX12_figures_182 rfl ?_
        refine V.i2l X dX12_figures_183 rfl ?_
        refine V.lif_eq X 193 dX12_figures_184 dX12_figures_185 (by decide) (fun c184 => ?_) (fun c184 => ?_)
        · refine V.lload_n X 0 dX12_figures_193 rfl rfl ?_
          refine V.l2i X dX12_figures_194 rfl ?_
          exact V.iret X rfl hA hk ht hQ rfl dX12_figures_195 (⟨_, τ, rfl, rfl, d4, (fun z => by rw [(fg.1 (by omega) c184.symm).1] at z; cases z), fun _ => ⟨d5, by rw [(fg.1 (by omega) c184.symm).2.1]; exact d3, (fg.1 (by omega) c184.symm).2.2.symm⟩⟩)
        · exact V.sub [0, 1, 2, 3, 4] rfl (L188 τ vv _ d4 (fg.2 (Or.inr (fun z => c184 z.symm))))
    · refine V.lload_n X 1 dX12_figures_166 rfl rfl ?_
      refine V.lneg X dX12_figures_167 ?_
      refine V.goto X 172 dX12_figures_168 (by decide) ?_
      refine V.topl (y := sgL (pMi P i) vv) (by rw [sgL, if_pos c163]) ?_
      refine V.lstore_n X (lv' := [(3, .long (sgL (pMi P i) vv)), (5, .int (nI (pfN P 6001 (pJ P i)))), (2, .int (bI (pMi P i))), (1, .int (nI i)), (0, .ref (a 0))]) dX12_figures_172 rfl (ltn hn (by decide)) rfl ?_
      refine V.iload X 1 dX12_figures_173 rfl ?_
      refine V.bipush X (v := nI 10) dX12_figures_175 (by decide) ?_
      refine V.icmp_gtN X 188 dX12_figures_177 (by decide) (by omega) (by decide) (fun c177 => ?_) (fun c177 => ?_)
      · exact V.sub [0, 1, 2, 3, 4] rfl (L188 τ vv _ d4 (fg.2 (Or.inl c177)))
      · refine V.lload_n X 0 dX12_figures_180 rfl rfl ?_
        refine V.lload_n X 0 dX12_figures_181 rfl rfl ?_
        refine V.l2i X dX12_figures_182 rfl ?_
        refine V.i2l X dX12_figures_183 rfl ?_
        refine V.lif_eq X 193 dX12_figures_184 dX12_figures_185 (by decide) (fun c184 => ?_) (fun c184 => ?_)
        · refine V.lload_n X 0 dX12_figures_193 rfl rfl ?_
          refine V.l2i X dX12_figures_194 rfl ?_
          exact V.iret X rfl hA hk ht hQ rfl dX12_figures_195 (⟨_, τ, rfl, rfl, d4, (fun z => by rw [(fg.1 (by omega) c184.symm).1] at z; cases z), fun _ => ⟨d5, by rw [(fg.1 (by omega) c184.symm).2.1]; exact d3, (fg.1 (by omega) c184.symm).2.2.symm⟩⟩)
        · exact V.sub [0, 1, 2, 3, 4] rfl (L188 τ vv _ d4 (fg.2 (Or.inr (fun z => c184 z.symm))))
  have LP : isFg P[pJ P i]? = true ∧ ¬ (pMi P i = true ∧ P[pJ P i]? = some 48) → ¬ P[pJ P i]? = some 48 → ∀ (w n : Nat) (τ : St), n + w = pfN P 6001 (pJ P i) → gN τ 12 = pJ P i + n → xR τ σ → gO τ 0 = gO σ 0 → V Z (rw (zG Z) a τ) [(5, .int (nI n)), (3, .long (lN (dv P (pJ P i) (min n 11)))), (2, .int (bI (pMi P i))), (1, .int (nI i)), (0, .ref (a 0))] 112 [] := by
    intro hc h48
    have hlt := isFg_len hc.1
    obtain ⟨hend, hall⟩ := pfN_end P 6001 (pJ P i) (by omega)
    have hNl := pfN_le P 6001 (pJ P i)
    intro w
    induction w with
    | zero =>
      intro n τ d1 d2 d3 d4
      have d1 : n = pfN P 6001 (pJ P i) := d1
      have hend : isFg P[pJ P i + n]? = false := by rw [d1]; exact hend
      have hPt := hP.xr d3
      refine V.aload_n X 4 dX12_figures_112 rfl rfl ?_
      refine V.callV X rfl (r_isFigure (zl Z) (zG Z) a (τ) (P := P) (i := pJ P i + n) hPt d2 (by omega)) cv_X12_242 rfl 0 rfl rfl (len hRf (by decide)) (len hRl (by decide)) hk0 ht0 [] rfl (Nat.le_of_ble_eq_true rfl) dX12_figures_113 ?_
      rintro _ _ ⟨rfl, rfl⟩
      refine V.eqs (st' := [.int (bI (isFg P[pJ P i + n]?))]) rfl ?_
      refine V.if_eqB X 162 dX12_figures_116 (by decide) (fun c116 => ?_) (fun c116 => by exfalso; rw [hend] at c116; cases c116)
      refine V.eql (lv' := [(5, .int (nI (pfN P 6001 (pJ P i)))), (3, .long (lN (dv P (pJ P i) (min n 11)))), (2, .int (bI (pMi P i))), (1, .int (nI i)), (0, .ref (a 0))]) (by rw [← d1]) ?_
      exact V.sub [0, 1, 2, 3, 4] rfl (L162 τ _ (by rw [d1]) hc h48 (by rw [← d1]; exact d2) d3 d4)
    | succ w ih =>
      intro n τ d1 d2 d3 d4
      have hPt := hP.xr d3
      have hfn := hall n (by omega)
      obtain ⟨b, hb, hb1, hb2⟩ := isFg_some hfn
      have hgd : P.getD (pJ P i + n) 0 = b := by rw [List.getD_eq_getElem?_getD, hb]; rfl
      refine V.aload_n X 4 dX12_figures_112 rfl rfl ?_
      refine V.callV X rfl (r_isFigure (zl Z) (zG Z) a (τ) (P := P) (i := pJ P i + n) hPt d2 (by omega)) cv_X12_242 rfl 0 rfl rfl (len hRf (by decide)) (len hRl (by decide)) hk0 ht0 [] rfl (Nat.le_of_ble_eq_true rfl) dX12_figures_113 ?_
      rintro _ _ ⟨rfl, rfl⟩
      refine V.eqs (st' := [.int (bI (isFg P[pJ P i + n]?))]) rfl ?_
      refine V.if_eqB X 162 dX12_figures_116 (by decide) (fun c116 => by exfalso; rw [hfn] at c116; cases c116) (fun c116 => ?_)
      refine V.iload X 0 dX12_figures_119 rfl ?_
      refine V.bipush X (v := nI 11) dX12_figures_121 (by decide) ?_
      refine V.icmp_geN X 144 dX12_figures_123 (by decide) (by omega) (by decide) (fun c123 => ?_) (fun c123 => ?_)
      · refine V.lload_n X 1 dX12_figures_144 rfl rfl ?_
        refine V.topl (y := lN (dv P (pJ P i) (min (n + 1) 11))) (by rw [show min (n + 1) 11 = min n 11 by omega]) ?_
        refine V.lstore_n X (lv' := [(3, .long (lN (dv P (pJ P i) (min (n + 1) 11)))), (5, .int (nI n)), (2, .int (bI (pMi P i))), (1, .int (nI i)), (0, .ref (a 0))]) dX12_figures_145 rfl (ltn hn (by decide)) rfl ?_
        refine V.iinc X (v := nI (n + 1)) (lv' := [(5, .int (nI (n + 1))), (3, .long (lN (dv P (pJ P i) (min (n + 1) 11)))), (2, .int (bI (pMi P i))), (1, .int (nI i)), (0, .ref (a 0))]) (k0 := 1) dX12_figures_146 rfl (inc_1 _) (ltn hn (by decide)) rfl ?_
        refine V.aload_n X 4 dX12_figures_149 rfl rfl ?_
        refine V.dup X dX12_figures_150 rfl ?_
        refine Vg_r_0_place (x := gN (τ) 12) X tw_867 dX12_figures_151 rfl ?_
        refine V.iconst X (v := nI 1) dX12_figures_154 (by decide) ?_
        refine V.iaddN X dX12_figures_155 ?_
        refine Vp_r_0_place (x := (gN (τ) 12) + 1) X tw_867 dX12_figures_156 ?_
        refine V.goto X 112 dX12_figures_159 (by decide) ?_
        exact V.sub [0, 1, 2, 3, 4] rfl (ih (n + 1) (sN τ 12 (gN τ 12 + 1)) (by omega) (by show gN τ 12 + 1 = _; omega) ((xR_12 _ _).tr d3) d4)
      · refine V.ldc2 X dX12_figures_126 tw_1095 ?_
        refine V.topl (y := lN 10) (by decide) ?_
        refine V.lload_n X 1 dX12_figures_129 rfl rfl ?_
        refine V.lmulK X dX12_figures_130 ?_
        refine V.aload_n X 4 dX12_figures_131 rfl rfl ?_
        refine V.callV X rfl (rp_now (zl Z) (zG Z) a (τ := τ) hPt (i := pJ P i + n) d2 (by omega)) cv_X12_239 rfl 0 rfl rfl (len hRf (by decide)) (len hRl (by decide)) hk0 ht0 [.long (lN (10 * (dv P (pJ P i) (min n 11))))] rfl (Nat.le_of_ble_eq_true rfl) dX12_figures_132 ?_
        rintro _ _ ⟨rfl, rfl⟩
        refine V.eqs (st' := [.int (oI (P[pJ P i + n]?)), .long (lN (10 * (dv P (pJ P i) (min n 11))))]) rfl ?_
        refine V.topi (y := nI b) (by rw [hb]; rfl) ?_
        refine V.i2lN X dX12_figures_135 (by omega) ?_
        refine V.laddK X dX12_figures_136 ?_
        refine V.ldc2 X dX12_figures_137 tw_1166 ?_
        refine V.topl (y := lN 48) (by decide) ?_
        refine V.lsubK X dX12_figures_140 (by omega) ?_
        refine V.goto X 145 dX12_figures_141 (by decide) ?_
        refine V.topl (y := lN (dv P (pJ P i) (min (n + 1) 11))) (by rw [Nat.min_eq_left (show n + 1 ≤ 11 by omega), Nat.min_eq_left (show n ≤ 11 by omega), dv, hgd, show 10 * dv P (pJ P i) n + b - 48 = 10 * dv P (pJ P i) n + (b - 48) by omega]) ?_
        refine V.lstore_n X (lv' := [(3, .long (lN (dv P (pJ P i) (min (n + 1) 11)))), (5, .int (nI n)), (2, .int (bI (pMi P i))), (1, .int (nI i)), (0, .ref (a 0))]) dX12_figures_145 rfl (ltn hn (by decide)) rfl ?_
        refine V.iinc X (v := nI (n + 1)) (lv' := [(5, .int (nI (n + 1))), (3, .long (lN (dv P (pJ P i) (min (n + 1) 11)))), (2, .int (bI (pMi P i))), (1, .int (nI i)), (0, .ref (a 0))]) (k0 := 1) dX12_figures_146 rfl (inc_1 _) (ltn hn (by decide)) rfl ?_
        refine V.aload_n X 4 dX12_figures_149 rfl rfl ?_
        refine V.dup X dX12_figures_150 rfl ?_
        refine Vg_r_0_place (x := gN (τ) 12) X tw_867 dX12_figures_151 rfl ?_
        refine V.iconst X (v := nI 1) dX12_figures_154 (by decide) ?_
        refine V.iaddN X dX12_figures_155 ?_
        refine Vp_r_0_place (x := (gN (τ) 12) + 1) X tw_867 dX12_figures_156 ?_
        refine V.goto X 112 dX12_figures_159 (by decide) ?_
        exact V.sub [0, 1, 2, 3, 4] rfl (ih (n + 1) (sN τ 12 (gN τ 12 + 1)) (by omega) (by show gN τ 12 + 1 = _; omega) ((xR_12 _ _).tr d3) d4)
  have L64 : ∀ (τ : St), gN τ 12 = pJ P i → xR τ σ → gO τ 0 = gO σ 0 → isFg P[pJ P i]? = true ∧ ¬ (pMi P i = true ∧ P[pJ P i]? = some 48) → V Z (rw (zG Z) a τ) [(2, .int (bI (pMi P i))), (1, .int (nI i)), (0, .ref (a 0))] 64 [] := by
    intro τ d1 d2 d3 d4
    have hPt := hP.xr d2
    refine V.aload_n X 2 dX12_figures_64 rfl rfl ?_
    refine V.callV X rfl (rp_now (zl Z) (zG Z) a (τ := τ) hPt (i := pJ P i) d1 (by omega)) cv_X12_239 rfl 0 rfl rfl (len hRf (by decide)) (len hRl (by decide)) hk0 ht0 [] rfl (Nat.le_of_ble_eq_true rfl) dX12_figures_65 ?_
    rintro _ _ ⟨rfl, rfl⟩
    refine V.eqs (st' := [.int (oI (P[pJ P i]?))]) rfl ?_
    refine V.bipush X (v := nI 48) dX12_figures_68 (by decide) ?_
    refine V.icmp_ne X 107 dX12_figures_70 (by decide) (fun c70 => ?_) (fun c70 => ?_)
    · refine V.lconst X (v := lN 0) dX12_figures_107 (by decide) ?_
      refine V.lstore_n X (lv' := [(3, .long (lN 0)), (2, .int (bI (pMi P i))), (1, .int (nI i)), (0, .ref (a 0))]) dX12_figures_108 rfl (ltn hn (by decide)) rfl ?_
      refine V.iconst X (v := nI 0) dX12_figures_109 (by decide) ?_
      refine V.istore X (lv' := [(5, .int (nI 0)), (3, .long (lN 0)), (2, .int (bI (pMi P i))), (1, .int (nI i)), (0, .ref (a 0))]) dX12_figures_110 (ltn hn (by decide)) rfl ?_
      refine V.eql (lv' := [(5, .int (nI 0)), (3, .long (lN (dv P (pJ P i) (min 0 11)))), (2, .int (bI (pMi P i))), (1, .int (nI i)), (0, .ref (a 0))]) (by rw [show dv P (pJ P i) (min 0 11) = 0 from rfl]) ?_
      exact V.sub [0, 1, 2, 3, 4] rfl (LP d4 (fun z => c70 ((oI_inj (hP.b31 _) (by decide)).mpr z)) (pfN P 6001 (pJ P i)) 0 τ (by omega) (by omega) d2 d3)
    · refine V.aload_n X 2 dX12_figures_73 rfl rfl ?_
      refine V.dup X dX12_figures_74 rfl ?_
      refine Vg_r_0_place (x := gN (τ) 12) X tw_867 dX12_figures_75 rfl ?_
      refine V.iconst X (v := nI 1) dX12_figures_78 (by decide) ?_
      refine V.iaddN X dX12_figures_79 ?_
      refine Vp_r_0_place (x := (gN (τ) 12) + 1) X tw_867 dX12_figures_80 ?_
      have h0 := (oI_inj (hP.b31 _) (by decide)).mp c70
      have f1 : gN (sN τ 12 (gN τ 12 + 1)) 12 = pJ P i + 1 := by show gN τ 12 + 1 = _; rw [d1]
      have f2 : xR (sN τ 12 (gN τ 12 + 1)) σ := (xR_12 _ _).tr d2
      have f3 : gO (sN τ 12 (gN τ 12 + 1)) 0 = gO σ 0 := d3
      generalize (sN τ 12 (gN τ 12 + 1)) = τ1 at f1 f2 f3 ⊢
      refine V.aload_n X 2 dX12_figures_83 rfl rfl ?_
      refine V.aload_n X 2 dX12_figures_84 rfl rfl ?_
      refine V.callV X rfl (r_isFigure (zl Z) (zG Z) a (τ1) (P := P) (i := pJ P i + 1) (hP.xr f2) f1 (by omega)) cv_X12_242 rfl 0 rfl rfl (len hRf (by decide)) (len hRl (by decide)) hk0 ht0 [.ref (a 0)] rfl (Nat.le_of_ble_eq_true rfl) dX12_figures_85 ?_
      rintro _ _ ⟨rfl, rfl⟩
      refine V.eqs (st' := [.int (bI (isFg P[pJ P i + 1]?)), .ref (a 0)]) rfl ?_
      refine V.if_eqB X 98 dX12_figures_88 (by decide) (fun c88 => ?_) (fun c88 => ?_)
      · refine V.aload_n X 2 dX12_figures_98 rfl rfl ?_
        refine Vg_r_0_wrong (x := gO (τ1) 0) X tw_868 dX12_figures_99 rfl ?_
        refine Vp_r_0_wrong (x := gO (τ1) 0) X tw_868 dX12_figures_102 ?_
        refine V.iconst X (v := nI 0) dX12_figures_105 (by decide) ?_
        exact V.iret X rfl hA hk ht hQ rfl dX12_figures_106 (⟨_, _, rfl, rfl, (xR_O _ _).tr f2, (fun z => by rw [(fg_3 d4 h0 c88).1] at z; cases z), fun _ => ⟨f3, f1.trans (fg_3 d4 h0 c88).2.1.symm, (fg_3 d4 h0 c88).2.2.symm⟩⟩)
      · refine V.aload_n X 2 dX12_figures_91 rfl rfl ?_
        refine Vg_r_0_place (x := gN (τ1) 12) X tw_867 dX12_figures_92 rfl ?_
        refine V.goto X 102 dX12_figures_95 (by decide) ?_
        refine V.topi (y := oI (some (gN (τ1) 12))) rfl ?_
        refine Vp_r_0_wrong (x := some (gN (τ1) 12)) X tw_868 dX12_figures_102 ?_
        refine V.iconst X (v := nI 0) dX12_figures_105 (by decide) ?_
        exact V.iret X rfl hA hk ht hQ rfl dX12_figures_106 (⟨_, _, rfl, rfl, (xR_O _ _).tr f2, fun _ => by rw [(fg_2 d4 h0 c88).2]; exact congrArg some f1, fun z => by rw [(fg_2 d4 h0 c88).1] at z; cases z⟩)
  have L34 : ∀ (τ : St), gN τ 12 = pJ P i → xR τ σ → gO τ 0 = gO σ 0 → V Z (rw (zG Z) a τ) [(2, .int (bI (pMi P i))), (1, .int (nI i)), (0, .ref (a 0))] 34 [] := by
    intro τ d1 d2 d3
    have hPt := hP.xr d2
    refine V.aload_n X 2 dX12_figures_34 rfl rfl ?_
    refine V.callV X rfl (r_isFigure (zl Z) (zG Z) a (τ) (P := P) (i := pJ P i) hPt d1 (by omega)) cv_X12_242 rfl 0 rfl rfl (len hRf (by decide)) (len hRl (by decide)) hk0 ht0 [] rfl (Nat.le_of_ble_eq_true rfl) dX12_figures_35 ?_
    rintro _ _ ⟨rfl, rfl⟩
    refine V.eqs (st' := [.int (bI (isFg P[pJ P i]?))]) rfl ?_
    refine V.if_eqB X 54 dX12_figures_38 (by decide) (fun c38 => ?_) (fun c38 => ?_)
    · exact V.sub [0, 1, 2] rfl (L54 τ d1 d2 (fun z => by rw [c38] at z; cases z.1))
    · refine V.iload_n X 0 dX12_figures_41 rfl rfl ?_
      refine V.if_eqB X 64 dX12_figures_42 (by decide) (fun c42 => ?_) (fun c42 => ?_)
      · exact V.sub [0, 1, 2] rfl (L64 τ d1 d2 d3 ⟨c38, fun z => by rw [c42] at z; cases z.1⟩)
      · refine V.aload_n X 2 dX12_figures_45 rfl rfl ?_
        refine V.callV X rfl (rp_now (zl Z) (zG Z) a (τ := τ) hPt (i := pJ P i) d1 (by omega)) cv_X12_239 rfl 0 rfl rfl (len hRf (by decide)) (len hRl (by decide)) hk0 ht0 [] rfl (Nat.le_of_ble_eq_true rfl) dX12_figures_46 ?_
        rintro _ _ ⟨rfl, rfl⟩
        refine V.eqs (st' := [.int (oI (P[pJ P i]?))]) rfl ?_
        refine V.bipush X (v := nI 48) dX12_figures_49 (by decide) ?_
        refine V.icmp_ne X 64 dX12_figures_51 (by decide) (fun c51 => ?_) (fun c51 => ?_)
        · exact V.sub [0, 1, 2] rfl (L64 τ d1 d2 d3 ⟨c38, fun z => c51 ((oI_inj (hP.b31 _) (by decide)).mpr z.2)⟩)
        · exact V.sub [0, 1, 2] rfl (L54 τ d1 d2 (fun z => z.2 ⟨c42, (oI_inj (hP.b31 _) (by decide)).mp c51⟩))
  refine V.aload_n X 0 dX12_figures_0 rfl rfl ?_
  refine Vg_r_0_place (x := gN σ 12) X tw_867 dX12_figures_1 rfl ?_
  refine V.topi (y := nI i) (by rw [hi]) ?_
  refine V.istore_n X (lv' := [(1, .int (nI i)), (0, .ref (a 0))]) dX12_figures_4 rfl (ltn hn (by decide)) rfl ?_
  refine V.aload_n X 1 dX12_figures_5 rfl rfl ?_
  refine V.callV X rfl (rp_now (zl Z) (zG Z) a (τ := σ) hP (i := i) hi (by omega)) cv_X12_239 rfl 0 rfl rfl (len hRf (by decide)) (len hRl (by decide)) hk0 ht0 [] rfl (Nat.le_of_ble_eq_true rfl) dX12_figures_6 ?_
  rintro _ _ ⟨rfl, rfl⟩
  refine V.eqs (st' := [.int (oI (P[i]?))]) rfl ?_
  refine V.bipush X (v := nI 45) dX12_figures_9 (by decide) ?_
  refine V.icmp_ne X 18 dX12_figures_11 (by decide) (fun c11 => ?_) (fun c11 => ?_)
  · refine V.iconst X (v := nI 0) dX12_figures_18 (by decide) ?_
    have hm : pMi P i = false := decide_eq_false (fun z => c11 ((oI_inj (hP.b31 _) (by decide)).mpr z))
    refine V.topi (y := bI (pMi P i)) (by rw [hm]; rfl) ?_
    refine V.istore_n X (lv' := [(2, .int (bI (pMi P i))), (1, .int (nI i)), (0, .ref (a 0))]) dX12_figures_19 rfl (ltn hn (by decide)) rfl ?_
    refine V.iload_n X 0 dX12_figures_20 rfl rfl ?_
    refine V.if_eqB X 34 dX12_figures_21 (by decide) (fun c21 => ?_) (fun c21 => by exfalso; rw [hm] at c21; cases c21)
    exact V.sub [0, 1, 2] rfl (L34 σ (by rw [hi, pJ, if_neg (by rw [hm]; decide)]; rfl) (xR.rf σ) rfl)
  · refine V.iconst X (v := nI 1) dX12_figures_14 (by decide) ?_
    refine V.goto X 19 dX12_figures_15 (by decide) ?_
    have hm : pMi P i = true := decide_eq_true ((oI_inj (hP.b31 _) (by decide)).mp c11)
    refine V.topi (y := bI (pMi P i)) (by rw [hm]; rfl) ?_
    refine V.istore_n X (lv' := [(2, .int (bI (pMi P i))), (1, .int (nI i)), (0, .ref (a 0))]) dX12_figures_19 rfl (ltn hn (by decide)) rfl ?_
    refine V.iload_n X 0 dX12_figures_20 rfl rfl ?_
    refine V.if_eqB X 34 dX12_figures_21 (by decide) (fun c21 => by exfalso; rw [hm] at c21; cases c21) (fun c21 => ?_)
    refine V.aload_n X 2 dX12_figures_24 rfl rfl ?_
    refine V.dup X dX12_figures_25 rfl ?_
    refine Vg_r_0_place (x := gN σ 12) X tw_867 dX12_figures_26 rfl ?_
    refine V.iconst X (v := nI 1) dX12_figures_29 (by decide) ?_
    refine V.iaddN X dX12_figures_30 ?_
    refine Vp_r_0_place (x := (gN σ 12) + 1) X tw_867 dX12_figures_31 ?_
    exact V.sub [0, 1, 2] rfl (L34 (sN σ 12 (gN σ 12 + 1)) (by show gN σ 12 + 1 = _; rw [hi, pJ, if_pos hm]) (xR_12 _ _) rfl)

