def PRo (G : Gx) (a : Nat → Nat) (σ : St) (P : List Nat) (i n : Nat) (cl : Nat → List Nat) (nd : Nat → Nat × Int32) (mN : Nat → Int64) (u : Option Nat) (rv : Option Value) (w : va_W) : Prop := rv = none ∧ ∃ τ, w = rw G a τ ∧ xG τ σ ∧ ars τ = ars σ ∧
  ((∃ e, rdE P i = some e ∧ gO τ 0 = some e) ∨ (∃ k, rdE P i = none ∧ pKd P i = some k ∧ k < 12 ∧ i < P.length ∧ gO τ 0 = none ∧ gN τ 12 = pNe P (i + 1) ∧ TR (n + 1) (plC cl n u false (va_up mN n (lN 0))) (va_up nd n (k, pNv P (i + 1))) (va_up mN n (lN 0)) τ))
theorem rdE_n {P : List Nat} {i : Nat} (h : pKd P i = none) : rdE P i = some i := by simp only [rdE, h]
theorem rdE_b {P : List Nat} {i k : Nat} (h : pKd P i = some k) (hf : fBd P (i + 1) = true) : rdE P i = some (pNe P (i + 1)) := by simp only [rdE, h, hf, if_true]
theorem rdE_g {P : List Nat} {i k : Nat} (h : pKd P i = some k) (hf : fBd P (i + 1) = false) : rdE P i = none := by
  simp only [rdE, h, hf]; rfl
theorem pNe_6 {P : List Nat} {i : Nat} (hl : P.length ≤ 6000) (hi : i ≤ P.length) : pNe P i ≤ 6000 := Nat.le_trans (pNe_le hi) hl

set_option maxHeartbeats 4000000 in
set_option maxRecDepth 100000 in
theorem r_readOne (l : Launch) (G : Gx) (a : Nat → Nat) (σ : St) {P : List Nat} {n : Nat} {cl : Nat → List Nat} {nd : Nat → Nat × Int32} {mN : Nat → Int64} (u : Option Nat) {i : Nat} (hP : PTr P σ) (hi : gN σ 12 = i) (hile : i ≤ 6000) (hO : gO σ 0 = none) (hTt : TR n cl nd mN σ) (hn2 : n < 20000) (hu : ∀ p, u = some p → p < n) : MM l G ⟨"NestedDeedsModel", "readOne", "(I)V"⟩ prog_14_method_52_code 4 none 3 67 [.ref (a 0), .int (oI u)] (rw G a σ) (PRo G a σ P i n cl nd mN u) := by
  refine MM.of (lv := [(0, .ref (a 0)), (1, .int (oI u))]) (by decide +kernel) rfl (Nat.le_of_ble_eq_true rfl) ?_
  intro Z hRf hRl hl hG hn hk ht hA hQ X
  subst hG hl
  have X : XC Z "NestedDeedsModel" prog_14_method_52_code none := X
  have hk0 : zk Z ≤ (zR Z).cells := hk ▸ Nat.zero_le _
  have ht0 : zt Z ≤ (zR Z).slots := ht ▸ Nat.zero_le _
  have hl6 := hP.2.2.1
  have hkd := kd_in σ P hP.2.2.2 i
  rw [← inR_hasN (m := 11) (by decide)] at hkd
  refine V.aload_n X 0 dX12_readOne_0 rfl rfl ?_
  refine V.callV X rfl (rp_now (zl Z) (zG Z) a (τ := σ) hP (i := i) hi (by omega)) cv_X12_239 rfl 0 rfl rfl (len hRf (by decide)) (len hRl (by decide)) hk0 ht0 [] rfl (Nat.le_of_ble_eq_true rfl) dX12_readOne_1 ?_
  rintro _ _ ⟨rfl, rfl⟩
  refine V.eqs (st' := [.int (oI (P[i]?))]) rfl ?_
  refine V.bipush X (v := nI 97) dX12_readOne_4 (by decide) ?_
  refine V.isub X dX12_readOne_6 ?_
  refine V.istore_n X (lv' := [(2, .int ((oI (P[i]?)) - (nI 97))), (0, .ref (a 0)), (1, .int (oI u))]) dX12_readOne_7 rfl (ltn hn (by decide)) rfl ?_
  refine V.iload_n X 0 dX12_readOne_8 rfl rfl ?_
  refine V.iconst X (v := nI 0) dX12_readOne_9 (by decide) ?_
  refine V.bipush X (v := nI 11) dX12_readOne_10 (by decide) ?_
  refine V.callS X rfl (k_in (zl Z) (zG Z) (rw (zG Z) a σ) ((oI (P[i]?)) - (nI 97)) (nI 0) (nI 11)) cs_X12_93 rfl (len hRf (by decide)) (len hRl (by decide)) hk0 ht0 [] rfl (Nat.le_of_ble_eq_true rfl) dX12_readOne_12 ?_
  rintro _ _ ⟨rfl, rfl⟩
  refine V.eqs (st' := [.int (bI (inR ((oI (P[i]?)) - (nI 97)) (nI 0) (nI 11)))]) rfl ?_
  refine V.if_neB X 27 dX12_readOne_15 (by decide) (fun c15 => ?_) (fun c15 => ?_)
  · rw [hkd.1] at c15
    obtain ⟨k, hkk⟩ := Option.isSome_iff_exists.mp c15
    obtain ⟨hk1, hk2, hk3⟩ := hkd.2 k hkk
    refine V.eql (lv' := [(2, .int (nI k)), (0, .ref (a 0)), (1, .int (oI u))]) (by rw [hk1]) ?_
    refine V.aload_n X 1 dX12_readOne_27 rfl rfl ?_
    refine V.dup X dX12_readOne_28 rfl ?_
    refine Vg_r_0_place (x := gN σ 12) X tw_867 dX12_readOne_29 rfl ?_
    refine V.iconst X (v := nI 1) dX12_readOne_32 (by decide) ?_
    refine V.iaddN X dX12_readOne_33 ?_
    refine Vp_r_0_place (x := (gN σ 12) + 1) X tw_867 dX12_readOne_34 ?_
    have f1 : gN (sN σ 12 (gN σ 12 + 1)) 12 = i + 1 := by show gN σ 12 + 1 = _; rw [hi]
    have f2 : xR (sN σ 12 (gN σ 12 + 1)) σ := xR_12 _ _
    have f3 : gO (sN σ 12 (gN σ 12 + 1)) 0 = none := hO
    generalize (sN σ 12 (gN σ 12 + 1)) = τ1 at f1 f2 f3 ⊢
    refine V.aload_n X 1 dX12_readOne_37 rfl rfl ?_
    refine V.callV X rfl (r_figures (zl Z) (zG Z) a τ1 (P := P) (i := i + 1) (hP.xr f2) f1 (by omega)) cv_X12_251 rfl 0 rfl rfl (len hRf (by decide)) (len hRl (by decide)) hk0 ht0 [] rfl (Nat.le_of_ble_eq_true rfl) dX12_readOne_38 ?_
    rintro _ _ ⟨v, τ2, rfl, rfl, w1, w2, w3⟩
    refine V.eqs (st' := [.int v]) rfl ?_
    rcases hfb : fBd P (i + 1) with _ | _
    · obtain ⟨u1, u2, u3⟩ := w3 hfb
      refine V.istore_n X (lv' := [(3, .int v), (2, .int (nI k)), (0, .ref (a 0)), (1, .int (oI u))]) dX12_readOne_41 rfl (ltn hn (by decide)) rfl ?_
      refine V.aload_n X 2 dX12_readOne_42 rfl rfl ?_
      refine Vg_r_0_wrong (x := gO (τ2) 0) X tw_868 dX12_readOne_43 rfl ?_
      refine V.topi (y := -1) (by rw [u1, f3]; rfl) ?_
      refine V.iconst X (v := -1) dX12_readOne_46 (by decide) ?_
      refine V.icmp_ne X 59 dX12_readOne_47 (by decide) (fun c47 => by exfalso; exact c47 rfl) (fun c47 => ?_)
      refine V.aload_n X 2 dX12_readOne_50 rfl rfl ?_
      refine V.iload_n X 1 dX12_readOne_51 rfl rfl ?_
      refine V.iload_n X 0 dX12_readOne_52 rfl rfl ?_
      refine V.topi (y := pNv P (i + 1)) u3 ?_
      refine V.lconst X (v := lN 0) dX12_readOne_53 (by decide) ?_
      refine V.iload_n X 3 dX12_readOne_54 rfl rfl ?_
      refine V.iconst X (v := nI 0) dX12_readOne_55 (by decide) ?_
      refine V.topi (y := bI false) rfl ?_
      refine V.callV X rfl (r_plant (zl Z) (zG Z) a τ2 k (pNv P (i + 1)) (lN 0) u false (hTt.xr (w1.tr f2)) hn2 hu) cv_X12_219 rfl 0 rfl rfl (len hRf (by decide)) (len hRl (by decide)) hk0 ht0 [] rfl (Nat.le_of_ble_eq_true rfl) dX12_readOne_56 ?_
      rintro _ _ ⟨rfl, τ3, rfl, y1, y2⟩
      refine V.eqs (st' := []) rfl ?_
      exact V.vret X rfl hA hk ht hQ rfl dX12_readOne_59 (⟨rfl, τ3, rfl, (y2.xb.1).tr (w1.tr f2).xg, (xT_ars y2).trans (xR_ars (w1.tr f2)), Or.inr ⟨k, rdE_g hkk hfb, hkk, hk2, hk3, by rw [y2.2.2.2.2.2.2.1, u1, f3], by rw [y2.1 12 (by decide), u2], y1⟩⟩)
    · have hpn := pNe_6 hl6 (show i + 1 ≤ P.length by omega)
      refine V.istore_n X (lv' := [(3, .int v), (2, .int (nI k)), (0, .ref (a 0)), (1, .int (oI u))]) dX12_readOne_41 rfl (ltn hn (by decide)) rfl ?_
      refine V.aload_n X 2 dX12_readOne_42 rfl rfl ?_
      refine Vg_r_0_wrong (x := gO (τ2) 0) X tw_868 dX12_readOne_43 rfl ?_
      refine V.topi (y := nI (pNe P (i + 1))) (by rw [w2 hfb]; rfl) ?_
      refine V.iconst X (v := -1) dX12_readOne_46 (by decide) ?_
      refine V.icmp_ne X 59 dX12_readOne_47 (by decide) (fun c47 => ?_) (fun c47 => by exfalso; exact nI_nm1 (by omega) c47)
      exact V.vret X rfl hA hk ht hQ rfl dX12_readOne_59 (⟨rfl, τ2, rfl, (w1.tr f2).xg, xR_ars (w1.tr f2), Or.inl ⟨_, rdE_b hkk hfb, w2 hfb⟩⟩)
  · refine V.aload_n X 1 dX12_readOne_18 rfl rfl ?_
    refine V.aload_n X 1 dX12_readOne_19 rfl rfl ?_
    refine Vg_r_0_place (x := gN σ 12) X tw_867 dX12_readOne_20 rfl ?_
    refine V.topi (y := nI i) (by rw [hi]) ?_
    refine V.topi (y := oI (some i)) rfl ?_
    refine Vp_r_0_wrong (x := some i) X tw_868 dX12_readOne_23 ?_
    exact V.vret X rfl hA hk ht hQ rfl dX12_readOne_26 (⟨rfl, _, rfl, (xR_O σ (some i)).xg, xR_ars (xR_O σ (some i)), Or.inl ⟨i, rdE_n (by rw [hkd.1] at c15; simpa using c15), rfl⟩⟩)

