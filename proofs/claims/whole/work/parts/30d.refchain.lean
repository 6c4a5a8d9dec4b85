set_option maxHeartbeats 4000000 in
set_option maxRecDepth 100000 in
theorem rf_enclose (l : Launch) (G : Gx) (a : Nat → Nat) (σ : St) {S : AS} (d p : Int32) (h : RR S σ) : MM l G ⟨"NestedDeedsModel", "enclose", "(II)I"⟩ prog_14_method_7_code 3 (some .int) 2 43 [.ref (a 0), .int d, .int p] (rw G a σ) (PR G a (sp_enclose S d p).2 (.int (sp_enclose S d p).1)) := by
  refine MM.of (lv := [(0, .ref (a 0)), (1, .int d), (2, .int p)]) (by decide +kernel) rfl (Nat.le_of_ble_eq_true rfl) ?_
  intro Z hRf hRl hl hG hn hk ht hA hQ X
  subst hG hl
  have X : XC Z "NestedDeedsModel" prog_14_method_7_code (some .int) := X
  have hk0 : zk Z ≤ (zR Z).cells := hk ▸ Nat.zero_le _
  have ht0 : zt Z ≤ (zR Z).slots := ht ▸ Nat.zero_le _
  have hW := h.1.1
  have hN := hW.1
  have hT := hW.2.1
  have hx := h.2.1
  obtain ⟨ix, hX⟩ := h.2.1
  obtain ⟨g0, g1, g2, g3⟩ := hX
  refine V.aload_n X 0 dX12_enclose_0 rfl rfl ?_
  refine V.iload_n X 1 dX12_enclose_1 rfl rfl ?_
  refine V.callV X rfl (r_isDeed (zl Z) (zG Z) a σ d (by omega)) cv_X12_104 rfl 0 rfl rfl (len hRf (by decide)) (len hRl (by decide)) hk0 ht0 [] rfl (Nat.le_of_ble_eq_true rfl) dX12_enclose_2 ?_
  rintro _ _ ⟨rfl, rfl⟩
  refine V.eqs (st' := [.int (bI (hasD (gN σ 0) d))]) rfl ?_
  refine V.if_eqB X 16 dX12_enclose_5 (by decide) (fun c5 => ?_) (fun c5 => ?_)
  · refine V.bipush X (v := (-2)) dX12_enclose_16 (by decide) ?_
    exact V.iret X rfl hA hk ht hQ rfl dX12_enclose_18 (⟨by rw [sp_enclose, if_neg (fun z => by rw [g0, z.1] at c5; cases c5)], σ, rfl, by rw [sp_enclose, if_neg (fun z => by rw [g0, z.1] at c5; cases c5)]; exact h⟩)
  · refine V.aload_n X 0 dX12_enclose_8 rfl rfl ?_
    refine V.iload_n X 2 dX12_enclose_9 rfl rfl ?_
    refine V.callV X rfl (r_isDeed (zl Z) (zG Z) a σ p (by omega)) cv_X12_104 rfl 0 rfl rfl (len hRf (by decide)) (len hRl (by decide)) hk0 ht0 [] rfl (Nat.le_of_ble_eq_true rfl) dX12_enclose_10 ?_
    rintro _ _ ⟨rfl, rfl⟩
    refine V.eqs (st' := [.int (bI (hasD (gN σ 0) p))]) rfl ?_
    refine V.if_neB X 19 dX12_enclose_13 (by decide) (fun c13 => ?_) (fun c13 => ?_)
    · refine V.iload_n X 2 dX12_enclose_19 rfl rfl ?_
      refine V.iload_n X 1 dX12_enclose_20 rfl rfl ?_
      refine V.icmp_lt X 27 dX12_enclose_21 (by decide) (fun c21 => ?_) (fun c21 => ?_)
      · rw [g0] at c5 c13
        obtain ⟨d2, hd2, rfl⟩ := hasD_t (by omega) c5
        obtain ⟨p2, hp2, rfl⟩ := hasD_t (by omega) c13
        have hlt : p2 < d2 := (nI_ltI (by omega) (by omega)).mp c21
        have hsp : sp_enclose S (nI d2) (nI p2) = if tot (aP (yA S)) (aN (yA S)) < 4000 then (nI ((aP (yA S) d2).length + 1), stA S (adP (yA S) d2 p2)) else (-4, S) := by rw [sp_enclose, if_pos ⟨c5, c13⟩, if_pos c21, dN_nI (by omega), dN_nI (by omega)]
        refine V.aload_n X 0 dX12_enclose_27 rfl rfl ?_
        refine Vg_r_0_parts (x := gN σ 1) X tw_834 dX12_enclose_28 rfl ?_
        refine V.sipush X (v := nI 4000) dX12_enclose_31 (by decide) ?_
        refine V.icmp_neN X 42 dX12_enclose_34 (by decide) (by omega) (by decide) (fun c34 => ?_) (fun c34 => ?_)
        · refine V.aload_n X 0 dX12_enclose_42 rfl rfl ?_
          refine V.iload_n X 1 dX12_enclose_43 rfl rfl ?_
          refine V.iload_n X 2 dX12_enclose_44 rfl rfl ?_
          refine V.callV X rfl (rr_addPart (zl Z) (zG Z) a d2 p2 hx hW hd2 (by omega)) cv_X12_108 rfl 0 rfl rfl (len hRf (by decide)) (len hRl (by decide)) hk0 ht0 [] rfl (Nat.le_of_ble_eq_true rfl) dX12_enclose_45 ?_
          rintro _ _ ⟨rfl, τ, rfl, t1, t2⟩
          refine V.eqs (st' := [.int (nI ((aP (yA S) d2).length + 1))]) rfl ?_
          exact V.iret X rfl hA hk ht hQ rfl dX12_enclose_48 (⟨by rw [hsp, if_pos (by omega)], τ, rfl, by rw [hsp, if_pos (by omega)]; exact h.setA (hW.adP hd2 hlt (by omega)) t1 t2⟩)
        · refine V.bipush X (v := (-4)) dX12_enclose_37 (by decide) ?_
          refine V.goto X 48 dX12_enclose_39 (by decide) ?_
          exact V.iret X rfl hA hk ht hQ rfl dX12_enclose_48 (⟨by rw [hsp, if_neg (by omega)], σ, rfl, by rw [hsp, if_neg (by omega)]; exact h⟩)
      · refine V.bipush X (v := (-3)) dX12_enclose_24 (by decide) ?_
        exact V.iret X rfl hA hk ht hQ rfl dX12_enclose_26 (⟨by rw [sp_enclose, if_pos ⟨by rw [← g0]; exact c5, by rw [← g0]; exact c13⟩, if_neg c21], σ, rfl, by rw [sp_enclose, if_pos ⟨by rw [← g0]; exact c5, by rw [← g0]; exact c13⟩, if_neg c21]; exact h⟩)
    · refine V.bipush X (v := (-2)) dX12_enclose_16 (by decide) ?_
      exact V.iret X rfl hA hk ht hQ rfl dX12_enclose_18 (⟨by rw [sp_enclose, if_neg (fun z => by rw [g0, z.2] at c13; cases c13)], σ, rfl, by rw [sp_enclose, if_neg (fun z => by rw [g0, z.2] at c13; cases c13)]; exact h⟩)

set_option maxHeartbeats 4000000 in
set_option maxRecDepth 100000 in
theorem rf_chain (l : Launch) (G : Gx) (a : Nat → Nat) (σ : St) {S : AS} (n k v t f : Int32) (h : RR S σ) : MM l G ⟨"NestedDeedsModel", "chain", "(IIIII)I"⟩ prog_14_method_8_code 11 (some .int) 2 43 [.ref (a 0), .int n, .int k, .int v, .int t, .int f] (rw G a σ) (PR G a (sp_chain S n k v t f).2 (.int (sp_chain S n k v t f).1)) := by
  refine MM.of (lv := [(0, .ref (a 0)), (1, .int n), (2, .int k), (3, .int v), (4, .int t), (5, .int f)]) (by decide +kernel) rfl (Nat.le_of_ble_eq_true rfl) ?_
  intro Z hRf hRl hl hG hn hk ht hA hQ X
  subst hG hl
  have X : XC Z "NestedDeedsModel" prog_14_method_8_code (some .int) := X
  have hk0 : zk Z ≤ (zR Z).cells := hk ▸ Nat.zero_le _
  have ht0 : zt Z ≤ (zR Z).slots := ht ▸ Nat.zero_le _
  have hW := h.1.1
  have hN := hW.1
  have hT := hW.2.1
  have hx := h.2.1
  obtain ⟨ix, hX⟩ := h.2.1
  obtain ⟨g0, g1, g2, g3⟩ := hX
  refine V.iload_n X 1 dX12_chain_0 rfl rfl ?_
  refine V.iconst X (v := nI 1) dX12_chain_1 (by decide) ?_
  refine V.sipush X (v := nI 400) dX12_chain_2 (by decide) ?_
  refine V.callS X rfl (k_in (zl Z) (zG Z) (rw (zG Z) a σ) n (nI 1) (nI 400)) cs_X12_93 rfl (len hRf (by decide)) (len hRl (by decide)) hk0 ht0 [] rfl (Nat.le_of_ble_eq_true rfl) dX12_chain_5 ?_
  rintro _ _ ⟨rfl, rfl⟩
  refine V.eqs (st' := [.int (bI (inR n (nI 1) (nI 400)))]) rfl ?_
  refine V.if_eqB X 46 dX12_chain_8 (by decide) (fun c8 => ?_) (fun c8 => ?_)
  · refine V.bipush X (v := (-2)) dX12_chain_46 (by decide) ?_
    exact V.iret X rfl hA hk ht hQ rfl dX12_chain_48 (⟨by rw [sp_chain, if_neg (show ¬ cOK S n k t f = true from fun z => by rw [show cOK S n k t f = false from by rw [cOK, c8]; rfl] at z; cases z)], σ, rfl, by rw [sp_chain, if_neg (show ¬ cOK S n k t f = true from fun z => by rw [show cOK S n k t f = false from by rw [cOK, c8]; rfl] at z; cases z)]; exact h⟩)
  · refine V.iload_n X 2 dX12_chain_11 rfl rfl ?_
    refine V.iconst X (v := nI 0) dX12_chain_12 (by decide) ?_
    refine V.bipush X (v := nI 11) dX12_chain_13 (by decide) ?_
    refine V.callS X rfl (k_in (zl Z) (zG Z) (rw (zG Z) a σ) k (nI 0) (nI 11)) cs_X12_93 rfl (len hRf (by decide)) (len hRl (by decide)) hk0 ht0 [] rfl (Nat.le_of_ble_eq_true rfl) dX12_chain_15 ?_
    rintro _ _ ⟨rfl, rfl⟩
    refine V.eqs (st' := [.int (bI (inR k (nI 0) (nI 11)))]) rfl ?_
    refine V.if_eqB X 46 dX12_chain_18 (by decide) (fun c18 => ?_) (fun c18 => ?_)
    · refine V.bipush X (v := (-2)) dX12_chain_46 (by decide) ?_
      exact V.iret X rfl hA hk ht hQ rfl dX12_chain_48 (⟨by rw [sp_chain, if_neg (show ¬ cOK S n k t f = true from fun z => by rw [show cOK S n k t f = false from by rw [cOK, c8, ← inR_hasN (m := 11) (by decide), c18]; simp] at z; cases z)], σ, rfl, by rw [sp_chain, if_neg (show ¬ cOK S n k t f = true from fun z => by rw [show cOK S n k t f = false from by rw [cOK, c8, ← inR_hasN (m := 11) (by decide), c18]; simp] at z; cases z)]; exact h⟩)
    · refine V.iload X 4 dX12_chain_21 rfl ?_
      refine V.iconst X (v := nI 1) dX12_chain_23 (by decide) ?_
      refine V.iconst X (v := nI 4) dX12_chain_24 (by decide) ?_
      refine V.callS X rfl (k_in (zl Z) (zG Z) (rw (zG Z) a σ) t (nI 1) (nI 4)) cs_X12_93 rfl (len hRf (by decide)) (len hRl (by decide)) hk0 ht0 [] rfl (Nat.le_of_ble_eq_true rfl) dX12_chain_25 ?_
      rintro _ _ ⟨rfl, rfl⟩
      refine V.eqs (st' := [.int (bI (inR t (nI 1) (nI 4)))]) rfl ?_
      refine V.if_eqB X 46 dX12_chain_28 (by decide) (fun c28 => ?_) (fun c28 => ?_)
      · refine V.bipush X (v := (-2)) dX12_chain_46 (by decide) ?_
        exact V.iret X rfl hA hk ht hQ rfl dX12_chain_48 (⟨by rw [sp_chain, if_neg (show ¬ cOK S n k t f = true from fun z => by rw [show cOK S n k t f = false from by rw [cOK, c8, c28]; rfl] at z; cases z)], σ, rfl, by rw [sp_chain, if_neg (show ¬ cOK S n k t f = true from fun z => by rw [show cOK S n k t f = false from by rw [cOK, c8, c28]; rfl] at z; cases z)]; exact h⟩)
      · refine V.iload X 5 dX12_chain_31 rfl ?_
        refine V.iconst X (v := -1) dX12_chain_33 (by decide) ?_
        refine V.icmp_eq X 49 dX12_chain_34 (by decide) (fun c34 => ?_) (fun c34 => ?_)
        · have hv : cOK S n k t f = true := by rw [cOK, c8, c28, ← inR_hasN (m := 11) (by decide), c18]; simp [c34]
          obtain ⟨n2, hn1, hn2, rfl⟩ := inR_nat (by decide) (by decide) c8
          obtain ⟨t2, ht1, ht2, rfl⟩ := inR_nat (by decide) (by decide) c28
          obtain ⟨k2, hk1, hk3, rfl⟩ := inR_nat (by decide) (by decide) c18
          have hk2 : k2 < 12 := by omega
          have hfo : ∀ p, fO f = some p → p < aN (yA S) := fO_lt hN (Or.inl c34)
          have hfe : f = oI (fO f) := fO_eq hN (Or.inl c34)
          refine V.iload X 5 dX12_chain_49 rfl ?_
          refine V.iconst X (v := -1) dX12_chain_51 (by decide) ?_
          refine V.icmp_ne X 61 dX12_chain_52 (by decide) (fun c52 => ?_) (fun c52 => ?_)
          · refine V.iload_n X 1 dX12_chain_61 rfl rfl ?_
            have hoc : oc (fO f) = 1 := by rw [fO, if_neg c52]; rfl
            have hml := Nat.mul_le_mul (show n2 - 1 + oc (fO f) ≤ 400 by rw [hoc]; omega) ht2
            refine V.topi (y := nI (n2 - 1 + oc (fO f))) (by rw [hoc]; congr 1; try omega) ?_
            refine V.iload X 4 dX12_chain_62 rfl ?_
            refine V.imulN X dX12_chain_64 ?_
            refine V.istore X (lv' := [(6, .int (nI ((n2 - 1 + oc (fO f)) * t2))), (0, .ref (a 0)), (1, .int (nI n2)), (2, .int (nI k2)), (3, .int v), (4, .int (nI t2)), (5, .int f)]) dX12_chain_65 (ltn hn (by decide)) rfl ?_
            refine V.aload_n X 1 dX12_chain_67 rfl rfl ?_
            refine Vg_r_0_deeds (x := gN σ 0) X tw_828 dX12_chain_68 rfl ?_
            refine V.iload_n X 2 dX12_chain_71 rfl rfl ?_
            refine V.iaddN X dX12_chain_72 ?_
            refine V.sipush X (v := nI 1500) dX12_chain_73 (by decide) ?_
            refine V.icmp_gtN X 92 dX12_chain_76 (by decide) (by omega) (by decide) (fun c76 => ?_) (fun c76 => ?_)
            · refine V.bipush X (v := (-4)) dX12_chain_92 (by decide) ?_
              exact V.iret X rfl hA hk ht hQ rfl dX12_chain_94 (⟨by rw [sp_chain, if_pos hv, dN, nI_clamp (by omega), dN, nI_clamp (by omega), dN, nI_clamp (by omega), if_neg (by intro z; have z1 := z.1; have z2 : tot (aP (yA S)) (aN (yA S)) + (n2 - 1 + oc (fO f)) * t2 ≤ 4000 := z.2; omega)], σ, rfl, by rw [sp_chain, if_pos hv, dN, nI_clamp (by omega), dN, nI_clamp (by omega), dN, nI_clamp (by omega), if_neg (by intro z; have z1 := z.1; have z2 : tot (aP (yA S)) (aN (yA S)) + (n2 - 1 + oc (fO f)) * t2 ≤ 4000 := z.2; omega)]; exact h⟩)
            · refine V.aload_n X 1 dX12_chain_79 rfl rfl ?_
              refine Vg_r_0_parts (x := gN σ 1) X tw_834 dX12_chain_80 rfl ?_
              refine V.iload X 0 dX12_chain_83 rfl ?_
              refine V.iaddN X dX12_chain_85 ?_
              refine V.sipush X (v := nI 4000) dX12_chain_86 (by decide) ?_
              refine V.icmp_leN X 95 dX12_chain_89 (by decide) (by omega) (by decide) (fun c89 => ?_) (fun c89 => ?_)
              · have hrm : aN (yA S) + n2 ≤ 1500 ∧ tot (aP (yA S)) (aN (yA S)) + (n2 - 1 + oc (fO f)) * t2 ≤ 4000 := ⟨by omega, by omega⟩
                have hok : sp_chain S (nI n2) (nI k2) v (nI t2) f = (nI (aN (yA S) + n2 - 1), stA S (chA k2 v t2 n2 (yA S) (fO f))) := by rw [sp_chain, if_pos hv, dN, nI_clamp (by omega), dN, nI_clamp (by omega), dN, nI_clamp (by omega), if_pos (by exact hrm)]
                have LP : ∀ (m i : Nat) (τ : St) (o : Option Nat) (A1 : Ar), i + m = n2 → RRd A1 τ → WA A1 → RST τ σ → aN A1 = aN (yA S) + i → (i = 0 → o = fO f) → (0 < i → o = some (aN (yA S) + i - 1)) → (∀ p, o = some p → p < aN A1) → tot (aP A1) (aN A1) + (m - 1 + oc o) * t2 ≤ 4000 ∨ m = 0 → chA k2 v t2 m A1 o = chA k2 v t2 n2 (yA S) (fO f) → V Z (rw (zG Z) a τ) [(8, .int (nI i)), (7, .int (oI o)), (0, .ref (a 0)), (1, .int (nI n2)), (2, .int (nI k2)), (3, .int v), (4, .int (nI t2))] 102 [] := by
                  intro m
                  induction m with
                  | zero =>
                    intro i τ o A1 b1 b2 b3 b4 b5 b6 b7 b8 b9 b10
                    refine V.iload X 0 dX12_chain_102 rfl ?_
                    refine V.iload_n X 3 dX12_chain_104 rfl rfl ?_
                    refine V.icmp_geN X 157 dX12_chain_105 (by decide) (by omega) (by omega) (fun c105 => ?_) (fun c105 => by exfalso; omega)
                    refine V.iload X 1 dX12_chain_157 rfl ?_
                    exact V.iret X rfl hA hk ht hQ rfl dX12_chain_159 (⟨by rw [hok, b7 (by omega), show i = n2 by omega]; rfl, τ, rfl, by rw [hok]; rw [← b10]; exact h.setA b3 b2 b4⟩)
                  | succ m ih =>
                    intro i τ o A1 b1 b2 b3 b4 b5 b6 b7 b8 b9 b10
                    have b11 : tot (aP A1) (aN A1) + (m + oc o) * t2 ≤ 4000 := by rcases b9 with q | q; (exact q); omega
                    have b12 : (m + oc o) * t2 = m * t2 + oc o * t2 := Nat.add_mul _ _ _
                    have hW2 : ∀ q, q ≤ t2 → WA (adA A1 k2 v (rpO q o)) := by
                      intro q hq
                      have hml : oc o * q ≤ oc o * t2 := Nat.mul_le_mul (Nat.le_refl _) hq
                      refine b3.ad (by omega) (by rw [rpO_len]; omega) hk2 (fun p hp => ?_)
                      cases o with
                      | none => cases hp
                      | some z => rw [List.eq_of_mem_replicate hp]; exact b8 z rfl
                    have FIN : ∀ τ2, RRd (adA A1 k2 v (rpO t2 o)) τ2 → RST τ2 σ → V Z (rw (zG Z) a τ2) [(8, .int (nI (i + 1))), (7, .int (oI (some (aN A1)))), (0, .ref (a 0)), (1, .int (nI n2)), (2, .int (nI k2)), (3, .int v), (4, .int (nI t2))] 102 [] := by
                      intro τ2 z1 z2
                      refine ih (i + 1) τ2 (some (aN A1)) _ (by omega) z1 (hW2 t2 (Nat.le_refl _)) z2 (by show aN A1 + 1 = _; omega) (by omega) (fun _ => by rw [b5]; congr 1) (fun p hp => by cases hp; show aN A1 < aN A1 + 1; omega) ?_ b10
                      rcases m with _ | m
                      · right; rfl
                      · left; rw [tot_ad, rpO_len]; show _ + (m + 1 - 1 + 1) * t2 ≤ 4000; rw [Nat.add_sub_cancel]; omega
                    rcases o with _ | p
                    · refine V.eql (lv' := [(8, .int (nI i)), (7, .int (-1)), (0, .ref (a 0)), (1, .int (nI n2)), (2, .int (nI k2)), (3, .int v), (4, .int (nI t2))]) rfl ?_
                      refine V.iload X 0 dX12_chain_102 rfl ?_
                      refine V.iload_n X 3 dX12_chain_104 rfl rfl ?_
                      refine V.icmp_geN X 157 dX12_chain_105 (by decide) (by omega) (by omega) (fun c105 => by exfalso; omega) (fun c105 => ?_)
                      refine V.aload_n X 2 dX12_chain_108 rfl rfl ?_
                      refine V.iload_n X 4 dX12_chain_109 rfl rfl ?_
                      refine V.iload_n X 5 dX12_chain_110 rfl rfl ?_
                      refine V.callV X rfl (rr_add (zl Z) (zG Z) a k2 v b2 (by omega)) cv_X12_100 rfl 0 rfl rfl (len hRf (by decide)) (len hRl (by decide)) hk0 ht0 [] rfl (Nat.le_of_ble_eq_true rfl) dX12_chain_111 ?_
                      rintro _ _ ⟨rfl, τ1, rfl, u1, u2⟩
                      refine V.eqs (st' := [.int (nI (aN A1))]) rfl ?_
                      refine V.istore X (lv' := [(9, .int (nI (aN A1))), (8, .int (nI i)), (7, .int (-1)), (0, .ref (a 0)), (1, .int (nI n2)), (2, .int (nI k2)), (3, .int v), (4, .int (nI t2))]) dX12_chain_114 (ltn hn (by decide)) rfl ?_
                      refine V.iconst X (v := nI 0) dX12_chain_116 (by decide) ?_
                      refine V.istore X (lv' := [(10, .int (nI 0)), (9, .int (nI (aN A1))), (8, .int (nI i)), (7, .int (-1)), (0, .ref (a 0)), (1, .int (nI n2)), (2, .int (nI k2)), (3, .int v), (4, .int (nI t2))]) dX12_chain_117 (ltn hn (by decide)) rfl ?_
                      refine V.iload X 0 dX12_chain_119 rfl ?_
                      refine V.iload X 8 dX12_chain_121 rfl ?_
                      refine V.icmp_geN X 147 dX12_chain_123 (by decide) (by decide) (by omega) (fun c123 => by exfalso; omega) (fun c123 => ?_)
                      refine V.iload X 3 dX12_chain_126 rfl ?_
                      refine V.iconst X (v := -1) dX12_chain_128 (by decide) ?_
                      refine V.icmp_eq X 147 dX12_chain_129 (by decide) (fun c129 => ?_) (fun c129 => by exfalso; exact absurd rfl c129)
                      refine V.iload X 1 dX12_chain_147 rfl ?_
                      refine V.istore X (lv' := [(7, .int (nI (aN A1))), (10, .int (nI 0)), (9, .int (nI (aN A1))), (8, .int (nI i)), (0, .ref (a 0)), (1, .int (nI n2)), (2, .int (nI k2)), (3, .int v), (4, .int (nI t2))]) dX12_chain_149 (ltn hn (by decide)) rfl ?_
                      refine V.iinc X (v := nI (i + 1)) (lv' := [(8, .int (nI (i + 1))), (7, .int (nI (aN A1))), (10, .int (nI 0)), (9, .int (nI (aN A1))), (0, .ref (a 0)), (1, .int (nI n2)), (2, .int (nI k2)), (3, .int v), (4, .int (nI t2))]) (k0 := 3) dX12_chain_151 rfl (inc_1 _) (ltn hn (by decide)) rfl ?_
                      refine V.goto X 102 dX12_chain_154 (by decide) ?_
                      refine V.eql (lv' := [(8, .int (nI (i + 1))), (7, .int (oI (some (aN A1)))), (10, .int (nI 0)), (9, .int (nI (aN A1))), (0, .ref (a 0)), (1, .int (nI n2)), (2, .int (nI k2)), (3, .int v), (4, .int (nI t2))]) rfl ?_
                      exact V.sub [0, 1, 4, 5, 6, 7, 8] rfl (FIN τ1 u1 (u2.tr b4))
                    · have hpl := b8 p rfl
                      have LQ : ∀ (w q : Nat) (τ2 : St), q + w = t2 → RRd (adA A1 k2 v (rpO q (some p))) τ2 → RST τ2 σ → V Z (rw (zG Z) a τ2) [(10, .int (nI q)), (9, .int (nI (aN A1))), (8, .int (nI i)), (7, .int (nI p)), (0, .ref (a 0)), (1, .int (nI n2)), (2, .int (nI k2)), (3, .int v), (4, .int (nI t2))] 119 [] := by
                        intro w
                        induction w with
                        | zero =>
                          intro q τ2 d1 d2 d3
                          have hqt : q = t2 := by omega
                          have d2 : RRd (adA A1 k2 v (rpO t2 (some p))) τ2 := by rw [← hqt]; exact d2
                          refine V.iload X 0 dX12_chain_119 rfl ?_
                          refine V.iload X 8 dX12_chain_121 rfl ?_
                          refine V.icmp_geN X 147 dX12_chain_123 (by decide) (by omega) (by omega) (fun c123 => ?_) (fun c123 => by exfalso; omega)
                          refine V.iload X 1 dX12_chain_147 rfl ?_
                          refine V.istore X (lv' := [(7, .int (nI (aN A1))), (10, .int (nI q)), (9, .int (nI (aN A1))), (8, .int (nI i)), (0, .ref (a 0)), (1, .int (nI n2)), (2, .int (nI k2)), (3, .int v), (4, .int (nI t2))]) dX12_chain_149 (ltn hn (by decide)) rfl ?_
                          refine V.iinc X (v := nI (i + 1)) (lv' := [(8, .int (nI (i + 1))), (7, .int (nI (aN A1))), (10, .int (nI q)), (9, .int (nI (aN A1))), (0, .ref (a 0)), (1, .int (nI n2)), (2, .int (nI k2)), (3, .int v), (4, .int (nI t2))]) (k0 := 3) dX12_chain_151 rfl (inc_1 _) (ltn hn (by decide)) rfl ?_
                          refine V.goto X 102 dX12_chain_154 (by decide) ?_
                          refine V.eql (lv' := [(8, .int (nI (i + 1))), (7, .int (oI (some (aN A1)))), (10, .int (nI q)), (9, .int (nI (aN A1))), (0, .ref (a 0)), (1, .int (nI n2)), (2, .int (nI k2)), (3, .int v), (4, .int (nI t2))]) rfl ?_
                          exact V.sub [0, 1, 4, 5, 6, 7, 8] rfl (FIN τ2 d2 d3)
                        | succ w ihw =>
                          intro q τ2 d1 d2 d3
                          have hlq : (rpO q (some p)).length = q := by rw [rpO_len]; simp [oc]
                          have hoc : oc (some p) * t2 = t2 := by simp [oc]
                          have eq1 : rpO (q + 1) (some p) = rpO q (some p) ++ [p] := by simp [rpO, List.replicate_succ']
                          refine V.iload X 0 dX12_chain_119 rfl ?_
                          refine V.iload X 8 dX12_chain_121 rfl ?_
                          refine V.icmp_geN X 147 dX12_chain_123 (by decide) (by omega) (by omega) (fun c123 => by exfalso; omega) (fun c123 => ?_)
                          refine V.iload X 3 dX12_chain_126 rfl ?_
                          refine V.iconst X (v := -1) dX12_chain_128 (by decide) ?_
                          refine V.icmp_eq X 147 dX12_chain_129 (by decide) (fun c129 => by exfalso; exact nI_nm1 (by omega) c129) (fun c129 => ?_)
                          refine V.aload_n X 4 dX12_chain_132 rfl rfl ?_
                          refine V.iload X 1 dX12_chain_133 rfl ?_
                          refine V.iload X 3 dX12_chain_135 rfl ?_
                          refine V.callV X rfl (rr_addPart (zl Z) (zG Z) a (aN A1) p d2 (hW2 q (by omega)) (by show aN A1 < aN A1 + 1; omega) (by rw [tot_ad, hlq]; omega)) cv_X12_108 rfl 0 rfl rfl (len hRf (by decide)) (len hRl (by decide)) hk0 ht0 [] rfl (Nat.le_of_ble_eq_true rfl) dX12_chain_137 ?_
                          rintro _ _ ⟨rfl, τ3, rfl, e1, e2⟩
                          refine V.eqs (st' := [.int (nI ((aP (adA A1 k2 v (rpO q (some p))) (aN A1)).length + 1))]) rfl ?_
                          refine V.pop X dX12_chain_140 rfl ?_
                          refine V.iinc X (v := nI (q + 1)) (lv' := [(10, .int (nI (q + 1))), (9, .int (nI (aN A1))), (8, .int (nI i)), (7, .int (nI p)), (0, .ref (a 0)), (1, .int (nI n2)), (2, .int (nI k2)), (3, .int v), (4, .int (nI t2))]) (k0 := 0) dX12_chain_141 rfl (inc_1 _) (ltn hn (by decide)) rfl ?_
                          refine V.goto X 119 dX12_chain_144 (by decide) ?_
                          refine V.sub [0, 1, 2, 3, 4, 5, 6, 7, 8] rfl (ihw (q + 1) τ3 (by omega) ?_ (e2.tr d3))
                          rw [eq1, ← adA_P]; exact e1
                      refine V.eql (lv' := [(8, .int (nI i)), (7, .int (nI p)), (0, .ref (a 0)), (1, .int (nI n2)), (2, .int (nI k2)), (3, .int v), (4, .int (nI t2))]) rfl ?_
                      refine V.iload X 0 dX12_chain_102 rfl ?_
                      refine V.iload_n X 3 dX12_chain_104 rfl rfl ?_
                      refine V.icmp_geN X 157 dX12_chain_105 (by decide) (by omega) (by omega) (fun c105 => by exfalso; omega) (fun c105 => ?_)
                      refine V.aload_n X 2 dX12_chain_108 rfl rfl ?_
                      refine V.iload_n X 4 dX12_chain_109 rfl rfl ?_
                      refine V.iload_n X 5 dX12_chain_110 rfl rfl ?_
                      refine V.callV X rfl (rr_add (zl Z) (zG Z) a k2 v b2 (by omega)) cv_X12_100 rfl 0 rfl rfl (len hRf (by decide)) (len hRl (by decide)) hk0 ht0 [] rfl (Nat.le_of_ble_eq_true rfl) dX12_chain_111 ?_
                      rintro _ _ ⟨rfl, τ1, rfl, u1, u2⟩
                      refine V.eqs (st' := [.int (nI (aN A1))]) rfl ?_
                      refine V.istore X (lv' := [(9, .int (nI (aN A1))), (8, .int (nI i)), (7, .int (nI p)), (0, .ref (a 0)), (1, .int (nI n2)), (2, .int (nI k2)), (3, .int v), (4, .int (nI t2))]) dX12_chain_114 (ltn hn (by decide)) rfl ?_
                      refine V.iconst X (v := nI 0) dX12_chain_116 (by decide) ?_
                      refine V.istore X (lv' := [(10, .int (nI 0)), (9, .int (nI (aN A1))), (8, .int (nI i)), (7, .int (nI p)), (0, .ref (a 0)), (1, .int (nI n2)), (2, .int (nI k2)), (3, .int v), (4, .int (nI t2))]) dX12_chain_117 (ltn hn (by decide)) rfl ?_
                      refine V.sub [0, 1, 2, 3, 4, 5, 6, 7, 8] rfl (LQ t2 0 τ1 (by omega) ?_ (u2.tr b4))
                      exact u1
                refine V.iload X 6 dX12_chain_95 rfl ?_
                refine V.topi (y := oI (fO f)) hfe ?_
                refine V.istore X (lv' := [(7, .int (oI (fO f))), (6, .int (nI ((n2 - 1 + oc (fO f)) * t2))), (0, .ref (a 0)), (1, .int (nI n2)), (2, .int (nI k2)), (3, .int v), (4, .int (nI t2)), (5, .int f)]) dX12_chain_97 (ltn hn (by decide)) rfl ?_
                refine V.iconst X (v := nI 0) dX12_chain_99 (by decide) ?_
                refine V.istore X (lv' := [(8, .int (nI 0)), (7, .int (oI (fO f))), (6, .int (nI ((n2 - 1 + oc (fO f)) * t2))), (0, .ref (a 0)), (1, .int (nI n2)), (2, .int (nI k2)), (3, .int v), (4, .int (nI t2)), (5, .int f)]) dX12_chain_100 (ltn hn (by decide)) rfl ?_
                exact V.sub [0, 1, 3, 4, 5, 6, 7] rfl (LP n2 0 σ (fO f) (yA S) (by omega) hx hW (RST.rf σ) rfl (fun _ => rfl) (by omega) hfo (Or.inl hrm.2) rfl)
              · refine V.bipush X (v := (-4)) dX12_chain_92 (by decide) ?_
                exact V.iret X rfl hA hk ht hQ rfl dX12_chain_94 (⟨by rw [sp_chain, if_pos hv, dN, nI_clamp (by omega), dN, nI_clamp (by omega), dN, nI_clamp (by omega), if_neg (by intro z; have z1 := z.1; have z2 : tot (aP (yA S)) (aN (yA S)) + (n2 - 1 + oc (fO f)) * t2 ≤ 4000 := z.2; omega)], σ, rfl, by rw [sp_chain, if_pos hv, dN, nI_clamp (by omega), dN, nI_clamp (by omega), dN, nI_clamp (by omega), if_neg (by intro z; have z1 := z.1; have z2 : tot (aP (yA S)) (aN (yA S)) + (n2 - 1 + oc (fO f)) * t2 ≤ 4000 := z.2; omega)]; exact h⟩)
          · refine V.iload_n X 1 dX12_chain_55 rfl rfl ?_
            refine V.iconst X (v := nI 1) dX12_chain_56 (by decide) ?_
            refine V.isubN X dX12_chain_57 (by omega) ?_
            refine V.goto X 62 dX12_chain_58 (by decide) ?_
            have hoc : oc (fO f) = 0 := by rw [fO, if_pos c52]; rfl
            have hml := Nat.mul_le_mul (show n2 - 1 + oc (fO f) ≤ 400 by rw [hoc]; omega) ht2
            refine V.topi (y := nI (n2 - 1 + oc (fO f))) (by rw [hoc]; congr 1; try omega) ?_
            refine V.iload X 4 dX12_chain_62 rfl ?_
            refine V.imulN X dX12_chain_64 ?_
            refine V.istore X (lv' := [(6, .int (nI ((n2 - 1 + oc (fO f)) * t2))), (0, .ref (a 0)), (1, .int (nI n2)), (2, .int (nI k2)), (3, .int v), (4, .int (nI t2)), (5, .int f)]) dX12_chain_65 (ltn hn (by decide)) rfl ?_
            refine V.aload_n X 1 dX12_chain_67 rfl rfl ?_
            refine Vg_r_0_deeds (x := gN σ 0) X tw_828 dX12_chain_68 rfl ?_
            refine V.iload_n X 2 dX12_chain_71 rfl rfl ?_
            refine V.iaddN X dX12_chain_72 ?_
            refine V.sipush X (v := nI 1500) dX12_chain_73 (by decide) ?_
            refine V.icmp_gtN X 92 dX12_chain_76 (by decide) (by omega) (by decide) (fun c76 => ?_) (fun c76 => ?_)
            · refine V.bipush X (v := (-4)) dX12_chain_92 (by decide) ?_
              exact V.iret X rfl hA hk ht hQ rfl dX12_chain_94 (⟨by rw [sp_chain, if_pos hv, dN, nI_clamp (by omega), dN, nI_clamp (by omega), dN, nI_clamp (by omega), if_neg (by intro z; have z1 := z.1; have z2 : tot (aP (yA S)) (aN (yA S)) + (n2 - 1 + oc (fO f)) * t2 ≤ 4000 := z.2; omega)], σ, rfl, by rw [sp_chain, if_pos hv, dN, nI_clamp (by omega), dN, nI_clamp (by omega), dN, nI_clamp (by omega), if_neg (by intro z; have z1 := z.1; have z2 : tot (aP (yA S)) (aN (yA S)) + (n2 - 1 + oc (fO f)) * t2 ≤ 4000 := z.2; omega)]; exact h⟩)
            · refine V.aload_n X 1 dX12_chain_79 rfl rfl ?_
              refine Vg_r_0_parts (x := gN σ 1) X tw_834 dX12_chain_80 rfl ?_
              refine V.iload X 0 dX12_chain_83 rfl ?_
              refine V.iaddN X dX12_chain_85 ?_
              refine V.sipush X (v := nI 4000) dX12_chain_86 (by decide) ?_
              refine V.icmp_leN X 95 dX12_chain_89 (by decide) (by omega) (by decide) (fun c89 => ?_) (fun c89 => ?_)
              · have hrm : aN (yA S) + n2 ≤ 1500 ∧ tot (aP (yA S)) (aN (yA S)) + (n2 - 1 + oc (fO f)) * t2 ≤ 4000 := ⟨by omega, by omega⟩
                have hok : sp_chain S (nI n2) (nI k2) v (nI t2) f = (nI (aN (yA S) + n2 - 1), stA S (chA k2 v t2 n2 (yA S) (fO f))) := by rw [sp_chain, if_pos hv, dN, nI_clamp (by omega), dN, nI_clamp (by omega), dN, nI_clamp (by omega), if_pos (by exact hrm)]
                have LP : ∀ (m i : Nat) (τ : St) (o : Option Nat) (A1 : Ar), i + m = n2 → RRd A1 τ → WA A1 → RST τ σ → aN A1 = aN (yA S) + i → (i = 0 → o = fO f) → (0 < i → o = some (aN (yA S) + i - 1)) → (∀ p, o = some p → p < aN A1) → tot (aP A1) (aN A1) + (m - 1 + oc o) * t2 ≤ 4000 ∨ m = 0 → chA k2 v t2 m A1 o = chA k2 v t2 n2 (yA S) (fO f) → V Z (rw (zG Z) a τ) [(8, .int (nI i)), (7, .int (oI o)), (0, .ref (a 0)), (1, .int (nI n2)), (2, .int (nI k2)), (3, .int v), (4, .int (nI t2))] 102 [] := by
                  intro m
                  induction m with
                  | zero =>
                    intro i τ o A1 b1 b2 b3 b4 b5 b6 b7 b8 b9 b10
                    refine V.iload X 0 dX12_chain_102 rfl ?_
                    refine V.iload_n X 3 dX12_chain_104 rfl rfl ?_
                    refine V.icmp_geN X 157 dX12_chain_105 (by decide) (by omega) (by omega) (fun c105 => ?_) (fun c105 => by exfalso; omega)
                    refine V.iload X 1 dX12_chain_157 rfl ?_
                    exact V.iret X rfl hA hk ht hQ rfl dX12_chain_159 (⟨by rw [hok, b7 (by omega), show i = n2 by omega]; rfl, τ, rfl, by rw [hok]; rw [← b10]; exact h.setA b3 b2 b4⟩)
                  | succ m ih =>
                    intro i τ o A1 b1 b2 b3 b4 b5 b6 b7 b8 b9 b10
                    have b11 : tot (aP A1) (aN A1) + (m + oc o) * t2 ≤ 4000 := by rcases b9 with q | q; (exact q); omega
                    have b12 : (m + oc o) * t2 = m * t2 + oc o * t2 := Nat.add_mul _ _ _
                    have hW2 : ∀ q, q ≤ t2 → WA (adA A1 k2 v (rpO q o)) := by
                      intro q hq
                      have hml : oc o * q ≤ oc o * t2 := Nat.mul_le_mul (Nat.le_refl _) hq
                      refine b3.ad (by omega) (by rw [rpO_len]; omega) hk2 (fun p hp => ?_)
                      cases o with
                      | none => cases hp
                      | some z => rw [List.eq_of_mem_replicate hp]; exact b8 z rfl
                    have FIN : ∀ τ2, RRd (adA A1 k2 v (rpO t2 o)) τ2 → RST τ2 σ → V Z (rw (zG Z) a τ2) [(8, .int (nI (i + 1))), (7, .int (oI (some (aN A1)))), (0, .ref (a 0)), (1, .int (nI n2)), (2, .int (nI k2)), (3, .int v), (4, .int (nI t2))] 102 [] := by
                      intro τ2 z1 z2
                      refine ih (i + 1) τ2 (some (aN A1)) _ (by omega) z1 (hW2 t2 (Nat.le_refl _)) z2 (by show aN A1 + 1 = _; omega) (by omega) (fun _ => by rw [b5]; congr 1) (fun p hp => by cases hp; show aN A1 < aN A1 + 1; omega) ?_ b10
                      rcases m with _ | m
                      · right; rfl
                      · left; rw [tot_ad, rpO_len]; show _ + (m + 1 - 1 + 1) * t2 ≤ 4000; rw [Nat.add_sub_cancel]; omega
                    rcases o with _ | p
                    · refine V.eql (lv' := [(8, .int (nI i)), (7, .int (-1)), (0, .ref (a 0)), (1, .int (nI n2)), (2, .int (nI k2)), (3, .int v), (4, .int (nI t2))]) rfl ?_
                      refine V.iload X 0 dX12_chain_102 rfl ?_
                      refine V.iload_n X 3 dX12_chain_104 rfl rfl ?_
                      refine V.icmp_geN X 157 dX12_chain_105 (by decide) (by omega) (by omega) (fun c105 => by exfalso; omega) (fun c105 => ?_)
                      refine V.aload_n X 2 dX12_chain_108 rfl rfl ?_
                      refine V.iload_n X 4 dX12_chain_109 rfl rfl ?_
                      refine V.iload_n X 5 dX12_chain_110 rfl rfl ?_
                      refine V.callV X rfl (rr_add (zl Z) (zG Z) a k2 v b2 (by omega)) cv_X12_100 rfl 0 rfl rfl (len hRf (by decide)) (len hRl (by decide)) hk0 ht0 [] rfl (Nat.le_of_ble_eq_true rfl) dX12_chain_111 ?_
                      rintro _ _ ⟨rfl, τ1, rfl, u1, u2⟩
                      refine V.eqs (st' := [.int (nI (aN A1))]) rfl ?_
                      refine V.istore X (lv' := [(9, .int (nI (aN A1))), (8, .int (nI i)), (7, .int (-1)), (0, .ref (a 0)), (1, .int (nI n2)), (2, .int (nI k2)), (3, .int v), (4, .int (nI t2))]) dX12_chain_114 (ltn hn (by decide)) rfl ?_
                      refine V.iconst X (v := nI 0) dX12_chain_116 (by decide) ?_
                      refine V.istore X (lv' := [(10, .int (nI 0)), (9, .int (nI (aN A1))), (8, .int (nI i)), (7, .int (-1)), (0, .ref (a 0)), (1, .int (nI n2)), (2, .int (nI k2)), (3, .int v), (4, .int (nI t2))]) dX12_chain_117 (ltn hn (by decide)) rfl ?_
                      refine V.iload X 0 dX12_chain_119 rfl ?_
                      refine V.iload X 8 dX12_chain_121 rfl ?_
                      refine V.icmp_geN X 147 dX12_chain_123 (by decide) (by decide) (by omega) (fun c123 => by exfalso; omega) (fun c123 => ?_)
                      refine V.iload X 3 dX12_chain_126 rfl ?_
                      refine V.iconst X (v := -1) dX12_chain_128 (by decide) ?_
                      refine V.icmp_eq X 147 dX12_chain_129 (by decide) (fun c129 => ?_) (fun c129 => by exfalso; exact absurd rfl c129)
                      refine V.iload X 1 dX12_chain_147 rfl ?_
                      refine V.istore X (lv' := [(7, .int (nI (aN A1))), (10, .int (nI 0)), (9, .int (nI (aN A1))), (8, .int (nI i)), (0, .ref (a 0)), (1, .int (nI n2)), (2, .int (nI k2)), (3, .int v), (4, .int (nI t2))]) dX12_chain_149 (ltn hn (by decide)) rfl ?_
                      refine V.iinc X (v := nI (i + 1)) (lv' := [(8, .int (nI (i + 1))), (7, .int (nI (aN A1))), (10, .int (nI 0)), (9, .int (nI (aN A1))), (0, .ref (a 0)), (1, .int (nI n2)), (2, .int (nI k2)), (3, .int v), (4, .int (nI t2))]) (k0 := 3) dX12_chain_151 rfl (inc_1 _) (ltn hn (by decide)) rfl ?_
                      refine V.goto X 102 dX12_chain_154 (by decide) ?_
                      refine V.eql (lv' := [(8, .int (nI (i + 1))), (7, .int (oI (some (aN A1)))), (10, .int (nI 0)), (9, .int (nI (aN A1))), (0, .ref (a 0)), (1, .int (nI n2)), (2, .int (nI k2)), (3, .int v), (4, .int (nI t2))]) rfl ?_
                      exact V.sub [0, 1, 4, 5, 6, 7, 8] rfl (FIN τ1 u1 (u2.tr b4))
                    · have hpl := b8 p rfl
                      have LQ : ∀ (w q : Nat) (τ2 : St), q + w = t2 → RRd (adA A1 k2 v (rpO q (some p))) τ2 → RST τ2 σ → V Z (rw (zG Z) a τ2) [(10, .int (nI q)), (9, .int (nI (aN A1))), (8, .int (nI i)), (7, .int (nI p)), (0, .ref (a 0)), (1, .int (nI n2)), (2, .int (nI k2)), (3, .int v), (4, .int (nI t2))] 119 [] := by
                        intro w
                        induction w with
                        | zero =>
                          intro q τ2 d1 d2 d3
                          have hqt : q = t2 := by omega
                          have d2 : RRd (adA A1 k2 v (rpO t2 (some p))) τ2 := by rw [← hqt]; exact d2
                          refine V.iload X 0 dX12_chain_119 rfl ?_
                          refine V.iload X 8 dX12_chain_121 rfl ?_
                          refine V.icmp_geN X 147 dX12_chain_123 (by decide) (by omega) (by omega) (fun c123 => ?_) (fun c123 => by exfalso; omega)
                          refine V.iload X 1 dX12_chain_147 rfl ?_
                          refine V.istore X (lv' := [(7, .int (nI (aN A1))), (10, .int (nI q)), (9, .int (nI (aN A1))), (8, .int (nI i)), (0, .ref (a 0)), (1, .int (nI n2)), (2, .int (nI k2)), (3, .int v), (4, .int (nI t2))]) dX12_chain_149 (ltn hn (by decide)) rfl ?_
                          refine V.iinc X (v := nI (i + 1)) (lv' := [(8, .int (nI (i + 1))), (7, .int (nI (aN A1))), (10, .int (nI q)), (9, .int (nI (aN A1))), (0, .ref (a 0)), (1, .int (nI n2)), (2, .int (nI k2)), (3, .int v), (4, .int (nI t2))]) (k0 := 3) dX12_chain_151 rfl (inc_1 _) (ltn hn (by decide)) rfl ?_
                          refine V.goto X 102 dX12_chain_154 (by decide) ?_
                          refine V.eql (lv' := [(8, .int (nI (i + 1))), (7, .int (oI (some (aN A1)))), (10, .int (nI q)), (9, .int (nI (aN A1))), (0, .ref (a 0)), (1, .int (nI n2)), (2, .int (nI k2)), (3, .int v), (4, .int (nI t2))]) rfl ?_
                          exact V.sub [0, 1, 4, 5, 6, 7, 8] rfl (FIN τ2 d2 d3)
                        | succ w ihw =>
                          intro q τ2 d1 d2 d3
                          have hlq : (rpO q (some p)).length = q := by rw [rpO_len]; simp [oc]
                          have hoc : oc (some p) * t2 = t2 := by simp [oc]
                          have eq1 : rpO (q + 1) (some p) = rpO q (some p) ++ [p] := by simp [rpO, List.replicate_succ']
                          refine V.iload X 0 dX12_chain_119 rfl ?_
                          refine V.iload X 8 dX12_chain_121 rfl ?_
                          refine V.icmp_geN X 147 dX12_chain_123 (by decide) (by omega) (by omega) (fun c123 => by exfalso; omega) (fun c123 => ?_)
                          refine V.iload X 3 dX12_chain_126 rfl ?_
                          refine V.iconst X (v := -1) dX12_chain_128 (by decide) ?_
                          refine V.icmp_eq X 147 dX12_chain_129 (by decide) (fun c129 => by exfalso; exact nI_nm1 (by omega) c129) (fun c129 => ?_)
                          refine V.aload_n X 4 dX12_chain_132 rfl rfl ?_
                          refine V.iload X 1 dX12_chain_133 rfl ?_
                          refine V.iload X 3 dX12_chain_135 rfl ?_
                          refine V.callV X rfl (rr_addPart (zl Z) (zG Z) a (aN A1) p d2 (hW2 q (by omega)) (by show aN A1 < aN A1 + 1; omega) (by rw [tot_ad, hlq]; omega)) cv_X12_108 rfl 0 rfl rfl (len hRf (by decide)) (len hRl (by decide)) hk0 ht0 [] rfl (Nat.le_of_ble_eq_true rfl) dX12_chain_137 ?_
                          rintro _ _ ⟨rfl, τ3, rfl, e1, e2⟩
                          refine V.eqs (st' := [.int (nI ((aP (adA A1 k2 v (rpO q (some p))) (aN A1)).length + 1))]) rfl ?_
                          refine V.pop X dX12_chain_140 rfl ?_
                          refine V.iinc X (v := nI (q + 1)) (lv' := [(10, .int (nI (q + 1))), (9, .int (nI (aN A1))), (8, .int (nI i)), (7, .int (nI p)), (0, .ref (a 0)), (1, .int (nI n2)), (2, .int (nI k2)), (3, .int v), (4, .int (nI t2))]) (k0 := 0) dX12_chain_141 rfl (inc_1 _) (ltn hn (by decide)) rfl ?_
                          refine V.goto X 119 dX12_chain_144 (by decide) ?_
                          refine V.sub [0, 1, 2, 3, 4, 5, 6, 7, 8] rfl (ihw (q + 1) τ3 (by omega) ?_ (e2.tr d3))
                          rw [eq1, ← adA_P]; exact e1
                      refine V.eql (lv' := [(8, .int (nI i)), (7, .int (nI p)), (0, .ref (a 0)), (1, .int (nI n2)), (2, .int (nI k2)), (3, .int v), (4, .int (nI t2))]) rfl ?_
                      refine V.iload X 0 dX12_chain_102 rfl ?_
                      refine V.iload_n X 3 dX12_chain_104 rfl rfl ?_
                      refine V.icmp_geN X 157 dX12_chain_105 (by decide) (by omega) (by omega) (fun c105 => by exfalso; omega) (fun c105 => ?_)
                      refine V.aload_n X 2 dX12_chain_108 rfl rfl ?_
                      refine V.iload_n X 4 dX12_chain_109 rfl rfl ?_
                      refine V.iload_n X 5 dX12_chain_110 rfl rfl ?_
                      refine V.callV X rfl (rr_add (zl Z) (zG Z) a k2 v b2 (by omega)) cv_X12_100 rfl 0 rfl rfl (len hRf (by decide)) (len hRl (by decide)) hk0 ht0 [] rfl (Nat.le_of_ble_eq_true rfl) dX12_chain_111 ?_
                      rintro _ _ ⟨rfl, τ1, rfl, u1, u2⟩
                      refine V.eqs (st' := [.int (nI (aN A1))]) rfl ?_
                      refine V.istore X (lv' := [(9, .int (nI (aN A1))), (8, .int (nI i)), (7, .int (nI p)), (0, .ref (a 0)), (1, .int (nI n2)), (2, .int (nI k2)), (3, .int v), (4, .int (nI t2))]) dX12_chain_114 (ltn hn (by decide)) rfl ?_
                      refine V.iconst X (v := nI 0) dX12_chain_116 (by decide) ?_
                      refine V.istore X (lv' := [(10, .int (nI 0)), (9, .int (nI (aN A1))), (8, .int (nI i)), (7, .int (nI p)), (0, .ref (a 0)), (1, .int (nI n2)), (2, .int (nI k2)), (3, .int v), (4, .int (nI t2))]) dX12_chain_117 (ltn hn (by decide)) rfl ?_
                      refine V.sub [0, 1, 2, 3, 4, 5, 6, 7, 8] rfl (LQ t2 0 τ1 (by omega) ?_ (u2.tr b4))
                      exact u1
                refine V.iload X 6 dX12_chain_95 rfl ?_
                refine V.topi (y := oI (fO f)) hfe ?_
                refine V.istore X (lv' := [(7, .int (oI (fO f))), (6, .int (nI ((n2 - 1 + oc (fO f)) * t2))), (0, .ref (a 0)), (1, .int (nI n2)), (2, .int (nI k2)), (3, .int v), (4, .int (nI t2)), (5, .int f)]) dX12_chain_97 (ltn hn (by decide)) rfl ?_
                refine V.iconst X (v := nI 0) dX12_chain_99 (by decide) ?_
                refine V.istore X (lv' := [(8, .int (nI 0)), (7, .int (oI (fO f))), (6, .int (nI ((n2 - 1 + oc (fO f)) * t2))), (0, .ref (a 0)), (1, .int (nI n2)), (2, .int (nI k2)), (3, .int v), (4, .int (nI t2)), (5, .int f)]) dX12_chain_100 (ltn hn (by decide)) rfl ?_
                exact V.sub [0, 1, 3, 4, 5, 6, 7] rfl (LP n2 0 σ (fO f) (yA S) (by omega) hx hW (RST.rf σ) rfl (fun _ => rfl) (by omega) hfo (Or.inl hrm.2) rfl)
              · refine V.bipush X (v := (-4)) dX12_chain_92 (by decide) ?_
                exact V.iret X rfl hA hk ht hQ rfl dX12_chain_94 (⟨by rw [sp_chain, if_pos hv, dN, nI_clamp (by omega), dN, nI_clamp (by omega), dN, nI_clamp (by omega), if_neg (by intro z; have z1 := z.1; have z2 : tot (aP (yA S)) (aN (yA S)) + (n2 - 1 + oc (fO f)) * t2 ≤ 4000 := z.2; omega)], σ, rfl, by rw [sp_chain, if_pos hv, dN, nI_clamp (by omega), dN, nI_clamp (by omega), dN, nI_clamp (by omega), if_neg (by intro z; have z1 := z.1; have z2 : tot (aP (yA S)) (aN (yA S)) + (n2 - 1 + oc (fO f)) * t2 ≤ 4000 := z.2; omega)]; exact h⟩)
        · refine V.aload_n X 0 dX12_chain_37 rfl rfl ?_
          refine V.iload X 5 dX12_chain_38 rfl ?_
          refine V.callV X rfl (r_isDeed (zl Z) (zG Z) a σ f (by omega)) cv_X12_104 rfl 0 rfl rfl (len hRf (by decide)) (len hRl (by decide)) hk0 ht0 [] rfl (Nat.le_of_ble_eq_true rfl) dX12_chain_40 ?_
          rintro _ _ ⟨rfl, rfl⟩
          refine V.eqs (st' := [.int (bI (hasD (gN σ 0) f))]) rfl ?_
          refine V.if_neB X 49 dX12_chain_43 (by decide) (fun c43 => ?_) (fun c43 => ?_)
          · have hv : cOK S n k t f = true := by rw [cOK, c8, c28, ← inR_hasN (m := 11) (by decide), c18, ← g0, c43]; simp
            obtain ⟨n2, hn1, hn2, rfl⟩ := inR_nat (by decide) (by decide) c8
            obtain ⟨t2, ht1, ht2, rfl⟩ := inR_nat (by decide) (by decide) c28
            obtain ⟨k2, hk1, hk3, rfl⟩ := inR_nat (by decide) (by decide) c18
            have hk2 : k2 < 12 := by omega
            have hfo : ∀ p, fO f = some p → p < aN (yA S) := fO_lt hN (Or.inr (by rw [← g0]; exact c43))
            have hfe : f = oI (fO f) := fO_eq hN (Or.inr (by rw [← g0]; exact c43))
            refine V.iload X 5 dX12_chain_49 rfl ?_
            refine V.iconst X (v := -1) dX12_chain_51 (by decide) ?_
            refine V.icmp_ne X 61 dX12_chain_52 (by decide) (fun c52 => ?_) (fun c52 => ?_)
            · refine V.iload_n X 1 dX12_chain_61 rfl rfl ?_
              have hoc : oc (fO f) = 1 := by rw [fO, if_neg c52]; rfl
              have hml := Nat.mul_le_mul (show n2 - 1 + oc (fO f) ≤ 400 by rw [hoc]; omega) ht2
              refine V.topi (y := nI (n2 - 1 + oc (fO f))) (by rw [hoc]; congr 1; try omega) ?_
              refine V.iload X 4 dX12_chain_62 rfl ?_
              refine V.imulN X dX12_chain_64 ?_
              refine V.istore X (lv' := [(6, .int (nI ((n2 - 1 + oc (fO f)) * t2))), (0, .ref (a 0)), (1, .int (nI n2)), (2, .int (nI k2)), (3, .int v), (4, .int (nI t2)), (5, .int f)]) dX12_chain_65 (ltn hn (by decide)) rfl ?_
              refine V.aload_n X 1 dX12_chain_67 rfl rfl ?_
              refine Vg_r_0_deeds (x := gN σ 0) X tw_828 dX12_chain_68 rfl ?_
              refine V.iload_n X 2 dX12_chain_71 rfl rfl ?_
              refine V.iaddN X dX12_chain_72 ?_
              refine V.sipush X (v := nI 1500) dX12_chain_73 (by decide) ?_
              refine V.icmp_gtN X 92 dX12_chain_76 (by decide) (by omega) (by decide) (fun c76 => ?_) (fun c76 => ?_)
              · refine V.bipush X (v := (-4)) dX12_chain_92 (by decide) ?_
                exact V.iret X rfl hA hk ht hQ rfl dX12_chain_94 (⟨by rw [sp_chain, if_pos hv, dN, nI_clamp (by omega), dN, nI_clamp (by omega), dN, nI_clamp (by omega), if_neg (by intro z; have z1 := z.1; have z2 : tot (aP (yA S)) (aN (yA S)) + (n2 - 1 + oc (fO f)) * t2 ≤ 4000 := z.2; omega)], σ, rfl, by rw [sp_chain, if_pos hv, dN, nI_clamp (by omega), dN, nI_clamp (by omega), dN, nI_clamp (by omega), if_neg (by intro z; have z1 := z.1; have z2 : tot (aP (yA S)) (aN (yA S)) + (n2 - 1 + oc (fO f)) * t2 ≤ 4000 := z.2; omega)]; exact h⟩)
              · refine V.aload_n X 1 dX12_chain_79 rfl rfl ?_
                refine Vg_r_0_parts (x := gN σ 1) X tw_834 dX12_chain_80 rfl ?_
                refine V.iload X 0 dX12_chain_83 rfl ?_
                refine V.iaddN X dX12_chain_85 ?_
                refine V.sipush X (v := nI 4000) dX12_chain_86 (by decide) ?_
                refine V.icmp_leN X 95 dX12_chain_89 (by decide) (by omega) (by decide) (fun c89 => ?_) (fun c89 => ?_)
                · have hrm : aN (yA S) + n2 ≤ 1500 ∧ tot (aP (yA S)) (aN (yA S)) + (n2 - 1 + oc (fO f)) * t2 ≤ 4000 := ⟨by omega, by omega⟩
                  have hok : sp_chain S (nI n2) (nI k2) v (nI t2) f = (nI (aN (yA S) + n2 - 1), stA S (chA k2 v t2 n2 (yA S) (fO f))) := by rw [sp_chain, if_pos hv, dN, nI_clamp (by omega), dN, nI_clamp (by omega), dN, nI_clamp (by omega), if_pos (by exact hrm)]
                  have LP : ∀ (m i : Nat) (τ : St) (o : Option Nat) (A1 : Ar), i + m = n2 → RRd A1 τ → WA A1 → RST τ σ → aN A1 = aN (yA S) + i → (i = 0 → o = fO f) → (0 < i → o = some (aN (yA S) + i - 1)) → (∀ p, o = some p → p < aN A1) → tot (aP A1) (aN A1) + (m - 1 + oc o) * t2 ≤ 4000 ∨ m = 0 → chA k2 v t2 m A1 o = chA k2 v t2 n2 (yA S) (fO f) → V Z (rw (zG Z) a τ) [(8, .int (nI i)), (7, .int (oI o)), (0, .ref (a 0)), (1, .int (nI n2)), (2, .int (nI k2)), (3, .int v), (4, .int (nI t2))] 102 [] := by
                    intro m
                    induction m with
                    | zero =>
                      intro i τ o A1 b1 b2 b3 b4 b5 b6 b7 b8 b9 b10
                      refine V.iload X 0 dX12_chain_102 rfl ?_
                      refine V.iload_n X 3 dX12_chain_104 rfl rfl ?_
                      refine V.icmp_geN X 157 dX12_chain_105 (by decide) (by omega) (by omega) (fun c105 => ?_) (fun c105 => by exfalso; omega)
                      refine V.iload X 1 dX12_chain_157 rfl ?_
                      exact V.iret X rfl hA hk ht hQ rfl dX12_chain_159 (⟨by rw [hok, b7 (by omega), show i = n2 by omega]; rfl, τ, rfl, by rw [hok]; rw [← b10]; exact h.setA b3 b2 b4⟩)
                    | succ m ih =>
                      intro i τ o A1 b1 b2 b3 b4 b5 b6 b7 b8 b9 b10
                      have b11 : tot (aP A1) (aN A1) + (m + oc o) * t2 ≤ 4000 := by rcases b9 with q | q; (exact q); omega
                      have b12 : (m + oc o) * t2 = m * t2 + oc o * t2 := Nat.add_mul _ _ _
                      have hW2 : ∀ q, q ≤ t2 → WA (adA A1 k2 v (rpO q o)) := by
                        intro q hq
                        have hml : oc o * q ≤ oc o * t2 := Nat.mul_le_mul (Nat.le_refl _) hq
                        refine b3.ad (by omega) (by rw [rpO_len]; omega) hk2 (fun p hp => ?_)
                        cases o with
                        | none => cases hp
                        | some z => rw [List.eq_of_mem_replicate hp]; exact b8 z rfl
                      have FIN : ∀ τ2, RRd (adA A1 k2 v (rpO t2 o)) τ2 → RST τ2 σ → V Z (rw (zG Z) a τ2) [(8, .int (nI (i + 1))), (7, .int (oI (some (aN A1)))), (0, .ref (a 0)), (1, .int (nI n2)), (2, .int (nI k2)), (3, .int v), (4, .int (nI t2))] 102 [] := by
                        intro τ2 z1 z2
                        refine ih (i + 1) τ2 (some (aN A1)) _ (by omega) z1 (hW2 t2 (Nat.le_refl _)) z2 (by show aN A1 + 1 = _; omega) (by omega) (fun _ => by rw [b5]; congr 1) (fun p hp => by cases hp; show aN A1 < aN A1 + 1; omega) ?_ b10
                        rcases m with _ | m
                        · right; rfl
                        · left; rw [tot_ad, rpO_len]; show _ + (m + 1 - 1 + 1) * t2 ≤ 4000; rw [Nat.add_sub_cancel]; omega
                      rcases o with _ | p
                      · refine V.eql (lv' := [(8, .int (nI i)), (7, .int (-1)), (0, .ref (a 0)), (1, .int (nI n2)), (2, .int (nI k2)), (3, .int v), (4, .int (nI t2))]) rfl ?_
                        refine V.iload X 0 dX12_chain_102 rfl ?_
                        refine V.iload_n X 3 dX12_chain_104 rfl rfl ?_
                        refine V.icmp_geN X 157 dX12_chain_105 (by decide) (by omega) (by omega) (fun c105 => by exfalso; omega) (fun c105 => ?_)
                        refine V.aload_n X 2 dX12_chain_108 rfl rfl ?_
                        refine V.iload_n X 4 dX12_chain_109 rfl rfl ?_
                        refine V.iload_n X 5 dX12_chain_110 rfl rfl ?_
                        refine V.callV X rfl (rr_add (zl Z) (zG Z) a k2 v b2 (by omega)) cv_X12_100 rfl 0 rfl rfl (len hRf (by decide)) (len hRl (by decide)) hk0 ht0 [] rfl (Nat.le_of_ble_eq_true rfl) dX12_chain_111 ?_
                        rintro _ _ ⟨rfl, τ1, rfl, u1, u2⟩
                        refine V.eqs (st' := [.int (nI (aN A1))]) rfl ?_
                        refine V.istore X (lv' := [(9, .int (nI (aN A1))), (8, .int (nI i)), (7, .int (-1)), (0, .ref (a 0)), (1, .int (nI n2)), (2, .int (nI k2)), (3, .int v), (4, .int (nI t2))]) dX12_chain_114 (ltn hn (by decide)) rfl ?_
                        refine V.iconst X (v := nI 0) dX12_chain_116 (by decide) ?_
                        refine V.istore X (lv' := [(10, .int (nI 0)), (9, .int (nI (aN A1))), (8, .int (nI i)), (7, .int (-1)), (0, .ref (a 0)), (1, .int (nI n2)), (2, .int (nI k2)), (3, .int v), (4, .int (nI t2))]) dX12_chain_117 (ltn hn (by decide)) rfl ?_
                        refine V.iload X 0 dX12_chain_119 rfl ?_
                        refine V.iload X 8 dX12_chain_121 rfl ?_
                        refine V.icmp_geN X 147 dX12_chain_123 (by decide) (by decide) (by omega) (fun c123 => by exfalso; omega) (fun c123 => ?_)
                        refine V.iload X 3 dX12_chain_126 rfl ?_
                        refine V.iconst X (v := -1) dX12_chain_128 (by decide) ?_
                        refine V.icmp_eq X 147 dX12_chain_129 (by decide) (fun c129 => ?_) (fun c129 => by exfalso; exact absurd rfl c129)
                        refine V.iload X 1 dX12_chain_147 rfl ?_
                        refine V.istore X (lv' := [(7, .int (nI (aN A1))), (10, .int (nI 0)), (9, .int (nI (aN A1))), (8, .int (nI i)), (0, .ref (a 0)), (1, .int (nI n2)), (2, .int (nI k2)), (3, .int v), (4, .int (nI t2))]) dX12_chain_149 (ltn hn (by decide)) rfl ?_
                        refine V.iinc X (v := nI (i + 1)) (lv' := [(8, .int (nI (i + 1))), (7, .int (nI (aN A1))), (10, .int (nI 0)), (9, .int (nI (aN A1))), (0, .ref (a 0)), (1, .int (nI n2)), (2, .int (nI k2)), (3, .int v), (4, .int (nI t2))]) (k0 := 3) dX12_chain_151 rfl (inc_1 _) (ltn hn (by decide)) rfl ?_
                        refine V.goto X 102 dX12_chain_154 (by decide) ?_
                        refine V.eql (lv' := [(8, .int (nI (i + 1))), (7, .int (oI (some (aN A1)))), (10, .int (nI 0)), (9, .int (nI (aN A1))), (0, .ref (a 0)), (1, .int (nI n2)), (2, .int (nI k2)), (3, .int v), (4, .int (nI t2))]) rfl ?_
                        exact V.sub [0, 1, 4, 5, 6, 7, 8] rfl (FIN τ1 u1 (u2.tr b4))
                      · have hpl := b8 p rfl
                        have LQ : ∀ (w q : Nat) (τ2 : St), q + w = t2 → RRd (adA A1 k2 v (rpO q (some p))) τ2 → RST τ2 σ → V Z (rw (zG Z) a τ2) [(10, .int (nI q)), (9, .int (nI (aN A1))), (8, .int (nI i)), (7, .int (nI p)), (0, .ref (a 0)), (1, .int (nI n2)), (2, .int (nI k2)), (3, .int v), (4, .int (nI t2))] 119 [] := by
                          intro w
                          induction w with
                          | zero =>
                            intro q τ2 d1 d2 d3
                            have hqt : q = t2 := by omega
                            have d2 : RRd (adA A1 k2 v (rpO t2 (some p))) τ2 := by rw [← hqt]; exact d2
                            refine V.iload X 0 dX12_chain_119 rfl ?_
                            refine V.iload X 8 dX12_chain_121 rfl ?_
                            refine V.icmp_geN X 147 dX12_chain_123 (by decide) (by omega) (by omega) (fun c123 => ?_) (fun c123 => by exfalso; omega)
                            refine V.iload X 1 dX12_chain_147 rfl ?_
                            refine V.istore X (lv' := [(7, .int (nI (aN A1))), (10, .int (nI q)), (9, .int (nI (aN A1))), (8, .int (nI i)), (0, .ref (a 0)), (1, .int (nI n2)), (2, .int (nI k2)), (3, .int v), (4, .int (nI t2))]) dX12_chain_149 (ltn hn (by decide)) rfl ?_
                            refine V.iinc X (v := nI (i + 1)) (lv' := [(8, .int (nI (i + 1))), (7, .int (nI (aN A1))), (10, .int (nI q)), (9, .int (nI (aN A1))), (0, .ref (a 0)), (1, .int (nI n2)), (2, .int (nI k2)), (3, .int v), (4, .int (nI t2))]) (k0 := 3) dX12_chain_151 rfl (inc_1 _) (ltn hn (by decide)) rfl ?_
                            refine V.goto X 102 dX12_chain_154 (by decide) ?_
                            refine V.eql (lv' := [(8, .int (nI (i + 1))), (7, .int (oI (some (aN A1)))), (10, .int (nI q)), (9, .int (nI (aN A1))), (0, .ref (a 0)), (1, .int (nI n2)), (2, .int (nI k2)), (3, .int v), (4, .int (nI t2))]) rfl ?_
                            exact V.sub [0, 1, 4, 5, 6, 7, 8] rfl (FIN τ2 d2 d3)
                          | succ w ihw =>
                            intro q τ2 d1 d2 d3
                            have hlq : (rpO q (some p)).length = q := by rw [rpO_len]; simp [oc]
                            have hoc : oc (some p) * t2 = t2 := by simp [oc]
                            have eq1 : rpO (q + 1) (some p) = rpO q (some p) ++ [p] := by simp [rpO, List.replicate_succ']
                            refine V.iload X 0 dX12_chain_119 rfl ?_
                            refine V.iload X 8 dX12_chain_121 rfl ?_
                            refine V.icmp_geN X 147 dX12_chain_123 (by decide) (by omega) (by omega) (fun c123 => by exfalso; omega) (fun c123 => ?_)
                            refine V.iload X 3 dX12_chain_126 rfl ?_
                            refine V.iconst X (v := -1) dX12_chain_128 (by decide) ?_
                            refine V.icmp_eq X 147 dX12_chain_129 (by decide) (fun c129 => by exfalso; exact nI_nm1 (by omega) c129) (fun c129 => ?_)
                            refine V.aload_n X 4 dX12_chain_132 rfl rfl ?_
                            refine V.iload X 1 dX12_chain_133 rfl ?_
                            refine V.iload X 3 dX12_chain_135 rfl ?_
                            refine V.callV X rfl (rr_addPart (zl Z) (zG Z) a (aN A1) p d2 (hW2 q (by omega)) (by show aN A1 < aN A1 + 1; omega) (by rw [tot_ad, hlq]; omega)) cv_X12_108 rfl 0 rfl rfl (len hRf (by decide)) (len hRl (by decide)) hk0 ht0 [] rfl (Nat.le_of_ble_eq_true rfl) dX12_chain_137 ?_
                            rintro _ _ ⟨rfl, τ3, rfl, e1, e2⟩
                            refine V.eqs (st' := [.int (nI ((aP (adA A1 k2 v (rpO q (some p))) (aN A1)).length + 1))]) rfl ?_
                            refine V.pop X dX12_chain_140 rfl ?_
                            refine V.iinc X (v := nI (q + 1)) (lv' := [(10, .int (nI (q + 1))), (9, .int (nI (aN A1))), (8, .int (nI i)), (7, .int (nI p)), (0, .ref (a 0)), (1, .int (nI n2)), (2, .int (nI k2)), (3, .int v), (4, .int (nI t2))]) (k0 := 0) dX12_chain_141 rfl (inc_1 _) (ltn hn (by decide)) rfl ?_
                            refine V.goto X 119 dX12_chain_144 (by decide) ?_
                            refine V.sub [0, 1, 2, 3, 4, 5, 6, 7, 8] rfl (ihw (q + 1) τ3 (by omega) ?_ (e2.tr d3))
                            rw [eq1, ← adA_P]; exact e1
                        refine V.eql (lv' := [(8, .int (nI i)), (7, .int (nI p)), (0, .ref (a 0)), (1, .int (nI n2)), (2, .int (nI k2)), (3, .int v), (4, .int (nI t2))]) rfl ?_
                        refine V.iload X 0 dX12_chain_102 rfl ?_
                        refine V.iload_n X 3 dX12_chain_104 rfl rfl ?_
                        refine V.icmp_geN X 157 dX12_chain_105 (by decide) (by omega) (by omega) (fun c105 => by exfalso; omega) (fun c105 => ?_)
                        refine V.aload_n X 2 dX12_chain_108 rfl rfl ?_
                        refine V.iload_n X 4 dX12_chain_109 rfl rfl ?_
                        refine V.iload_n X 5 dX12_chain_110 rfl rfl ?_
                        refine V.callV X rfl (rr_add (zl Z) (zG Z) a k2 v b2 (by omega)) cv_X12_100 rfl 0 rfl rfl (len hRf (by decide)) (len hRl (by decide)) hk0 ht0 [] rfl (Nat.le_of_ble_eq_true rfl) dX12_chain_111 ?_
                        rintro _ _ ⟨rfl, τ1, rfl, u1, u2⟩
                        refine V.eqs (st' := [.int (nI (aN A1))]) rfl ?_
                        refine V.istore X (lv' := [(9, .int (nI (aN A1))), (8, .int (nI i)), (7, .int (nI p)), (0, .ref (a 0)), (1, .int (nI n2)), (2, .int (nI k2)), (3, .int v), (4, .int (nI t2))]) dX12_chain_114 (ltn hn (by decide)) rfl ?_
                        refine V.iconst X (v := nI 0) dX12_chain_116 (by decide) ?_
                        refine V.istore X (lv' := [(10, .int (nI 0)), (9, .int (nI (aN A1))), (8, .int (nI i)), (7, .int (nI p)), (0, .ref (a 0)), (1, .int (nI n2)), (2, .int (nI k2)), (3, .int v), (4, .int (nI t2))]) dX12_chain_117 (ltn hn (by decide)) rfl ?_
                        refine V.sub [0, 1, 2, 3, 4, 5, 6, 7, 8] rfl (LQ t2 0 τ1 (by omega) ?_ (u2.tr b4))
                        exact u1
                  refine V.iload X 6 dX12_chain_95 rfl ?_
                  refine V.topi (y := oI (fO f)) hfe ?_
                  refine V.istore X (lv' := [(7, .int (oI (fO f))), (6, .int (nI ((n2 - 1 + oc (fO f)) * t2))), (0, .ref (a 0)), (1, .int (nI n2)), (2, .int (nI k2)), (3, .int v), (4, .int (nI t2)), (5, .int f)]) dX12_chain_97 (ltn hn (by decide)) rfl ?_
                  refine V.iconst X (v := nI 0) dX12_chain_99 (by decide) ?_
                  refine V.istore X (lv' := [(8, .int (nI 0)), (7, .int (oI (fO f))), (6, .int (nI ((n2 - 1 + oc (fO f)) * t2))), (0, .ref (a 0)), (1, .int (nI n2)), (2, .int (nI k2)), (3, .int v), (4, .int (nI t2)), (5, .int f)]) dX12_chain_100 (ltn hn (by decide)) rfl ?_
                  exact V.sub [0, 1, 3, 4, 5, 6, 7] rfl (LP n2 0 σ (fO f) (yA S) (by omega) hx hW (RST.rf σ) rfl (fun _ => rfl) (by omega) hfo (Or.inl hrm.2) rfl)
                · refine V.bipush X (v := (-4)) dX12_chain_92 (by decide) ?_
                  exact V.iret X rfl hA hk ht hQ rfl dX12_chain_94 (⟨by rw [sp_chain, if_pos hv, dN, nI_clamp (by omega), dN, nI_clamp (by omega), dN, nI_clamp (by omega), if_neg (by intro z; have z1 := z.1; have z2 : tot (aP (yA S)) (aN (yA S)) + (n2 - 1 + oc (fO f)) * t2 ≤ 4000 := z.2; omega)], σ, rfl, by rw [sp_chain, if_pos hv, dN, nI_clamp (by omega), dN, nI_clamp (by omega), dN, nI_clamp (by omega), if_neg (by intro z; have z1 := z.1; have z2 : tot (aP (yA S)) (aN (yA S)) + (n2 - 1 + oc (fO f)) * t2 ≤ 4000 := z.2; omega)]; exact h⟩)
            · refine V.iload_n X 1 dX12_chain_55 rfl rfl ?_
              refine V.iconst X (v := nI 1) dX12_chain_56 (by decide) ?_
              refine V.isubN X dX12_chain_57 (by omega) ?_
              refine V.goto X 62 dX12_chain_58 (by decide) ?_
              have hoc : oc (fO f) = 0 := by rw [fO, if_pos c52]; rfl
              have hml := Nat.mul_le_mul (show n2 - 1 + oc (fO f) ≤ 400 by rw [hoc]; omega) ht2
              refine V.topi (y := nI (n2 - 1 + oc (fO f))) (by rw [hoc]; congr 1; try omega) ?_
              refine V.iload X 4 dX12_chain_62 rfl ?_
              refine V.imulN X dX12_chain_64 ?_
              refine V.istore X (lv' := [(6, .int (nI ((n2 - 1 + oc (fO f)) * t2))), (0, .ref (a 0)), (1, .int (nI n2)), (2, .int (nI k2)), (3, .int v), (4, .int (nI t2)), (5, .int f)]) dX12_chain_65 (ltn hn (by decide)) rfl ?_
              refine V.aload_n X 1 dX12_chain_67 rfl rfl ?_
              refine Vg_r_0_deeds (x := gN σ 0) X tw_828 dX12_chain_68 rfl ?_
              refine V.iload_n X 2 dX12_chain_71 rfl rfl ?_
              refine V.iaddN X dX12_chain_72 ?_
              refine V.sipush X (v := nI 1500) dX12_chain_73 (by decide) ?_
              refine V.icmp_gtN X 92 dX12_chain_76 (by decide) (by omega) (by decide) (fun c76 => ?_) (fun c76 => ?_)
              · refine V.bipush X (v := (-4)) dX12_chain_92 (by decide) ?_
                exact V.iret X rfl hA hk ht hQ rfl dX12_chain_94 (⟨by rw [sp_chain, if_pos hv, dN, nI_clamp (by omega), dN, nI_clamp (by omega), dN, nI_clamp (by omega), if_neg (by intro z; have z1 := z.1; have z2 : tot (aP (yA S)) (aN (yA S)) + (n2 - 1 + oc (fO f)) * t2 ≤ 4000 := z.2; omega)], σ, rfl, by rw [sp_chain, if_pos hv, dN, nI_clamp (by omega), dN, nI_clamp (by omega), dN, nI_clamp (by omega), if_neg (by intro z; have z1 := z.1; have z2 : tot (aP (yA S)) (aN (yA S)) + (n2 - 1 + oc (fO f)) * t2 ≤ 4000 := z.2; omega)]; exact h⟩)
              · refine V.aload_n X 1 dX12_chain_79 rfl rfl ?_
                refine Vg_r_0_parts (x := gN σ 1) X tw_834 dX12_chain_80 rfl ?_
                refine V.iload X 0 dX12_chain_83 rfl ?_
                refine V.iaddN X dX12_chain_85 ?_
                refine V.sipush X (v := nI 4000) dX12_chain_86 (by decide) ?_
                refine V.icmp_leN X 95 dX12_chain_89 (by decide) (by omega) (by decide) (fun c89 => ?_) (fun c89 => ?_)
                · have hrm : aN (yA S) + n2 ≤ 1500 ∧ tot (aP (yA S)) (aN (yA S)) + (n2 - 1 + oc (fO f)) * t2 ≤ 4000 := ⟨by omega, by omega⟩
                  have hok : sp_chain S (nI n2) (nI k2) v (nI t2) f = (nI (aN (yA S) + n2 - 1), stA S (chA k2 v t2 n2 (yA S) (fO f))) := by rw [sp_chain, if_pos hv, dN, nI_clamp (by omega), dN, nI_clamp (by omega), dN, nI_clamp (by omega), if_pos (by exact hrm)]
                  have LP : ∀ (m i : Nat) (τ : St) (o : Option Nat) (A1 : Ar), i + m = n2 → RRd A1 τ → WA A1 → RST τ σ → aN A1 = aN (yA S) + i → (i = 0 → o = fO f) → (0 < i → o = some (aN (yA S) + i - 1)) → (∀ p, o = some p → p < aN A1) → tot (aP A1) (aN A1) + (m - 1 + oc o) * t2 ≤ 4000 ∨ m = 0 → chA k2 v t2 m A1 o = chA k2 v t2 n2 (yA S) (fO f) → V Z (rw (zG Z) a τ) [(8, .int (nI i)), (7, .int (oI o)), (0, .ref (a 0)), (1, .int (nI n2)), (2, .int (nI k2)), (3, .int v), (4, .int (nI t2))] 102 [] := by
                    intro m
                    induction m with
                    | zero =>
                      intro i τ o A1 b1 b2 b3 b4 b5 b6 b7 b8 b9 b10
                      refine V.iload X 0 dX12_chain_102 rfl ?_
                      refine V.iload_n X 3 dX12_chain_104 rfl rfl ?_
                      refine V.icmp_geN X 157 dX12_chain_105 (by decide) (by omega) (by omega) (fun c105 => ?_) (fun c105 => by exfalso; omega)
                      refine V.iload X 1 dX12_chain_157 rfl ?_
                      exact V.iret X rfl hA hk ht hQ rfl dX12_chain_159 (⟨by rw [hok, b7 (by omega), show i = n2 by omega]; rfl, τ, rfl, by rw [hok]; rw [← b10]; exact h.setA b3 b2 b4⟩)
                    | succ m ih =>
                      intro i τ o A1 b1 b2 b3 b4 b5 b6 b7 b8 b9 b10
                      have b11 : tot (aP A1) (aN A1) + (m + oc o) * t2 ≤ 4000 := by rcases b9 with q | q; (exact q); omega
                      have b12 : (m + oc o) * t2 = m * t2 + oc o * t2 := Nat.add_mul _ _ _
                      have hW2 : ∀ q, q ≤ t2 → WA (adA A1 k2 v (rpO q o)) := by
                        intro q hq
                        have hml : oc o * q ≤ oc o * t2 := Nat.mul_le_mul (Nat.le_refl _) hq
                        refine b3.ad (by omega) (by rw [rpO_len]; omega) hk2 (fun p hp => ?_)
                        cases o with
                        | none => cases hp
                        | some z => rw [List.eq_of_mem_replicate hp]; exact b8 z rfl
                      have FIN : ∀ τ2, RRd (adA A1 k2 v (rpO t2 o)) τ2 → RST τ2 σ → V Z (rw (zG Z) a τ2) [(8, .int (nI (i + 1))), (7, .int (oI (some (aN A1)))), (0, .ref (a 0)), (1, .int (nI n2)), (2, .int (nI k2)), (3, .int v), (4, .int (nI t2))] 102 [] := by
                        intro τ2 z1 z2
                        refine ih (i + 1) τ2 (some (aN A1)) _ (by omega) z1 (hW2 t2 (Nat.le_refl _)) z2 (by show aN A1 + 1 = _; omega) (by omega) (fun _ => by rw [b5]; congr 1) (fun p hp => by cases hp; show aN A1 < aN A1 + 1; omega) ?_ b10
                        rcases m with _ | m
                        · right; rfl
                        · left; rw [tot_ad, rpO_len]; show _ + (m + 1 - 1 + 1) * t2 ≤ 4000; rw [Nat.add_sub_cancel]; omega
                      rcases o with _ | p
                      · refine V.eql (lv' := [(8, .int (nI i)), (7, .int (-1)), (0, .ref (a 0)), (1, .int (nI n2)), (2, .int (nI k2)), (3, .int v), (4, .int (nI t2))]) rfl ?_
                        refine V.iload X 0 dX12_chain_102 rfl ?_
                        refine V.iload_n X 3 dX12_chain_104 rfl rfl ?_
                        refine V.icmp_geN X 157 dX12_chain_105 (by decide) (by omega) (by omega) (fun c105 => by exfalso; omega) (fun c105 => ?_)
                        refine V.aload_n X 2 dX12_chain_108 rfl rfl ?_
                        refine V.iload_n X 4 dX12_chain_109 rfl rfl ?_
                        refine V.iload_n X 5 dX12_chain_110 rfl rfl ?_
                        refine V.callV X rfl (rr_add (zl Z) (zG Z) a k2 v b2 (by omega)) cv_X12_100 rfl 0 rfl rfl (len hRf (by decide)) (len hRl (by decide)) hk0 ht0 [] rfl (Nat.le_of_ble_eq_true rfl) dX12_chain_111 ?_
                        rintro _ _ ⟨rfl, τ1, rfl, u1, u2⟩
                        refine V.eqs (st' := [.int (nI (aN A1))]) rfl ?_
                        refine V.istore X (lv' := [(9, .int (nI (aN A1))), (8, .int (nI i)), (7, .int (-1)), (0, .ref (a 0)), (1, .int (nI n2)), (2, .int (nI k2)), (3, .int v), (4, .int (nI t2))]) dX12_chain_114 (ltn hn (by decide)) rfl ?_
                        refine V.iconst X (v := nI 0) dX12_chain_116 (by decide) ?_
                        refine V.istore X (lv' := [(10, .int (nI 0)), (9, .int (nI (aN A1))), (8, .int (nI i)), (7, .int (-1)), (0, .ref (a 0)), (1, .int (nI n2)), (2, .int (nI k2)), (3, .int v), (4, .int (nI t2))]) dX12_chain_117 (ltn hn (by decide)) rfl ?_
                        refine V.iload X 0 dX12_chain_119 rfl ?_
                        refine V.iload X 8 dX12_chain_121 rfl ?_
                        refine V.icmp_geN X 147 dX12_chain_123 (by decide) (by decide) (by omega) (fun c123 => by exfalso; omega) (fun c123 => ?_)
                        refine V.iload X 3 dX12_chain_126 rfl ?_
                        refine V.iconst X (v := -1) dX12_chain_128 (by decide) ?_
                        refine V.icmp_eq X 147 dX12_chain_129 (by decide) (fun c129 => ?_) (fun c129 => by exfalso; exact absurd rfl c129)
                        refine V.iload X 1 dX12_chain_147 rfl ?_
                        refine V.istore X (lv' := [(7, .int (nI (aN A1))), (10, .int (nI 0)), (9, .int (nI (aN A1))), (8, .int (nI i)), (0, .ref (a 0)), (1, .int (nI n2)), (2, .int (nI k2)), (3, .int v), (4, .int (nI t2))]) dX12_chain_149 (ltn hn (by decide)) rfl ?_
                        refine V.iinc X (v := nI (i + 1)) (lv' := [(8, .int (nI (i + 1))), (7, .int (nI (aN A1))), (10, .int (nI 0)), (9, .int (nI (aN A1))), (0, .ref (a 0)), (1, .int (nI n2)), (2, .int (nI k2)), (3, .int v), (4, .int (nI t2))]) (k0 := 3) dX12_chain_151 rfl (inc_1 _) (ltn hn (by decide)) rfl ?_
                        refine V.goto X 102 dX12_chain_154 (by decide) ?_
                        refine V.eql (lv' := [(8, .int (nI (i + 1))), (7, .int (oI (some (aN A1)))), (10, .int (nI 0)), (9, .int (nI (aN A1))), (0, .ref (a 0)), (1, .int (nI n2)), (2, .int (nI k2)), (3, .int v), (4, .int (nI t2))]) rfl ?_
                        exact V.sub [0, 1, 4, 5, 6, 7, 8] rfl (FIN τ1 u1 (u2.tr b4))
                      · have hpl := b8 p rfl
                        have LQ : ∀ (w q : Nat) (τ2 : St), q + w = t2 → RRd (adA A1 k2 v (rpO q (some p))) τ2 → RST τ2 σ → V Z (rw (zG Z) a τ2) [(10, .int (nI q)), (9, .int (nI (aN A1))), (8, .int (nI i)), (7, .int (nI p)), (0, .ref (a 0)), (1, .int (nI n2)), (2, .int (nI k2)), (3, .int v), (4, .int (nI t2))] 119 [] := by
                          intro w
                          induction w with
                          | zero =>
                            intro q τ2 d1 d2 d3
                            have hqt : q = t2 := by omega
                            have d2 : RRd (adA A1 k2 v (rpO t2 (some p))) τ2 := by rw [← hqt]; exact d2
                            refine V.iload X 0 dX12_chain_119 rfl ?_
                            refine V.iload X 8 dX12_chain_121 rfl ?_
                            refine V.icmp_geN X 147 dX12_chain_123 (by decide) (by omega) (by omega) (fun c123 => ?_) (fun c123 => by exfalso; omega)
                            refine V.iload X 1 dX12_chain_147 rfl ?_
                            refine V.istore X (lv' := [(7, .int (nI (aN A1))), (10, .int (nI q)), (9, .int (nI (aN A1))), (8, .int (nI i)), (0, .ref (a 0)), (1, .int (nI n2)), (2, .int (nI k2)), (3, .int v), (4, .int (nI t2))]) dX12_chain_149 (ltn hn (by decide)) rfl ?_
                            refine V.iinc X (v := nI (i + 1)) (lv' := [(8, .int (nI (i + 1))), (7, .int (nI (aN A1))), (10, .int (nI q)), (9, .int (nI (aN A1))), (0, .ref (a 0)), (1, .int (nI n2)), (2, .int (nI k2)), (3, .int v), (4, .int (nI t2))]) (k0 := 3) dX12_chain_151 rfl (inc_1 _) (ltn hn (by decide)) rfl ?_
                            refine V.goto X 102 dX12_chain_154 (by decide) ?_
                            refine V.eql (lv' := [(8, .int (nI (i + 1))), (7, .int (oI (some (aN A1)))), (10, .int (nI q)), (9, .int (nI (aN A1))), (0, .ref (a 0)), (1, .int (nI n2)), (2, .int (nI k2)), (3, .int v), (4, .int (nI t2))]) rfl ?_
                            exact V.sub [0, 1, 4, 5, 6, 7, 8] rfl (FIN τ2 d2 d3)
                          | succ w ihw =>
                            intro q τ2 d1 d2 d3
                            have hlq : (rpO q (some p)).length = q := by rw [rpO_len]; simp [oc]
                            have hoc : oc (some p) * t2 = t2 := by simp [oc]
                            have eq1 : rpO (q + 1) (some p) = rpO q (some p) ++ [p] := by simp [rpO, List.replicate_succ']
                            refine V.iload X 0 dX12_chain_119 rfl ?_
                            refine V.iload X 8 dX12_chain_121 rfl ?_
                            refine V.icmp_geN X 147 dX12_chain_123 (by decide) (by omega) (by omega) (fun c123 => by exfalso; omega) (fun c123 => ?_)
                            refine V.iload X 3 dX12_chain_126 rfl ?_
                            refine V.iconst X (v := -1) dX12_chain_128 (by decide) ?_
                            refine V.icmp_eq X 147 dX12_chain_129 (by decide) (fun c129 => by exfalso; exact nI_nm1 (by omega) c129) (fun c129 => ?_)
                            refine V.aload_n X 4 dX12_chain_132 rfl rfl ?_
                            refine V.iload X 1 dX12_chain_133 rfl ?_
                            refine V.iload X 3 dX12_chain_135 rfl ?_
                            refine V.callV X rfl (rr_addPart (zl Z) (zG Z) a (aN A1) p d2 (hW2 q (by omega)) (by show aN A1 < aN A1 + 1; omega) (by rw [tot_ad, hlq]; omega)) cv_X12_108 rfl 0 rfl rfl (len hRf (by decide)) (len hRl (by decide)) hk0 ht0 [] rfl (Nat.le_of_ble_eq_true rfl) dX12_chain_137 ?_
                            rintro _ _ ⟨rfl, τ3, rfl, e1, e2⟩
                            refine V.eqs (st' := [.int (nI ((aP (adA A1 k2 v (rpO q (some p))) (aN A1)).length + 1))]) rfl ?_
                            refine V.pop X dX12_chain_140 rfl ?_
                            refine V.iinc X (v := nI (q + 1)) (lv' := [(10, .int (nI (q + 1))), (9, .int (nI (aN A1))), (8, .int (nI i)), (7, .int (nI p)), (0, .ref (a 0)), (1, .int (nI n2)), (2, .int (nI k2)), (3, .int v), (4, .int (nI t2))]) (k0 := 0) dX12_chain_141 rfl (inc_1 _) (ltn hn (by decide)) rfl ?_
                            refine V.goto X 119 dX12_chain_144 (by decide) ?_
                            refine V.sub [0, 1, 2, 3, 4, 5, 6, 7, 8] rfl (ihw (q + 1) τ3 (by omega) ?_ (e2.tr d3))
                            rw [eq1, ← adA_P]; exact e1
                        refine V.eql (lv' := [(8, .int (nI i)), (7, .int (nI p)), (0, .ref (a 0)), (1, .int (nI n2)), (2, .int (nI k2)), (3, .int v), (4, .int (nI t2))]) rfl ?_
                        refine V.iload X 0 dX12_chain_102 rfl ?_
                        refine V.iload_n X 3 dX12_chain_104 rfl rfl ?_
                        refine V.icmp_geN X 157 dX12_chain_105 (by decide) (by omega) (by omega) (fun c105 => by exfalso; omega) (fun c105 => ?_)
                        refine V.aload_n X 2 dX12_chain_108 rfl rfl ?_
                        refine V.iload_n X 4 dX12_chain_109 rfl rfl ?_
                        refine V.iload_n X 5 dX12_chain_110 rfl rfl ?_
                        refine V.callV X rfl (rr_add (zl Z) (zG Z) a k2 v b2 (by omega)) cv_X12_100 rfl 0 rfl rfl (len hRf (by decide)) (len hRl (by decide)) hk0 ht0 [] rfl (Nat.le_of_ble_eq_true rfl) dX12_chain_111 ?_
                        rintro _ _ ⟨rfl, τ1, rfl, u1, u2⟩
                        refine V.eqs (st' := [.int (nI (aN A1))]) rfl ?_
                        refine V.istore X (lv' := [(9, .int (nI (aN A1))), (8, .int (nI i)), (7, .int (nI p)), (0, .ref (a 0)), (1, .int (nI n2)), (2, .int (nI k2)), (3, .int v), (4, .int (nI t2))]) dX12_chain_114 (ltn hn (by decide)) rfl ?_
                        refine V.iconst X (v := nI 0) dX12_chain_116 (by decide) ?_
                        refine V.istore X (lv' := [(10, .int (nI 0)), (9, .int (nI (aN A1))), (8, .int (nI i)), (7, .int (nI p)), (0, .ref (a 0)), (1, .int (nI n2)), (2, .int (nI k2)), (3, .int v), (4, .int (nI t2))]) dX12_chain_117 (ltn hn (by decide)) rfl ?_
                        refine V.sub [0, 1, 2, 3, 4, 5, 6, 7, 8] rfl (LQ t2 0 τ1 (by omega) ?_ (u2.tr b4))
                        exact u1
                  refine V.iload X 6 dX12_chain_95 rfl ?_
                  refine V.topi (y := oI (fO f)) hfe ?_
                  refine V.istore X (lv' := [(7, .int (oI (fO f))), (6, .int (nI ((n2 - 1 + oc (fO f)) * t2))), (0, .ref (a 0)), (1, .int (nI n2)), (2, .int (nI k2)), (3, .int v), (4, .int (nI t2)), (5, .int f)]) dX12_chain_97 (ltn hn (by decide)) rfl ?_
                  refine V.iconst X (v := nI 0) dX12_chain_99 (by decide) ?_
                  refine V.istore X (lv' := [(8, .int (nI 0)), (7, .int (oI (fO f))), (6, .int (nI ((n2 - 1 + oc (fO f)) * t2))), (0, .ref (a 0)), (1, .int (nI n2)), (2, .int (nI k2)), (3, .int v), (4, .int (nI t2)), (5, .int f)]) dX12_chain_100 (ltn hn (by decide)) rfl ?_
                  exact V.sub [0, 1, 3, 4, 5, 6, 7] rfl (LP n2 0 σ (fO f) (yA S) (by omega) hx hW (RST.rf σ) rfl (fun _ => rfl) (by omega) hfo (Or.inl hrm.2) rfl)
                · refine V.bipush X (v := (-4)) dX12_chain_92 (by decide) ?_
                  exact V.iret X rfl hA hk ht hQ rfl dX12_chain_94 (⟨by rw [sp_chain, if_pos hv, dN, nI_clamp (by omega), dN, nI_clamp (by omega), dN, nI_clamp (by omega), if_neg (by intro z; have z1 := z.1; have z2 : tot (aP (yA S)) (aN (yA S)) + (n2 - 1 + oc (fO f)) * t2 ≤ 4000 := z.2; omega)], σ, rfl, by rw [sp_chain, if_pos hv, dN, nI_clamp (by omega), dN, nI_clamp (by omega), dN, nI_clamp (by omega), if_neg (by intro z; have z1 := z.1; have z2 : tot (aP (yA S)) (aN (yA S)) + (n2 - 1 + oc (fO f)) * t2 ≤ 4000 := z.2; omega)]; exact h⟩)
          · refine V.bipush X (v := (-2)) dX12_chain_46 (by decide) ?_
            exact V.iret X rfl hA hk ht hQ rfl dX12_chain_48 (⟨by rw [sp_chain, if_neg (show ¬ cOK S n k t f = true from fun z => by rw [show cOK S n k t f = false from by rw [cOK, c8, c28, ← inR_hasN (m := 11) (by decide), c18, ← g0, c43]; simp [c34]] at z; cases z)], σ, rfl, by rw [sp_chain, if_neg (show ¬ cOK S n k t f = true from fun z => by rw [show cOK S n k t f = false from by rw [cOK, c8, c28, ← inR_hasN (m := 11) (by decide), c18, ← g0, c43]; simp [c34]] at z; cases z)]; exact h⟩)

