theorem RR.a9 {S : AS} {τ : St} (h : RR S τ) (f : Nat → Nat) : RR S (sA τ 9 f) := by
  obtain ⟨o, r1, r2, r3, r4, r5, r6, r7, r8⟩ := h
  exact ⟨o, r1.ofa rfl, r2, r3, r4, r5, r6, r7, r8⟩
theorem cnD_take {X : Type} {vs : List (X × Nat)} {i : Nat} {q : X × Nat} (h : vs[i]? = some q) (k : Nat) : cnD (vs.take (i + 1)) k = cnD (vs.take i) k + if q.2 = k then 1 else 0 := by
  rw [List.take_succ, h]; exact cnD_snoc _ _ _
theorem cnD_le2 {X : Type} (vs : List (X × Nat)) (i k : Nat) : cnD (vs.take i) k ≤ vs.length := Nat.le_trans (cnD_le _ _) (by simp; omega)

set_option maxHeartbeats 4000000 in
set_option maxRecDepth 100000 in
theorem rf_widest (l : Launch) (G : Gx) (a : Nat → Nat) (σ : St) {S : AS} (d x : Int32) (h : RR S σ) : MM l G ⟨"NestedDeedsModel", "widest", "(II)I"⟩ prog_14_method_38_code 5 (some .int) 4 99 [.ref (a 0), .int d, .int x] (rw G a σ) (PR G a (sp_widest S d x).2 (.int (sp_widest S d x).1)) := by
  refine MM.of (lv := [(0, .ref (a 0)), (1, .int d), (2, .int x)]) (by decide +kernel) rfl (Nat.le_of_ble_eq_true rfl) ?_
  intro Z hRf hRl hl hG hn hk ht hA hQ X
  subst hG hl
  have X : XC Z "NestedDeedsModel" prog_14_method_38_code (some .int) := X
  have hk0 : zk Z ≤ (zR Z).cells := hk ▸ Nat.zero_le _
  have ht0 : zt Z ≤ (zR Z).slots := ht ▸ Nat.zero_le _
  have hW := h.1.1
  have hN := hW.1
  have hT := hW.2.1
  have hx := h.2.1
  obtain ⟨ix, hX⟩ := h.2.1
  obtain ⟨g0, g1, g2, g3⟩ := hX
  obtain ⟨o1, o2, o3, o4, o5, o6, o7, o8⟩ := h.1
  have e2 : gN σ 2 = yW S := h.2.2.1
  have e3 : gN σ 3 = yM S := h.2.2.2.1
  refine V.aload_n X 0 dX12_widest_0 rfl rfl ?_
  refine V.iload_n X 1 dX12_widest_1 rfl rfl ?_
  refine V.callV X rfl (r_isDeed (zl Z) (zG Z) a σ d (by omega)) cv_X12_104 rfl 0 rfl rfl (len hRf (by decide)) (len hRl (by decide)) hk0 ht0 [] rfl (Nat.le_of_ble_eq_true rfl) dX12_widest_2 ?_
  rintro _ _ ⟨rfl, rfl⟩
  refine V.eqs (st' := [.int (bI (hasD (gN σ 0) d))]) rfl ?_
  refine V.if_eqB X 17 dX12_widest_5 (by decide) (fun c5 => ?_) (fun c5 => ?_)
  · refine V.aload_n X 0 dX12_widest_17 rfl rfl ?_
    refine V.callV X rfl (r_bad (zl Z) (zG Z) a σ) cv_X12_182 rfl 0 rfl rfl (len hRf (by decide)) (len hRl (by decide)) hk0 ht0 [] rfl (Nat.le_of_ble_eq_true rfl) dX12_widest_18 ?_
    rintro _ _ ⟨rfl, rfl⟩
    refine V.eqs (st' := [.int (-2)]) rfl ?_
    exact V.iret X rfl hA hk ht hQ rfl dX12_widest_21 (⟨by rw [sp_widest, if_neg (fun z => by rw [g0, z.1] at c5; cases c5)], _, rfl, by rw [sp_widest, if_neg (fun z => by rw [g0, z.1] at c5; cases c5)]; exact h.bad⟩)
  · refine V.iload_n X 2 dX12_widest_8 rfl rfl ?_
    refine V.iconst X (v := nI 0) dX12_widest_9 (by decide) ?_
    refine V.iconst X (v := nI 1) dX12_widest_10 (by decide) ?_
    refine V.callS X rfl (k_in (zl Z) (zG Z) (rw (zG Z) a σ) x (nI 0) (nI 1)) cs_X12_93 rfl (len hRf (by decide)) (len hRl (by decide)) hk0 ht0 [] rfl (Nat.le_of_ble_eq_true rfl) dX12_widest_11 ?_
    rintro _ _ ⟨rfl, rfl⟩
    refine V.eqs (st' := [.int (bI (inR x (nI 0) (nI 1)))]) rfl ?_
    refine V.if_neB X 22 dX12_widest_14 (by decide) (fun c14 => ?_) (fun c14 => ?_)
    · rw [g0] at c5
      obtain ⟨d2, hd2, rfl⟩ := hasD_t (by omega) c5
      have hdn : dN (nI d2) = d2 := dN_nI (by omega)
      refine V.aload_n X 0 dX12_widest_22 rfl rfl ?_
      refine V.iload_n X 1 dX12_widest_23 rfl rfl ?_
      refine V.callV X rfl (r_walkAll (zl Z) (zG Z) a σ (A := yA S) d2 hx hW hd2 (by omega) (by omega) (by omega) (h.hb) (F := (fAll S d2)) rfl) cv_X12_185 rfl 0 rfl rfl (len hRf (by decide)) (len hRl (by decide)) hk0 ht0 [] rfl (Nat.le_of_ble_eq_true rfl) dX12_widest_24 ?_
      rintro _ _ ⟨rfl, τ, rfl, b1, b2, b3, b4⟩
      refine V.eqs (st' := [.int ((fAll S d2).2.1)]) rfl ?_
      refine V.if_eq X 35 dX12_widest_27 (by decide) (fun c27 => ?_) (fun c27 => ?_)
      · have hmx := fAll_mx S d2
        have hbs : botS S ≤ 1500 := by rw [h.hb]; split <;> omega
        have hpos : 1 ≤ mxD (fAll S d2).1 := runW_pos h.1.bot hW.eld _ _
        have hsp : sp_widest S (nI d2) x = (if x = 0 then nI (bestF (cnD (fAll S d2).1) (mxD (fAll S d2).1)) else nI (cnD (fAll S d2).1 (bestF (cnD (fAll S d2).1) (mxD (fAll S d2).1))), tld S (fAll S d2)) := by rw [sp_widest, if_pos ⟨c5, c14⟩, hdn, if_pos c27]
        have hRT := h.told b1 b2 b3 b4 hmx
        have v8 := b2.1
        have v8b := b2.2.1
        have v9 := b2.2.2.1
        have v7 := b2.2.2.2.2
        generalize (fAll S d2) = F at *
        have LP3 : ∀ (m k : Nat) (f : Nat → Nat), k + m = mxD F.1 + 1 → 2 ≤ k → (∀ j, j ≤ mxD F.1 → f j = cnD F.1 j) → V Z (rw (zG Z) a (sA τ 9 f)) [(4, .int (nI k)), (3, .int (nI (bestF (cnD F.1) (k - 1)))), (0, .ref (a 0)), (2, .int x)] 97 [] := by
          intro m
          induction m with
          | zero =>
            intro k f d1 d2 d3
            have hb := bestF_1 (cnD F.1) (k - 1)
            have hcl := cnD_le F.1 (bestF (cnD F.1) (k - 1))
            have hk1 : k - 1 = mxD F.1 := by omega
            refine V.iload X 0 dX12_widest_97 rfl ?_
            refine V.aload_n X 2 dX12_widest_99 rfl rfl ?_
            refine Vg_r_0_deepest (x := gN τ 9) X tw_848 dX12_widest_100 rfl ?_
            refine V.icmp_gtN X 135 dX12_widest_103 (by decide) (by omega) (by omega) (fun c103 => ?_) (fun c103 => by exfalso; omega)
            refine V.iload_n X 3 dX12_widest_135 rfl rfl ?_
            refine V.if_ne X 143 dX12_widest_136 (by decide) (fun c136 => ?_) (fun c136 => ?_)
            · refine V.aload_n X 2 dX12_widest_143 rfl rfl ?_
              refine Vg_r_0_wide X tw_857 dX12_widest_144 ?_
              refine V.iload_n X 1 dX12_widest_147 rfl rfl ?_
              refine Va_r_wide (x := (f) (bestF (cnD F.1) (k - 1))) X (by omega) dX12_widest_148 rfl ?_
              exact V.iret X rfl hA hk ht hQ rfl dX12_widest_149 (⟨by rw [hsp, if_neg c136, ← hk1, d3 _ (by omega)], _, rfl, by rw [hsp]; exact hRT.a9 f⟩)
            · refine V.iload_n X 1 dX12_widest_139 rfl rfl ?_
              refine V.goto X 149 dX12_widest_140 (by decide) ?_
              exact V.iret X rfl hA hk ht hQ rfl dX12_widest_149 (⟨by rw [hsp, if_pos c136, hk1], _, rfl, by rw [hsp]; exact hRT.a9 f⟩)
          | succ m ih =>
            intro k f d1 d2 d3
            have hb := bestF_1 (cnD F.1) (k - 1)
            have ek := d3 k (by omega)
            have eb := d3 (bestF (cnD F.1) (k - 1)) (by omega)
            have c1 := cnD_le F.1 k
            have c2 := cnD_le F.1 (bestF (cnD F.1) (k - 1))
            obtain ⟨k0, hk0⟩ : ∃ k0, k = k0 + 2 := ⟨k - 2, by omega⟩
            refine V.iload X 0 dX12_widest_97 rfl ?_
            refine V.aload_n X 2 dX12_widest_99 rfl rfl ?_
            refine Vg_r_0_deepest (x := gN τ 9) X tw_848 dX12_widest_100 rfl ?_
            refine V.icmp_gtN X 135 dX12_widest_103 (by decide) (by omega) (by omega) (fun c103 => by exfalso; omega) (fun c103 => ?_)
            refine V.aload_n X 2 dX12_widest_106 rfl rfl ?_
            refine Vg_r_0_wide X tw_857 dX12_widest_107 ?_
            refine V.iload X 0 dX12_widest_110 rfl ?_
            refine Va_r_wide (x := (f) k) X (by omega) dX12_widest_112 rfl ?_
            refine V.aload_n X 2 dX12_widest_113 rfl rfl ?_
            refine Vg_r_0_wide X tw_857 dX12_widest_114 ?_
            refine V.iload_n X 1 dX12_widest_117 rfl rfl ?_
            refine Va_r_wide (x := (f) (bestF (cnD F.1) (k - 1))) X (by omega) dX12_widest_118 rfl ?_
            refine V.icmp_leN X 127 dX12_widest_119 (by decide) (by omega) (by omega) (fun c119 => ?_) (fun c119 => ?_)
            · refine V.iload_n X 1 dX12_widest_127 rfl rfl ?_
              refine V.topi (y := nI (bestF (cnD F.1) (k + 1 - 1))) (by rw [Nat.add_sub_cancel, show bestF (cnD F.1) k = bestF (cnD F.1) (k - 1) by rw [hk0, bestF, if_neg (by rw [show k0 + 1 = k - 1 by omega, show k0 + 2 = k by omega]; omega)]; rfl]) ?_
              refine V.istore_n X (lv' := [(3, .int (nI (bestF (cnD F.1) (k + 1 - 1)))), (4, .int (nI k)), (0, .ref (a 0)), (2, .int x)]) dX12_widest_128 rfl (ltn hn (by decide)) rfl ?_
              refine V.iinc X (v := nI (k + 1)) (lv' := [(4, .int (nI (k + 1))), (3, .int (nI (bestF (cnD F.1) (k + 1 - 1)))), (0, .ref (a 0)), (2, .int x)]) (k0 := 1) dX12_widest_129 rfl (inc_1 _) (ltn hn (by decide)) rfl ?_
              refine V.goto X 97 dX12_widest_132 (by decide) ?_
              exact V.sub [0, 1, 2, 3] rfl (ih (k + 1) f (by omega) (by omega) d3)
            · refine V.iload X 0 dX12_widest_122 rfl ?_
              refine V.goto X 128 dX12_widest_124 (by decide) ?_
              refine V.topi (y := nI (bestF (cnD F.1) (k + 1 - 1))) (by rw [Nat.add_sub_cancel, show bestF (cnD F.1) k = k by rw [hk0, bestF, if_pos (by rw [show k0 + 1 = k - 1 by omega, show k0 + 2 = k by omega]; omega)]]) ?_
              refine V.istore_n X (lv' := [(3, .int (nI (bestF (cnD F.1) (k + 1 - 1)))), (4, .int (nI k)), (0, .ref (a 0)), (2, .int x)]) dX12_widest_128 rfl (ltn hn (by decide)) rfl ?_
              refine V.iinc X (v := nI (k + 1)) (lv' := [(4, .int (nI (k + 1))), (3, .int (nI (bestF (cnD F.1) (k + 1 - 1)))), (0, .ref (a 0)), (2, .int x)]) (k0 := 1) dX12_widest_129 rfl (inc_1 _) (ltn hn (by decide)) rfl ?_
              refine V.goto X 97 dX12_widest_132 (by decide) ?_
              exact V.sub [0, 1, 2, 3] rfl (ih (k + 1) f (by omega) (by omega) d3)
        have LP2 : ∀ (m i : Nat) (f : Nat → Nat), i + m = F.1.length → (∀ j, j ≤ mxD F.1 → f j = cnD (F.1.take i) j) → V Z (rw (zG Z) a (sA τ 9 f)) [(4, .int (nI i)), (3, .int (nI 1)), (0, .ref (a 0)), (2, .int x)] 63 [] := by
          intro m
          induction m with
          | zero =>
            intro i f d1 d3
            refine V.iload X 0 dX12_widest_63 rfl ?_
            refine V.aload_n X 2 dX12_widest_65 rfl rfl ?_
            refine Vg_r_0_visited (x := gN τ 8) X tw_847 dX12_widest_66 rfl ?_
            refine V.icmp_geN X 94 dX12_widest_69 (by decide) (by omega) (by omega) (fun c69 => ?_) (fun c69 => by exfalso; omega)
            refine V.iconst X (v := nI 2) dX12_widest_94 (by decide) ?_
            refine V.istore X (lv' := [(4, .int (nI 2)), (3, .int (nI 1)), (0, .ref (a 0)), (2, .int x)]) dX12_widest_95 (ltn hn (by decide)) rfl ?_
            exact V.sub [0, 1, 2, 3] rfl (LP3 (mxD F.1 - 1) 2 f (by omega) (by omega) (fun j hj => by rw [d3 j hj, List.take_of_length_le (by omega)]))
          | succ m ih =>
            intro i f d1 d3
            have hq : F.1[i]? = some (F.1[i]'(by omega)) := List.getElem?_eq_getElem _
            generalize F.1[i]'(by omega) = q at hq
            obtain ⟨w1, w2⟩ := v7 i q hq
            have hqm := mxD_le F.1 q (List.mem_of_getElem? hq)
            have hf := d3 q.2 hqm
            have hf2 := cnD_le2 F.1 i q.2
            refine V.iload X 0 dX12_widest_63 rfl ?_
            refine V.aload_n X 2 dX12_widest_65 rfl rfl ?_
            refine Vg_r_0_visited (x := gN τ 8) X tw_847 dX12_widest_66 rfl ?_
            refine V.icmp_geN X 94 dX12_widest_69 (by decide) (by omega) (by omega) (fun c69 => by exfalso; omega) (fun c69 => ?_)
            refine V.aload_n X 2 dX12_widest_72 rfl rfl ?_
            refine Vg_r_0_wide X tw_857 dX12_widest_73 ?_
            refine V.aload_n X 2 dX12_widest_76 rfl rfl ?_
            refine Vg_r_0_visitDepth X tw_853 dX12_widest_77 ?_
            refine V.iload X 0 dX12_widest_80 rfl ?_
            refine Va_r_visitDepth (x := gA τ 7 i) X (by omega) dX12_widest_82 rfl ?_
            refine V.topi (y := nI q.2) (by rw [w2]) ?_
            refine V.dup2 X dX12_widest_83 rfl rfl ?_
            refine Va_r_wide (x := (f) q.2) X (by omega) dX12_widest_84 rfl ?_
            refine V.iconst X (v := nI 1) dX12_widest_85 (by decide) ?_
            refine V.iaddN X dX12_widest_86 ?_
            refine Vs_r_wide (f := f) (i := q.2) (x := ((f) q.2) + 1) X (by omega) dX12_widest_87 rfl ?_
            refine V.iinc X (v := nI (i + 1)) (lv' := [(4, .int (nI (i + 1))), (3, .int (nI 1)), (0, .ref (a 0)), (2, .int x)]) (k0 := 0) dX12_widest_88 rfl (inc_1 _) (ltn hn (by decide)) rfl ?_
            refine V.goto X 63 dX12_widest_91 (by decide) ?_
            refine V.eqw (ws' := rw (zG Z) a (sA τ 9 (va_up f q.2 (f q.2 + 1)))) (by rw [sA_sA]) ?_
            refine V.sub [0, 1, 2, 3] rfl (ih (i + 1) _ (by omega) (fun j hj => ?_))
            rw [cnD_take hq]
            by_cases z : j = q.2
            · subst z; rw [va_up_self, d3 _ hj, if_pos rfl]
            · rw [va_up_ne _ _ z, d3 _ hj, if_neg (fun y => z y.symm)]; rfl
        have LP1 : ∀ (m i : Nat) (f : Nat → Nat), i + m = mxD F.1 + 1 → (∀ j, j < i → f j = 0) → V Z (rw (zG Z) a (sA τ 9 f)) [(3, .int (nI i)), (0, .ref (a 0)), (2, .int x)] 37 [] := by
          intro m
          induction m with
          | zero =>
            intro i f d1 d3
            refine V.iload_n X 0 dX12_widest_37 rfl rfl ?_
            refine V.aload_n X 1 dX12_widest_38 rfl rfl ?_
            refine Vg_r_0_deepest (x := gN τ 9) X tw_848 dX12_widest_39 rfl ?_
            refine V.icmp_gtN X 58 dX12_widest_42 (by decide) (by omega) (by omega) (fun c42 => ?_) (fun c42 => by exfalso; omega)
            refine V.iconst X (v := nI 1) dX12_widest_58 (by decide) ?_
            refine V.istore_n X (lv' := [(3, .int (nI 1)), (0, .ref (a 0)), (2, .int x)]) dX12_widest_59 rfl (ltn hn (by decide)) rfl ?_
            refine V.iconst X (v := nI 0) dX12_widest_60 (by decide) ?_
            refine V.istore X (lv' := [(4, .int (nI 0)), (3, .int (nI 1)), (0, .ref (a 0)), (2, .int x)]) dX12_widest_61 (ltn hn (by decide)) rfl ?_
            exact V.sub [0, 1, 2, 3] rfl (LP2 F.1.length 0 f (by omega) (fun j hj => by rw [d3 j (by omega)]; rfl))
          | succ m ih =>
            intro i f d1 d3
            refine V.iload_n X 0 dX12_widest_37 rfl rfl ?_
            refine V.aload_n X 1 dX12_widest_38 rfl rfl ?_
            refine Vg_r_0_deepest (x := gN τ 9) X tw_848 dX12_widest_39 rfl ?_
            refine V.icmp_gtN X 58 dX12_widest_42 (by decide) (by omega) (by omega) (fun c42 => by exfalso; omega) (fun c42 => ?_)
            refine V.aload_n X 1 dX12_widest_45 rfl rfl ?_
            refine Vg_r_0_wide X tw_857 dX12_widest_46 ?_
            refine V.iload_n X 0 dX12_widest_49 rfl rfl ?_
            refine V.iconst X (v := nI 0) dX12_widest_50 (by decide) ?_
            refine Vs_r_wide (f := f) (i := i) (x := 0) X (by omega) dX12_widest_51 rfl ?_
            refine V.iinc X (v := nI (i + 1)) (lv' := [(3, .int (nI (i + 1))), (0, .ref (a 0)), (2, .int x)]) (k0 := 0) dX12_widest_52 rfl (inc_1 _) (ltn hn (by decide)) rfl ?_
            refine V.goto X 37 dX12_widest_55 (by decide) ?_
            refine V.eqw (ws' := rw (zG Z) a (sA τ 9 (va_up f i 0))) (by rw [sA_sA]) ?_
            refine V.sub [0, 1, 2] rfl (ih (i + 1) _ (by omega) (fun j hj => ?_))
            by_cases z : j = i
            · subst z; rw [va_up_self]
            · rw [va_up_ne _ _ z]; exact d3 j (by omega)
        refine V.iconst X (v := nI 0) dX12_widest_35 (by decide) ?_
        refine V.istore_n X (lv' := [(3, .int (nI 0)), (0, .ref (a 0)), (1, .int (nI d2)), (2, .int x)]) dX12_widest_36 rfl (ltn hn (by decide)) rfl ?_
        refine V.eqw (ws' := rw (zG Z) a (sA τ 9 (gA τ 9))) (by rw [sA_self]) ?_
        exact V.sub [0, 1, 3] rfl (LP1 (mxD F.1 + 1) 0 _ (by omega) (fun j hj => by omega))
      · refine V.aload_n X 0 dX12_widest_30 rfl rfl ?_
        refine Vg_r_0_answer (x := gI (τ) 0) X tw_841 dX12_widest_31 rfl ?_
        exact V.iret X rfl hA hk ht hQ rfl dX12_widest_34 (⟨by rw [sp_widest, if_pos ⟨c5, c14⟩, hdn, if_neg c27, b2.2.2.2.1], τ, rfl, by rw [sp_widest, if_pos ⟨c5, c14⟩, hdn]; exact h.told b1 b2 b3 b4 (fAll_mx S d2)⟩)
    · refine V.aload_n X 0 dX12_widest_17 rfl rfl ?_
      refine V.callV X rfl (r_bad (zl Z) (zG Z) a σ) cv_X12_182 rfl 0 rfl rfl (len hRf (by decide)) (len hRl (by decide)) hk0 ht0 [] rfl (Nat.le_of_ble_eq_true rfl) dX12_widest_18 ?_
      rintro _ _ ⟨rfl, rfl⟩
      refine V.eqs (st' := [.int (-2)]) rfl ?_
      exact V.iret X rfl hA hk ht hQ rfl dX12_widest_21 (⟨by rw [sp_widest, if_neg (fun z => by rw [c14] at z; cases z.2)], _, rfl, by rw [sp_widest, if_neg (fun z => by rw [c14] at z; cases z.2)]; exact h.bad⟩)

