def PGr (G : Gx) (a : Nat → Nat) (σ : St) (A : Ar) (n : Nat) (ops : List Op) (rv : Option Value) (w : va_W) : Prop :=
  (aN A + n ≤ 1500 ∧ tot (aP A) (aN A) + (n - 1) ≤ 4000 → rv = some (.int (nI (aN A + n - 1))) ∧ ∃ τ, w = rw G a τ ∧ RRd (bns ops (A, [])).1 τ ∧ WA (bns ops (A, [])).1 ∧ xG τ σ) ∧
  (¬ (aN A + n ≤ 1500 ∧ tot (aP A) (aN A) + (n - 1) ≤ 4000) → rv = some (.int (-4)) ∧ w = rw G a σ)

set_option maxHeartbeats 4000000 in
set_option maxRecDepth 100000 in
theorem r_grow (l : Launch) (G : Gx) (a : Nat → Nat) (σ : St) {A : Ar} {n : Nat} {cl : Nat → List Nat} {nd : Nat → Nat × Int32} {mN : Nat → Int64} (h : TR n cl nd mN σ) (hx : RRd A σ) (hW : WA A) (h1n : 1 ≤ n) (hn2 : n ≤ 20000) (hkd : ∀ x, x < n → (nd x).1 < 12) (hpf : (pf n cl nd 0).length = n) : MM l G ⟨"NestedDeedsModel", "grow", "()I"⟩ prog_14_method_40_code 3 (some .int) 1 22 [.ref (a 0)] (rw G a σ) (PGr G a σ A n (pf n cl nd 0)) := by
  refine MM.of (lv := [(0, .ref (a 0))]) (by decide +kernel) rfl (Nat.le_of_ble_eq_true rfl) ?_
  intro Z hRf hRl hl hG hn hk ht hA hQ X
  subst hG hl
  have X : XC Z "NestedDeedsModel" prog_14_method_40_code (some .int) := X
  have hk0 : zk Z ≤ (zR Z).cells := hk ▸ Nat.zero_le _
  have ht0 : zt Z ≤ (zR Z).slots := ht ▸ Nat.zero_le _
  obtain ⟨ix, hX⟩ := id hx
  obtain ⟨g0, g1, g2, g3⟩ := hX
  have t11 := h.1
  have hN := hW.1
  have hT := hW.2.1
  refine V.aload_n X 0 dX12_grow_0 rfl rfl ?_
  refine Vg_r_0_deeds (x := gN σ 0) X tw_828 dX12_grow_1 rfl ?_
  refine V.aload_n X 0 dX12_grow_4 rfl rfl ?_
  refine Vg_r_0_nodes (x := gN σ 11) X tw_858 dX12_grow_5 rfl ?_
  refine V.iaddN X dX12_grow_8 ?_
  refine V.sipush X (v := nI 1500) dX12_grow_9 (by decide) ?_
  refine V.icmp_gtN X 32 dX12_grow_12 (by decide) (by omega) (by decide) (fun c12 => ?_) (fun c12 => ?_)
  · refine V.bipush X (v := (-4)) dX12_grow_32 (by decide) ?_
    exact V.iret X rfl hA hk ht hQ rfl dX12_grow_34 (⟨fun z => by omega, fun _ => ⟨rfl, rfl⟩⟩)
  · refine V.aload_n X 0 dX12_grow_15 rfl rfl ?_
    refine Vg_r_0_parts (x := gN σ 1) X tw_834 dX12_grow_16 rfl ?_
    refine V.aload_n X 0 dX12_grow_19 rfl rfl ?_
    refine Vg_r_0_nodes (x := gN σ 11) X tw_858 dX12_grow_20 rfl ?_
    refine V.iaddN X dX12_grow_23 ?_
    refine V.iconst X (v := nI 1) dX12_grow_24 (by decide) ?_
    refine V.isubN X dX12_grow_25 (by omega) ?_
    refine V.sipush X (v := nI 4000) dX12_grow_26 (by decide) ?_
    refine V.icmp_leN X 35 dX12_grow_29 (by decide) (by omega) (by decide) (fun c29 => ?_) (fun c29 => ?_)
    · have hroom : aN A + n ≤ 1500 ∧ tot (aP A) (aN A) + (n - 1) ≤ 4000 := ⟨by omega, by omega⟩
      have hY := h.yng
      have LE : ∀ (τ : St) (S : List Nat), GI A n cl nd mN σ (pf n cl nd 0) S τ → gA τ 11 0 = aN A + n - 1 → V Z (rw (zG Z) a τ) [(1, .int (-1)), (0, .ref (a 0))] 174 [] := by
        intro τ S b1 b2
        refine V.aload_n X 1 dX12_grow_174 rfl rfl ?_
        refine Vg_r_0_made X tw_865 dX12_grow_175 ?_
        refine V.iconst X (v := nI 0) dX12_grow_178 (by decide) ?_
        refine Va_r_made (x := gA (τ) 11 0) X (by omega) dX12_grow_179 rfl ?_
        exact V.iret X rfl hA hk ht hQ rfl dX12_grow_180 (⟨fun _ => ⟨by rw [b2], τ, rfl, b1.2.2.1, b1.2.2.2.1, b1.2.1⟩, fun z => absurd hroom z⟩)
      have LM : ∀ (m : Nat) (c : List (Nat × Nat)) (x : Nat) (ops : List Op) (S : List Nat) (τ : St), n ≤ ops.length + m → PTH n cl c x → x < n → ops = dG n cl nd c ++ (cl x).flatMap (pf n cl nd) → S = dS cl (gA τ 11) c → GI A n cl nd mN σ ops (S ++ (cl x).map (gA τ 11)) τ → V Z (rw (zG Z) a τ) [(1, .int (nI x)), (0, .ref (a 0))] 57 [] := by
        intro m
        induction m with
        | zero =>
          intro c x ops S τ b1 b2 b3 b4 b5 b6
          have hp := pf_path (nd := nd) hY c x b2
          rw [pf_eq hY b3, ← List.append_assoc, ← b4] at hp
          have := congrArg List.length hp
          simp only [List.length_append, List.length_singleton] at this
          omega
        | succ m ih =>
          intro c x ops S τ b1 b2 b3 b4 b5 b6
          have hp := pf_path (nd := nd) hY c x b2
          rw [pf_eq hY b3, ← List.append_assoc, ← b4] at hp
          have hlen := congrArg List.length hp
          simp only [List.length_append, List.length_singleton] at hlen
          have b60 := b6
          obtain ⟨t1, t2, t3, t4, t5, t6, t7⟩ := b6
          obtain ⟨u1, u2, u3, u4⟩ := t1.2.1 x b3
          have hNb : aN (bns ops (A, [])).1 = aN A + ops.length := bns_N ops (A, [])
          have hap := t1.apart b2
          rw [List.length_append, List.length_map] at t7
          have hkx := hkd x b3
          have hWq : ∀ q, WA (adA (bns ops (A, [])).1 (nd x).1 (nd x).2 (((cl x).take q).map (gA τ 11))) := fun q => t4.ad (by omega) (by rw [List.length_map, List.length_take]; omega) hkx (fun p hp => by
            obtain ⟨z, hz, rfl⟩ := List.mem_map.mp hp
            exact t6 _ (List.mem_append_right _ (List.mem_map.mpr ⟨z, List.mem_of_mem_take hz, rfl⟩)))
          have LD : ∀ (w : Nat) (c2 : List (Nat × Nat)) (z : Nat) (o2 : List Op) (S2 : List Nat) (τ2 : St), n - z ≤ w → PTH n cl c2 z → z < n → o2 = dG n cl nd c2 → S2 = dS cl (gA τ2 11) c2 → n ≤ o2.length + m → GI A n cl nd mN σ o2 S2 τ2 → V Z (rw (zG Z) a τ2) [(1, .int (nI z)), (0, .ref (a 0))] 154 [] := by
            intro w
            induction w with
            | zero => intro c2 z o2 S2 τ2 d1 d2 d3; omega
            | succ w ihw =>
              intro c2 z o2 S2 τ2 d1 d2 d3 d4 d5 d6 d7
              have v4 := (d7.1.2.1 z d3).2.2.2
              rcases hz : cl z with _ | ⟨z0, zs⟩
              · rw [hz] at v4
                have v4 : gP τ2 4 z = none := v4
                refine V.aload_n X 1 dX12_grow_154 rfl rfl ?_
                refine Vg_r_0_child X tw_862 dX12_grow_155 ?_
                refine V.iload_n X 0 dX12_grow_158 rfl rfl ?_
                refine Va_r_child (x := gP (τ2) 4 z) X (by omega) dX12_grow_159 rfl ?_
                refine V.topi (y := -1) (by rw [v4]; rfl) ?_
                refine V.iconst X (v := -1) dX12_grow_160 (by decide) ?_
                refine V.icmp_eq X 57 dX12_grow_161 (by decide) (fun c161 => ?_) (fun c161 => by exfalso; exact absurd rfl c161)
                exact V.sub [0, 1] rfl (ih c2 z o2 S2 τ2 d6 d2 d3 (by rw [d4, hz]; simp) d5 (by rw [hz, List.map_nil, List.append_nil]; exact d7))
              · rw [hz] at v4
                have v4 : gP τ2 4 z = some z0 := v4
                have hz0 := d7.1.2.2.1 z 0 z0 d3 (by rw [hz]; rfl)
                refine V.aload_n X 1 dX12_grow_154 rfl rfl ?_
                refine Vg_r_0_child X tw_862 dX12_grow_155 ?_
                refine V.iload_n X 0 dX12_grow_158 rfl rfl ?_
                refine Va_r_child (x := gP (τ2) 4 z) X (by omega) dX12_grow_159 rfl ?_
                refine V.topi (y := nI z0) (by rw [v4]; rfl) ?_
                refine V.iconst X (v := -1) dX12_grow_160 (by decide) ?_
                refine V.icmp_eq X 57 dX12_grow_161 (by decide) (fun c161 => by exfalso; exact nI_nm1 (by omega) c161) (fun c161 => ?_)
                refine V.aload_n X 1 dX12_grow_164 rfl rfl ?_
                refine Vg_r_0_child X tw_862 dX12_grow_165 ?_
                refine V.iload_n X 0 dX12_grow_168 rfl rfl ?_
                refine Va_r_child (x := gP (τ2) 4 z) X (by omega) dX12_grow_169 rfl ?_
                refine V.topi (y := nI z0) (by rw [v4]; rfl) ?_
                refine V.istore_n X (lv' := [(1, .int (nI z0)), (0, .ref (a 0))]) dX12_grow_170 rfl (ltn hn (by decide)) rfl ?_
                refine V.goto X 154 dX12_grow_171 (by decide) ?_
                exact V.sub [0, 1] rfl (ihw ((z, 0) :: c2) z0 o2 S2 τ2 (by omega) ⟨d3, by rw [hz]; rfl, d2⟩ hz0.2.1 (by rw [d4, dG]; simp) (by rw [d5, dS]; simp) d6 d7)
          have LZ : ∀ (τ3 : St), TR n cl nd mN τ3 → xG τ3 τ → RRd (adA (bns ops (A, [])).1 (nd x).1 (nd x).2 ((cl x).map (gA τ 11))) τ3 → gA τ3 11 = va_up (gA τ 11) x (aN A + ops.length) → V Z (rw (zG Z) a τ3) [(1, .int (nI x)), (0, .ref (a 0))] 123 [] := by
            intro τ3 e1 e2 e3 e4
            have hG2 := b60.step hkx (by omega) (by omega) e1 e2 e3
            have hds : dS cl (gA τ3 11) c = S := by rw [b5, e4]; exact dS_up (fun q hq j hj => va_up_ne _ _ (hap q hq j hj))
            rcases c with _ | ⟨⟨y, i⟩, c⟩
            · have hx0 : x = 0 := b2
              subst hx0
              have s5 := e1.2.2.2.2 (by omega)
              have ho : ops ++ [opn cl nd 0] = pf n cl nd 0 := by rw [pf_eq hY b3, b4]; rfl
              rw [ho] at hG2
              have hol : ops.length + 1 = n := by have := congrArg List.length ho; rw [hpf] at this; simpa using this
              refine V.eql (lv' := [(1, .int (nI 0)), (0, .ref (a 0))]) rfl ?_
              refine V.aload_n X 1 dX12_grow_123 rfl rfl ?_
              refine Vg_r_0_sibling X tw_863 dX12_grow_124 ?_
              refine V.iload_n X 0 dX12_grow_127 rfl rfl ?_
              refine Va_r_sibling (x := gP (τ3) 5 0) X (by omega) dX12_grow_128 rfl ?_
              refine V.topi (y := -1) (by rw [s5.2]; rfl) ?_
              refine V.iconst X (v := -1) dX12_grow_129 (by decide) ?_
              refine V.icmp_eq X 137 dX12_grow_130 (by decide) (fun c130 => ?_) (fun c130 => by exfalso; exact absurd rfl c130)
              refine V.aload_n X 1 dX12_grow_137 rfl rfl ?_
              refine Vg_r_0_parent X tw_864 dX12_grow_138 ?_
              refine V.iload_n X 0 dX12_grow_141 rfl rfl ?_
              refine Va_r_parent (x := gP (τ3) 6 0) X (by omega) dX12_grow_142 rfl ?_
              refine V.topi (y := -1) (by rw [s5.1]; rfl) ?_
              refine V.istore_n X (lv' := [(1, .int (-1)), (0, .ref (a 0))]) dX12_grow_143 rfl (ltn hn (by decide)) rfl ?_
              refine V.goto X 57 dX12_grow_144 (by decide) ?_
              refine V.iload_n X 0 dX12_grow_57 rfl rfl ?_
              refine V.iconst X (v := -1) dX12_grow_58 (by decide) ?_
              refine V.icmp_eq X 174 dX12_grow_59 (by decide) (fun c59 => ?_) (fun c59 => by exfalso; exact absurd rfl c59)
              exact V.sub [0, 1] rfl (LE τ3 _ hG2 (by rw [e4, va_up_self]; omega))
            · obtain ⟨p1, p2, p3⟩ := b2
              have s5 := e1.2.2.1 y i x p1 p2
              have hdG : ops ++ [opn cl nd x] = dG n cl nd c ++ ((cl y).take (i + 1)).flatMap (pf n cl nd) := by
                rw [b4, dG, List.take_succ, p2]
                simp [pf_eq hY b3]
              have hdS : S ++ [aN A + ops.length] = dS cl (gA τ3 11) c ++ ((cl y).take (i + 1)).map (gA τ3 11) := by
                rw [← hds, dS, List.take_succ, p2]
                simp [e4, va_up_self]
              rcases hsi : (cl y)[i + 1]? with _ | z
              · rw [hsi] at s5
                have hil : (cl y).length ≤ i + 1 := List.getElem?_eq_none_iff.mp hsi
                rw [List.take_of_length_le hil] at hdG hdS
                refine V.aload_n X 1 dX12_grow_123 rfl rfl ?_
                refine Vg_r_0_sibling X tw_863 dX12_grow_124 ?_
                refine V.iload_n X 0 dX12_grow_127 rfl rfl ?_
                refine Va_r_sibling (x := gP (τ3) 5 x) X (by omega) dX12_grow_128 rfl ?_
                refine V.topi (y := -1) (by rw [s5.2.2.1]; rfl) ?_
                refine V.iconst X (v := -1) dX12_grow_129 (by decide) ?_
                refine V.icmp_eq X 137 dX12_grow_130 (by decide) (fun c130 => ?_) (fun c130 => by exfalso; exact absurd rfl c130)
                refine V.aload_n X 1 dX12_grow_137 rfl rfl ?_
                refine Vg_r_0_parent X tw_864 dX12_grow_138 ?_
                refine V.iload_n X 0 dX12_grow_141 rfl rfl ?_
                refine Va_r_parent (x := gP (τ3) 6 x) X (by omega) dX12_grow_142 rfl ?_
                refine V.topi (y := nI y) (by rw [s5.2.2.2]; rfl) ?_
                refine V.istore_n X (lv' := [(1, .int (nI y)), (0, .ref (a 0))]) dX12_grow_143 rfl (ltn hn (by decide)) rfl ?_
                refine V.goto X 57 dX12_grow_144 (by decide) ?_
                exact V.sub [0, 1] rfl (ih c y _ _ τ3 (by simp; omega) p3 p1 hdG rfl (by rw [← hdS]; exact hG2))
              · rw [hsi] at s5
                have hzz := e1.2.2.1 y (i + 1) z p1 hsi
                refine V.aload_n X 1 dX12_grow_123 rfl rfl ?_
                refine Vg_r_0_sibling X tw_863 dX12_grow_124 ?_
                refine V.iload_n X 0 dX12_grow_127 rfl rfl ?_
                refine Va_r_sibling (x := gP (τ3) 5 x) X (by omega) dX12_grow_128 rfl ?_
                refine V.topi (y := nI z) (by rw [s5.2.2.1]; rfl) ?_
                refine V.iconst X (v := -1) dX12_grow_129 (by decide) ?_
                refine V.icmp_eq X 137 dX12_grow_130 (by decide) (fun c130 => by exfalso; exact nI_nm1 (by omega) c130) (fun c130 => ?_)
                refine V.iload_n X 0 dX12_grow_133 rfl rfl ?_
                refine V.if_neN X 147 dX12_grow_134 (by decide) (by omega) (fun c134 => ?_) (fun c134 => by exfalso; omega)
                refine V.aload_n X 1 dX12_grow_147 rfl rfl ?_
                refine Vg_r_0_sibling X tw_863 dX12_grow_148 ?_
                refine V.iload_n X 0 dX12_grow_151 rfl rfl ?_
                refine Va_r_sibling (x := gP (τ3) 5 x) X (by omega) dX12_grow_152 rfl ?_
                refine V.topi (y := nI z) (by rw [s5.2.2.1]; rfl) ?_
                refine V.istore_n X (lv' := [(1, .int (nI z)), (0, .ref (a 0))]) dX12_grow_153 rfl (ltn hn (by decide)) rfl ?_
                exact V.sub [0, 1] rfl (LD _ ((y, i + 1) :: c) z _ _ τ3 (Nat.le_refl _) ⟨p1, hsi, p3⟩ hzz.2.1 hdG rfl (by simp; omega) (by rw [dS, ← hdS]; exact hG2))
          have LQ : ∀ (w q : Nat) (τ3 : St), q + w = (cl x).length → TR n cl nd mN τ3 → xG τ3 τ → RRd (adA (bns ops (A, [])).1 (nd x).1 (nd x).2 (((cl x).take q).map (gA τ 11))) τ3 → gA τ3 11 = va_up (gA τ 11) x (aN A + ops.length) → V Z (rw (zG Z) a τ3) [(2, .int (oI ((cl x)[q]?))), (1, .int (nI x)), (0, .ref (a 0))] 91 [] := by
            intro w
            induction w with
            | zero =>
              intro q τ3 d1 e1 e2 e3 e4
              have hno : (cl x)[q]? = none := List.getElem?_eq_none (by omega)
              rw [List.take_of_length_le (by omega)] at e3
              refine V.eql (lv' := [(2, .int (-1)), (1, .int (nI x)), (0, .ref (a 0))]) (by rw [hno]; rfl) ?_
              refine V.iload_n X 0 dX12_grow_91 rfl rfl ?_
              refine V.iconst X (v := -1) dX12_grow_92 (by decide) ?_
              refine V.icmp_eq X 123 dX12_grow_93 (by decide) (fun c93 => ?_) (fun c93 => by exfalso; exact absurd rfl c93)
              exact V.sub [1, 2] rfl (LZ τ3 e1 e2 e3 e4)
            | succ w ihw =>
              intro q τ3 d1 e1 e2 e3 e4
              have hg : (cl x)[q]? = some ((cl x).getD q 0) := gD (by omega)
              have hj := e1.2.2.1 x q _ b3 hg
              have m1 : gA τ3 11 x = aN A + ops.length := by rw [e4, va_up_self]
              have m2 : gA τ3 11 ((cl x).getD q 0) = gA τ 11 ((cl x).getD q 0) := by rw [e4, va_up_ne _ _ (by omega)]
              have etk : ((cl x).take (q + 1)).map (gA τ 11) = ((cl x).take q).map (gA τ 11) ++ [gA τ 11 ((cl x).getD q 0)] := by rw [List.take_succ, hg]; simp
              refine V.eql (lv' := [(2, .int (nI ((cl x).getD q 0))), (1, .int (nI x)), (0, .ref (a 0))]) (by rw [hg]; rfl) ?_
              refine V.iload_n X 0 dX12_grow_91 rfl rfl ?_
              refine V.iconst X (v := -1) dX12_grow_92 (by decide) ?_
              refine V.icmp_eq X 123 dX12_grow_93 (by decide) (fun c93 => by exfalso; exact nI_nm1 (by omega) c93) (fun c93 => ?_)
              refine V.aload_n X 2 dX12_grow_96 rfl rfl ?_
              refine V.aload_n X 2 dX12_grow_97 rfl rfl ?_
              refine Vg_r_0_made X tw_865 dX12_grow_98 ?_
              refine V.iload_n X 1 dX12_grow_101 rfl rfl ?_
              refine Va_r_made (x := gA (τ3) 11 x) X (by omega) dX12_grow_102 rfl ?_
              refine V.topi (y := nI (aN A + ops.length)) (by rw [m1]) ?_
              refine V.aload_n X 2 dX12_grow_103 rfl rfl ?_
              refine Vg_r_0_made X tw_865 dX12_grow_104 ?_
              refine V.iload_n X 0 dX12_grow_107 rfl rfl ?_
              refine Va_r_made (x := gA (τ3) 11 ((cl x).getD q 0)) X (by omega) dX12_grow_108 rfl ?_
              refine V.topi (y := nI (gA τ 11 ((cl x).getD q 0))) (by rw [m2]) ?_
              refine V.callV X rfl (rr_addPart (zl Z) (zG Z) a (aN A + ops.length) (gA τ 11 ((cl x).getD q 0)) e3 (hWq q) (by show aN A + ops.length < aN (bns ops (A, [])).1 + 1; omega) (by rw [tot_ad, List.length_map, List.length_take]; omega)) cv_X12_108 rfl 0 rfl rfl (len hRf (by decide)) (len hRl (by decide)) hk0 ht0 [] rfl (Nat.le_of_ble_eq_true rfl) dX12_grow_109 ?_
              rintro _ _ ⟨rfl, τ4, rfl, w1, w2⟩
              refine V.eqs (st' := [.int (nI ((aP (adA (bns ops (A, [])).1 (nd x).1 (nd x).2 (((cl x).take q).map (gA τ 11))) (aN A + ops.length)).length + 1))]) rfl ?_
              refine V.pop X dX12_grow_112 rfl ?_
              refine V.aload_n X 2 dX12_grow_113 rfl rfl ?_
              refine Vg_r_0_sibling X tw_863 dX12_grow_114 ?_
              refine V.iload_n X 0 dX12_grow_117 rfl rfl ?_
              refine Va_r_sibling (x := gP (τ4) 5 ((cl x).getD q 0)) X (by omega) dX12_grow_118 rfl ?_
              refine V.topi (y := oI (cl x)[q + 1]?) (by rw [w2.2.2.2.2.2.2.2 5 (by decide), hj.2.2.1]) ?_
              refine V.istore_n X (lv' := [(2, .int (oI ((cl x)[q + 1]?))), (1, .int (nI x)), (0, .ref (a 0))]) dX12_grow_119 rfl (ltn hn (by decide)) rfl ?_
              refine V.goto X 91 dX12_grow_120 (by decide) ?_
              refine V.sub [0, 1, 2] rfl (ihw (q + 1) τ4 (by omega) (e1.rst w2) (w2.xg.tr e2) ?_ ((w2.2.1 11 (by decide)).trans e4))
              rw [← hNb] at w1
              rw [etk, ← adA_P]; exact w1
          refine V.iload_n X 0 dX12_grow_57 rfl rfl ?_
          refine V.iconst X (v := -1) dX12_grow_58 (by decide) ?_
          refine V.icmp_eq X 174 dX12_grow_59 (by decide) (fun c59 => by exfalso; exact nI_nm1 (by omega) c59) (fun c59 => ?_)
          refine V.aload_n X 1 dX12_grow_62 rfl rfl ?_
          refine Vg_r_0_made X tw_865 dX12_grow_63 ?_
          refine V.iload_n X 0 dX12_grow_66 rfl rfl ?_
          refine V.aload_n X 1 dX12_grow_67 rfl rfl ?_
          refine V.aload_n X 1 dX12_grow_68 rfl rfl ?_
          refine Vg_r_0_nodeKind X tw_859 dX12_grow_69 ?_
          refine V.iload_n X 0 dX12_grow_72 rfl rfl ?_
          refine Va_r_nodeKind (x := gA (τ) 10 x) X (by omega) dX12_grow_73 rfl ?_
          refine V.topi (y := nI ((nd x).1)) (by rw [u1]) ?_
          refine V.aload_n X 1 dX12_grow_74 rfl rfl ?_
          refine Vg_r_0_nodeNumber X tw_860 dX12_grow_75 ?_
          refine V.iload_n X 0 dX12_grow_78 rfl rfl ?_
          refine Va_r_nodeNumber (x := gJ (τ) 1 x) X (by omega) dX12_grow_79 rfl ?_
          refine V.topi (y := (nd x).2) (by rw [u2]) ?_
          refine V.callV X rfl (rr_add (zl Z) (zG Z) a (nd x).1 (nd x).2 t3 (by omega)) cv_X12_100 rfl 0 rfl rfl (len hRf (by decide)) (len hRl (by decide)) hk0 ht0 [.int (nI x), .ref (a 24)] rfl (Nat.le_of_ble_eq_true rfl) dX12_grow_80 ?_
          rintro _ _ ⟨rfl, τ1, rfl, w1, w2⟩
          refine V.eqs (st' := [.int (nI (aN (bns ops (A, [])).1)), .int (nI x), .ref (a 24)]) rfl ?_
          refine V.topi (y := nI (aN A + ops.length)) (by rw [hNb]) ?_
          refine Vs_r_made (f := gA (τ1) 11) (i := x) (x := aN A + ops.length) X (by omega) dX12_grow_83 rfl ?_
          have f1 := (t1.rst w2).made (va_up (gA τ1 11) x (aN A + ops.length))
          have f2 : xG (sA τ1 11 (va_up (gA τ1 11) x (aN A + ops.length))) τ := (xG_made _ _).tr w2.xg
          have f3 : RRd (adA (bns ops (A, [])).1 (nd x).1 (nd x).2 []) (sA τ1 11 (va_up (gA τ1 11) x (aN A + ops.length))) := w1.ofa rfl
          have f4 : gA (sA τ1 11 (va_up (gA τ1 11) x (aN A + ops.length))) 11 = va_up (gA τ 11) x (aN A + ops.length) := by show va_up (gA τ1 11) x (aN A + ops.length) = _; rw [w2.2.1 11 (by decide)]
          generalize (sA τ1 11 (va_up (gA τ1 11) x (aN A + ops.length))) = τ2 at f1 f2 f3 f4 ⊢
          have f5 := (f1.2.1 x b3).2.2.2
          refine V.aload_n X 1 dX12_grow_84 rfl rfl ?_
          refine Vg_r_0_child X tw_862 dX12_grow_85 ?_
          refine V.iload_n X 0 dX12_grow_88 rfl rfl ?_
          refine Va_r_child (x := gP (τ2) 4 x) X (by omega) dX12_grow_89 rfl ?_
          refine V.topi (y := oI (cl x)[0]?) (by rw [f5]) ?_
          refine V.istore_n X (lv' := [(2, .int (oI ((cl x)[0]?))), (1, .int (nI x)), (0, .ref (a 0))]) dX12_grow_90 rfl (ltn hn (by decide)) rfl ?_
          exact V.sub [0, 1, 2] rfl (LQ _ 0 τ2 (Nat.zero_add _) f1 f2 f3 f4)
      have L0 : ∀ (w : Nat) (c2 : List (Nat × Nat)) (z : Nat), n - z ≤ w → PTH n cl c2 z → z < n → dG n cl nd c2 = [] → dS cl (gA σ 11) c2 = [] → V Z (rw (zG Z) a σ) [(1, .int (nI z)), (0, .ref (a 0))] 37 [] := by
        have hG0 : GI A n cl nd mN σ [] [] σ := ⟨h, xG.rf σ, hx, hW, rfl, (fun s hs => by cases hs), by simp [bns]⟩
        intro w
        induction w with
        | zero => intro c2 z d1 d2 d3; omega
        | succ w ihw =>
          intro c2 z d1 d2 d3 d4 d5
          have v4 := (h.2.1 z d3).2.2.2
          rcases hz : cl z with _ | ⟨z0, zs⟩
          · rw [hz] at v4
            have v4 : gP σ 4 z = none := v4
            refine V.aload_n X 1 dX12_grow_37 rfl rfl ?_
            refine Vg_r_0_child X tw_862 dX12_grow_38 ?_
            refine V.iload_n X 0 dX12_grow_41 rfl rfl ?_
            refine Va_r_child (x := gP σ 4 z) X (by omega) dX12_grow_42 rfl ?_
            refine V.topi (y := -1) (by rw [v4]; rfl) ?_
            refine V.iconst X (v := -1) dX12_grow_43 (by decide) ?_
            refine V.icmp_eq X 57 dX12_grow_44 (by decide) (fun c44 => ?_) (fun c44 => by exfalso; exact absurd rfl c44)
            exact V.sub [0, 1] rfl (LM n c2 z [] [] σ (by omega) d2 d3 (by rw [d4, hz]; rfl) d5.symm (by rw [hz]; exact hG0))
          · rw [hz] at v4
            have v4 : gP σ 4 z = some z0 := v4
            have hz0 := h.2.2.1 z 0 z0 d3 (by rw [hz]; rfl)
            refine V.aload_n X 1 dX12_grow_37 rfl rfl ?_
            refine Vg_r_0_child X tw_862 dX12_grow_38 ?_
            refine V.iload_n X 0 dX12_grow_41 rfl rfl ?_
            refine Va_r_child (x := gP σ 4 z) X (by omega) dX12_grow_42 rfl ?_
            refine V.topi (y := nI z0) (by rw [v4]; rfl) ?_
            refine V.iconst X (v := -1) dX12_grow_43 (by decide) ?_
            refine V.icmp_eq X 57 dX12_grow_44 (by decide) (fun c44 => by exfalso; exact nI_nm1 (by omega) c44) (fun c44 => ?_)
            refine V.aload_n X 1 dX12_grow_47 rfl rfl ?_
            refine Vg_r_0_child X tw_862 dX12_grow_48 ?_
            refine V.iload_n X 0 dX12_grow_51 rfl rfl ?_
            refine Va_r_child (x := gP σ 4 z) X (by omega) dX12_grow_52 rfl ?_
            refine V.topi (y := nI z0) (by rw [v4]; rfl) ?_
            refine V.istore_n X (lv' := [(1, .int (nI z0)), (0, .ref (a 0))]) dX12_grow_53 rfl (ltn hn (by decide)) rfl ?_
            refine V.goto X 37 dX12_grow_54 (by decide) ?_
            exact V.sub [0, 1] rfl (ihw ((z, 0) :: c2) z0 (by omega) ⟨d3, by rw [hz]; rfl, d2⟩ hz0.2.1 (by rw [dG, d4]; simp) (by rw [dS, d5]; simp))
      refine V.iconst X (v := nI 0) dX12_grow_35 (by decide) ?_
      refine V.istore_n X (lv' := [(1, .int (nI 0)), (0, .ref (a 0))]) dX12_grow_36 rfl (ltn hn (by decide)) rfl ?_
      exact V.sub [0, 1] rfl (L0 n [] 0 (by omega) rfl (by omega) rfl rfl)
    · refine V.bipush X (v := (-4)) dX12_grow_32 (by decide) ?_
      exact V.iret X rfl hA hk ht hQ rfl dX12_grow_34 (⟨fun z => by omega, fun _ => ⟨rfl, rfl⟩⟩)

