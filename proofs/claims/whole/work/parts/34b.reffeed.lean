theorem iinc_m1 (c : Nat) : nI c + Int32.ofInt (-1) = nI c - nI 1 := by
  have : (Int32.ofInt (-1)) = -nI 1 := by decide
  rw [this, Int32.sub_eq_add_neg]
def xF (τ σ : St) : Prop := ars τ = ars σ ∧ gN τ 2 = gN σ 2 ∧ gN τ 3 = gN σ 3 ∧ gN τ 5 = gN σ 5 ∧ gN τ 6 = gN σ 6 ∧ gI τ 0 = gI σ 0
theorem feed_end {G : Gx} {a : Nat → Nat} {S : AS} {σ τ : St} {u : Int64} {n2 : Nat} {Q : List Nat} (h : RR S σ) (hsp : sp_feed S u (nI n2) = (nI ((yP S).length + n2), stP S (yP S ++ fdL u n2))) (hle : gN σ 4 + n2 ≤ 6000) (d2 : xF τ σ) (d3 : gN τ 4 = Q.length) (d4 : Q.length + 0 = (yP S).length + n2) (d5 : ∀ i, i < Q.length → gA τ 3 i = Q.getD i 0) (d6 : Q ++ fdL u 0 = yP S ++ fdL u n2) : PR G a (sp_feed S u (nI n2)).2 (.int (sp_feed S u (nI n2)).1) (some (.int (nI (gN τ 4)))) (rw G a τ) := by
  have d7 : Q = yP S ++ fdL u n2 := by rw [← d6]; simp [fdL]
  have h4 := h.2.2.2.2.1
  rw [hsp]
  refine ⟨by rw [d3, show Q.length = (yP S).length + n2 by omega], τ, rfl, ?_⟩
  rw [d7] at d3 d5
  refine h.stP (by rw [List.length_append, fdL_len]; omega) (fun b hb => ?_) d2.1 d2.2.1 d2.2.2.1 d2.2.2.2.1 d2.2.2.2.2.1 d2.2.2.2.2.2 d3 d5
  rcases List.mem_append.mp hb with hb | hb
  · exact h.1.2.2.2.2.2.1 b hb
  · exact fdL_256 u _ b hb

set_option maxHeartbeats 4000000 in
set_option maxRecDepth 100000 in
theorem rf_feed (l : Launch) (G : Gx) (a : Nat → Nat) (σ : St) {S : AS} (u : Int64) (n : Int32) (h : RR S σ) : MM l G ⟨"NestedDeedsModel", "feed", "(JI)I"⟩ prog_14_method_46_code 5 (some .int) 1 22 [.ref (a 0), .long u, .int n] (rw G a σ) (PR G a (sp_feed S u n).2 (.int (sp_feed S u n).1)) := by
  refine MM.of (lv := [(0, .ref (a 0)), (1, .long u), (3, .int n)]) (by decide +kernel) rfl (Nat.le_of_ble_eq_true rfl) ?_
  intro Z hRf hRl hl hG hn hk ht hA hQ X
  subst hG hl
  have X : XC Z "NestedDeedsModel" prog_14_method_46_code (some .int) := X
  have hk0 : zk Z ≤ (zR Z).cells := hk ▸ Nat.zero_le _
  have ht0 : zt Z ≤ (zR Z).slots := ht ▸ Nat.zero_le _
  have hW := h.1.1
  have hN := hW.1
  have hT := hW.2.1
  have hx := h.2.1
  obtain ⟨ix, hX⟩ := h.2.1
  obtain ⟨g0, g1, g2, g3⟩ := hX
  obtain ⟨o1, o2, o3, o4, o5, o6, o7, o8⟩ := h.1
  have e2 : gN σ 2 = yW S := h.2.2.1
  have e3 : gN σ 3 = yM S := h.2.2.2.1
  refine V.iload_n X 2 dX12_feed_0 rfl rfl ?_
  refine V.iconst X (v := nI 1) dX12_feed_1 (by decide) ?_
  refine V.bipush X (v := nI 8) dX12_feed_2 (by decide) ?_
  refine V.callS X rfl (k_in (zl Z) (zG Z) (rw (zG Z) a σ) n (nI 1) (nI 8)) cs_X12_93 rfl (len hRf (by decide)) (len hRl (by decide)) hk0 ht0 [] rfl (Nat.le_of_ble_eq_true rfl) dX12_feed_4 ?_
  rintro _ _ ⟨rfl, rfl⟩
  refine V.eqs (st' := [.int (bI (inR n (nI 1) (nI 8)))]) rfl ?_
  refine V.if_neB X 13 dX12_feed_7 (by decide) (fun c7 => ?_) (fun c7 => ?_)
  · obtain ⟨n2, hn1, hn2, rfl⟩ := inR_nat (by decide) (by decide) c7
    have e4 : gN σ 4 = (yP S).length := h.2.2.2.2.1
    refine V.aload_n X 0 dX12_feed_13 rfl rfl ?_
    refine Vg_r_0_paperSize (x := gN σ 4) X tw_840 dX12_feed_14 rfl ?_
    refine V.iload_n X 2 dX12_feed_17 rfl rfl ?_
    refine V.iaddN X dX12_feed_18 ?_
    refine V.sipush X (v := nI 6000) dX12_feed_19 (by decide) ?_
    refine V.icmp_leN X 28 dX12_feed_22 (by decide) (by omega) (by decide) (fun c22 => ?_) (fun c22 => ?_)
    · have hsp : sp_feed S u (nI n2) = (nI ((yP S).length + n2), stP S (yP S ++ fdL u n2)) := by rw [sp_feed, if_pos c7, dN, nI_clamp (by omega), if_pos (by omega)]
      have LP : ∀ (c : Nat) (τ : St) (Q : List Nat), c ≤ n2 → xF τ σ → gN τ 4 = Q.length → Q.length + c = (yP S).length + n2 → (∀ i, i < Q.length → gA τ 3 i = Q.getD i 0) → Q ++ fdL u c = yP S ++ fdL u n2 → V Z (rw (zG Z) a τ) [(4, .int (nI c - nI 1)), (0, .ref (a 0)), (1, .long u), (3, .int (nI n2))] 33 [] := by
        intro c
        induction c with
        | zero =>
          intro τ Q d1 d2 d3 d4 d5 d6
          have hng : nI 0 - nI 1 < 0 := by decide
          refine V.iload X 0 dX12_feed_33 rfl ?_
          refine V.if_lt X 75 dX12_feed_35 (by decide) (fun c35 => ?_) (fun c35 => by exfalso; exact absurd hng c35)
          refine V.aload_n X 1 dX12_feed_75 rfl rfl ?_
          refine Vg_r_0_paperSize (x := gN (τ) 4) X tw_840 dX12_feed_76 rfl ?_
          exact V.iret X rfl hA hk ht hQ rfl dX12_feed_79 (feed_end h hsp c22 d2 d3 d4 d5 d6)
        | succ c ih =>
          intro τ Q d1 d2 d3 d4 d5 d6
          refine V.eql (lv' := [(4, .int (nI c)), (0, .ref (a 0)), (1, .long u), (3, .int (nI n2))]) (by rw [pk_sub (by omega), Nat.add_sub_cancel]) ?_
          refine V.iload X 0 dX12_feed_33 rfl ?_
          refine V.if_ltN X 75 dX12_feed_35 (by decide) (by omega) (fun c35 => by exfalso; assumption) (fun c35 => ?_)
          refine V.aload_n X 1 dX12_feed_38 rfl rfl ?_
          refine Vg_r_0_paper X tw_839 dX12_feed_39 ?_
          refine V.aload_n X 1 dX12_feed_42 rfl rfl ?_
          refine Vg_r_0_paperSize (x := gN (τ) 4) X tw_840 dX12_feed_43 rfl ?_
          refine V.lload_n X 2 dX12_feed_46 rfl rfl ?_
          refine V.bipush X (v := nI 8) dX12_feed_47 (by decide) ?_
          refine V.iload X 0 dX12_feed_49 rfl ?_
          refine V.imulN X dX12_feed_51 ?_
          refine V.lshr X dX12_feed_52 rfl ?_
          refine V.ldc2 X dX12_feed_53 tw_1137 ?_
          refine V.topl (y := lN 255) (by decide) ?_
          refine V.land X dX12_feed_56 ?_
          refine V.l2i X dX12_feed_57 rfl ?_
          refine V.topi (y := nI (fdB u c)) (fd_ref u (by omega)) ?_
          refine Vs_r_paper (f := gA (τ) 3) (i := gN (τ) 4) (x := fdB u c) X (by omega) dX12_feed_58 rfl ?_
          refine V.aload_n X 1 dX12_feed_59 rfl rfl ?_
          refine V.dup X dX12_feed_60 rfl ?_
          refine Vg_r_0_paperSize (x := gN (τ) 4) X tw_840 dX12_feed_61 rfl ?_
          refine V.iconst X (v := nI 1) dX12_feed_64 (by decide) ?_
          refine V.iaddN X dX12_feed_65 ?_
          refine Vp_r_0_paperSize (x := (gN (τ) 4) + 1) X tw_840 dX12_feed_66 ?_
          refine V.iinc X (v := nI c - nI 1) (lv' := [(4, .int (nI c - nI 1)), (0, .ref (a 0)), (1, .long u), (3, .int (nI n2))]) (k0 := 0) dX12_feed_69 rfl (iinc_m1 c) (ltn hn (by decide)) rfl ?_
          refine V.goto X 33 dX12_feed_72 (by decide) ?_
          refine V.sub [0, 1, 2, 3] rfl (ih _ (Q ++ [fdB u c]) (by omega) d2 (by show gN τ 4 + 1 = _; rw [d3]; simp) (by simp; omega) (fun i hi => ?_) (by rw [← d6]; simp [fdL]))
          rw [List.length_append, List.length_singleton] at hi
          show (if i = gN τ 4 then fdB u c else gA τ 3 i) = _
          simp only [List.getD_eq_getElem?_getD]
          by_cases z : i < Q.length
          · rw [if_neg (by omega), List.getElem?_append_left z, d5 i z, List.getD_eq_getElem?_getD]
          · rw [if_pos (by omega), show i = Q.length by omega, List.getElem?_append_right (Nat.le_refl _)]; simp
      refine V.iload_n X 2 dX12_feed_28 rfl rfl ?_
      refine V.iconst X (v := nI 1) dX12_feed_29 (by decide) ?_
      refine V.isubN X dX12_feed_30 (by omega) ?_
      refine V.istore X (lv' := [(4, .int (nI (n2 - 1))), (0, .ref (a 0)), (1, .long u), (3, .int (nI n2))]) dX12_feed_31 (ltn hn (by decide)) rfl ?_
      refine V.eql (lv' := [(4, .int (nI n2 - nI 1)), (0, .ref (a 0)), (1, .long u), (3, .int (nI n2))]) (by rw [pk_sub (by omega)]) ?_
      exact V.sub [0, 1, 2, 3] rfl (LP n2 σ (yP S) (Nat.le_refl _) ⟨rfl, rfl, rfl, rfl, rfl, rfl⟩ h.2.2.2.2.1 rfl h.2.2.2.2.2.1 rfl)
    · refine V.bipush X (v := (-4)) dX12_feed_25 (by decide) ?_
      exact V.iret X rfl hA hk ht hQ rfl dX12_feed_27 (⟨by rw [sp_feed, if_pos c7, dN, nI_clamp (by omega), if_neg (by omega)], σ, rfl, by rw [sp_feed, if_pos c7, dN, nI_clamp (by omega), if_neg (by omega)]; exact h⟩)
  · refine V.bipush X (v := (-2)) dX12_feed_10 (by decide) ?_
    exact V.iret X rfl hA hk ht hQ rfl dX12_feed_12 (⟨by rw [sp_feed, if_neg (fun z => by rw [c7] at z; cases z)], σ, rfl, by rw [sp_feed, if_neg (fun z => by rw [c7] at z; cases z)]; exact h⟩)

