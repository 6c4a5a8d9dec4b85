def rVd (σ : St) : Prop := gN σ 2 = 0 ∧ gN σ 3 < gN σ 7 + 1
def rVU (σ : St) (d : Nat) (o : Option Nat) : St := sN (sN (sA (sA (sN (sA (sP (sA σ 4 (va_up (gA σ 4) (gN σ 7) d)) 3 (va_up (gP σ 3) (gN σ 7) o)) 5 (va_up (gA σ 5) (gN σ 7) 0)) 7 (gN σ 7 + 1)) 6 (va_up (gA σ 6) (gN σ 8) d)) 7 (va_up (gA σ 7) (gN σ 8) (gN σ 7 + 1))) 8 (gN σ 8 + 1)) 9 (max (gN σ 9) (gN σ 7 + 1))
def PVis (G : Gx) (a : Nat → Nat) (σ : St) (d : Nat) (o : Option Nat) (rv : Option Value) (w : va_W) : Prop :=
  ∃ b : Bool, rv = some (.int (bI b)) ∧ ((gN σ 8 = 20000 ∧ b = false ∧ w = rw G a (sI σ 0 (-5))) ∨ (¬ gN σ 8 = 20000 ∧ (gN σ 2 = 0 ∧ gN σ 3 < gN σ 7 + 1) ∧ b = false ∧ w = rw G a (sI σ 0 (-6))) ∨ (¬ gN σ 8 = 20000 ∧ ¬ (gN σ 2 = 0 ∧ gN σ 3 < gN σ 7 + 1) ∧ b = true ∧ w = rw G a (rVU σ d o)))
def rEnd (σ : St) : St := sN (sN σ 5 (gN σ 8)) 6 (if gN σ 2 = 0 then gN σ 9 else if gN σ 2 = 3 then min (gN σ 9) (gN σ 3) else 0)

set_option maxHeartbeats 4000000 in
set_option maxRecDepth 100000 in
theorem r_visit (l : Launch) (G : Gx) (a : Nat → Nat) (σ : St) (d : Nat) (o : Option Nat) (h7 : gN σ 7 < 1501) (h8 : gN σ 8 ≤ 20000) (h9 : gN σ 9 < 2 ^ 30) (h3 : gN σ 3 < 2 ^ 30) (h2 : gN σ 2 < 2 ^ 30) : MM l G ⟨"NestedDeedsModel", "visit", "(II)Z"⟩ prog_14_method_22_code 3 (some .boolean) 0 0 [.ref (a 0), .int (nI d), .int (oI o)] (rw G a σ) (PVis G a σ d o) := by
  refine MM.of (lv := [(0, .ref (a 0)), (1, .int (nI d)), (2, .int (oI o))]) (by decide +kernel) rfl (Nat.le_of_ble_eq_true rfl) ?_
  intro Z hRf hRl hl hG hn hk ht hA hQ X
  subst hG hl
  have X : XC Z "NestedDeedsModel" prog_14_method_22_code (some .boolean) := X
  have hk0 : zk Z ≤ (zR Z).cells := hk ▸ Nat.zero_le _
  have ht0 : zt Z ≤ (zR Z).slots := ht ▸ Nat.zero_le _
  refine V.aload_n X 0 dX12_visit_0 rfl rfl ?_
  refine Vg_r_0_visited (x := gN σ 8) X tw_847 dX12_visit_1 rfl ?_
  refine V.sipush X (v := nI 20000) dX12_visit_4 (by decide) ?_
  refine V.icmp_neN X 18 dX12_visit_7 (by decide) (by omega) (by decide) (fun c7 => ?_) (fun c7 => ?_)
  · refine V.aload_n X 0 dX12_visit_18 rfl rfl ?_
    refine Vg_r_0_way (x := gN σ 2) X tw_837 dX12_visit_19 rfl ?_
    refine V.if_neN X 46 dX12_visit_22 (by decide) (by omega) (fun c22 => ?_) (fun c22 => ?_)
    · refine V.aload_n X 0 dX12_visit_46 rfl rfl ?_
      refine Vg_r_0_pile X tw_849 dX12_visit_47 ?_
      refine V.aload_n X 0 dX12_visit_50 rfl rfl ?_
      refine Vg_r_0_depth (x := gN σ 7) X tw_846 dX12_visit_51 rfl ?_
      refine V.iload_n X 1 dX12_visit_54 rfl rfl ?_
      refine Vs_r_pile (f := gA σ 4) (i := gN σ 7) (x := d) X (by omega) dX12_visit_55 rfl ?_
      refine V.aload_n X 0 dX12_visit_56 rfl rfl ?_
      refine Vg_r_0_other X tw_850 dX12_visit_57 ?_
      refine V.aload_n X 0 dX12_visit_60 rfl rfl ?_
      refine Vg_r_0_depth (x := gN σ 7) X tw_846 dX12_visit_61 rfl ?_
      refine V.iload_n X 2 dX12_visit_64 rfl rfl ?_
      refine Vs_r_other (f := gP σ 3) (i := gN σ 7) (x := o) X (by omega) dX12_visit_65 rfl ?_
      refine V.aload_n X 0 dX12_visit_66 rfl rfl ?_
      refine Vg_r_0_begun X tw_851 dX12_visit_67 ?_
      refine V.aload_n X 0 dX12_visit_70 rfl rfl ?_
      refine Vg_r_0_depth (x := gN σ 7) X tw_846 dX12_visit_71 rfl ?_
      refine V.iconst X (v := nI 0) dX12_visit_74 (by decide) ?_
      refine Vs_r_begun (f := gA σ 5) (i := gN σ 7) (x := 0) X (by omega) dX12_visit_75 rfl ?_
      refine V.aload_n X 0 dX12_visit_76 rfl rfl ?_
      refine V.dup X dX12_visit_77 rfl ?_
      refine Vg_r_0_depth (x := gN σ 7) X tw_846 dX12_visit_78 rfl ?_
      refine V.iconst X (v := nI 1) dX12_visit_81 (by decide) ?_
      refine V.iaddN X dX12_visit_82 ?_
      refine Vp_r_0_depth (x := (gN σ 7) + 1) X tw_846 dX12_visit_83 ?_
      refine V.aload_n X 0 dX12_visit_86 rfl rfl ?_
      refine Vg_r_0_visitDeed X tw_852 dX12_visit_87 ?_
      refine V.aload_n X 0 dX12_visit_90 rfl rfl ?_
      refine Vg_r_0_visited (x := gN σ 8) X tw_847 dX12_visit_91 rfl ?_
      refine V.iload_n X 1 dX12_visit_94 rfl rfl ?_
      refine Vs_r_visitDeed (f := gA σ 6) (i := gN σ 8) (x := d) X (by omega) dX12_visit_95 rfl ?_
      refine V.aload_n X 0 dX12_visit_96 rfl rfl ?_
      refine Vg_r_0_visitDepth X tw_853 dX12_visit_97 ?_
      refine V.aload_n X 0 dX12_visit_100 rfl rfl ?_
      refine Vg_r_0_visited (x := gN σ 8) X tw_847 dX12_visit_101 rfl ?_
      refine V.aload_n X 0 dX12_visit_104 rfl rfl ?_
      refine Vg_r_0_depth (x := (gN σ 7) + 1) X tw_846 dX12_visit_105 rfl ?_
      refine Vs_r_visitDepth (f := gA σ 7) (i := gN σ 8) (x := (gN σ 7) + 1) X (by omega) dX12_visit_108 rfl ?_
      refine V.aload_n X 0 dX12_visit_109 rfl rfl ?_
      refine V.dup X dX12_visit_110 rfl ?_
      refine Vg_r_0_visited (x := gN σ 8) X tw_847 dX12_visit_111 rfl ?_
      refine V.iconst X (v := nI 1) dX12_visit_114 (by decide) ?_
      refine V.iaddN X dX12_visit_115 ?_
      refine Vp_r_0_visited (x := (gN σ 8) + 1) X tw_847 dX12_visit_116 ?_
      refine V.aload_n X 0 dX12_visit_119 rfl rfl ?_
      refine V.aload_n X 0 dX12_visit_120 rfl rfl ?_
      refine Vg_r_0_depth (x := (gN σ 7) + 1) X tw_846 dX12_visit_121 rfl ?_
      refine V.aload_n X 0 dX12_visit_124 rfl rfl ?_
      refine Vg_r_0_deepest (x := gN σ 9) X tw_848 dX12_visit_125 rfl ?_
      refine V.icmp_leN X 138 dX12_visit_128 (by decide) (by omega) (by omega) (fun c128 => ?_) (fun c128 => ?_)
      · refine V.aload_n X 0 dX12_visit_138 rfl rfl ?_
        refine Vg_r_0_deepest (x := gN σ 9) X tw_848 dX12_visit_139 rfl ?_
        refine Vp_r_0_deepest (x := gN σ 9) X tw_848 dX12_visit_142 ?_
        refine V.iconst X (v := nI 1) dX12_visit_145 (by decide) ?_
        refine V.topi (y := bI true) rfl ?_
        exact V.zret X rfl hA hk ht hQ rfl (bI_01 _) dX12_visit_146 (⟨true, rfl, Or.inr (Or.inr ⟨by omega, fun z => by omega, rfl, by rw [rVU, Nat.max_eq_left (by omega)]⟩)⟩)
      · refine V.aload_n X 0 dX12_visit_131 rfl rfl ?_
        refine Vg_r_0_depth (x := (gN σ 7) + 1) X tw_846 dX12_visit_132 rfl ?_
        refine V.goto X 142 dX12_visit_135 (by decide) ?_
        refine Vp_r_0_deepest (x := (gN σ 7) + 1) X tw_848 dX12_visit_142 ?_
        refine V.iconst X (v := nI 1) dX12_visit_145 (by decide) ?_
        refine V.topi (y := bI true) rfl ?_
        exact V.zret X rfl hA hk ht hQ rfl (bI_01 _) dX12_visit_146 (⟨true, rfl, Or.inr (Or.inr ⟨by omega, fun z => by omega, rfl, by rw [rVU, Nat.max_eq_right (by omega)]⟩)⟩)
    · refine V.aload_n X 0 dX12_visit_25 rfl rfl ?_
      refine Vg_r_0_depth (x := gN σ 7) X tw_846 dX12_visit_26 rfl ?_
      refine V.iconst X (v := nI 1) dX12_visit_29 (by decide) ?_
      refine V.iaddN X dX12_visit_30 ?_
      refine V.aload_n X 0 dX12_visit_31 rfl rfl ?_
      refine Vg_r_0_meter (x := gN σ 3) X tw_838 dX12_visit_32 rfl ?_
      refine V.icmp_leN X 46 dX12_visit_35 (by decide) (by omega) (by omega) (fun c35 => ?_) (fun c35 => ?_)
      · refine V.aload_n X 0 dX12_visit_46 rfl rfl ?_
        refine Vg_r_0_pile X tw_849 dX12_visit_47 ?_
        refine V.aload_n X 0 dX12_visit_50 rfl rfl ?_
        refine Vg_r_0_depth (x := gN σ 7) X tw_846 dX12_visit_51 rfl ?_
        refine V.iload_n X 1 dX12_visit_54 rfl rfl ?_
        refine Vs_r_pile (f := gA σ 4) (i := gN σ 7) (x := d) X (by omega) dX12_visit_55 rfl ?_
        refine V.aload_n X 0 dX12_visit_56 rfl rfl ?_
        refine Vg_r_0_other X tw_850 dX12_visit_57 ?_
        refine V.aload_n X 0 dX12_visit_60 rfl rfl ?_
        refine Vg_r_0_depth (x := gN σ 7) X tw_846 dX12_visit_61 rfl ?_
        refine V.iload_n X 2 dX12_visit_64 rfl rfl ?_
        refine Vs_r_other (f := gP σ 3) (i := gN σ 7) (x := o) X (by omega) dX12_visit_65 rfl ?_
        refine V.aload_n X 0 dX12_visit_66 rfl rfl ?_
        refine Vg_r_0_begun X tw_851 dX12_visit_67 ?_
        refine V.aload_n X 0 dX12_visit_70 rfl rfl ?_
        refine Vg_r_0_depth (x := gN σ 7) X tw_846 dX12_visit_71 rfl ?_
        refine V.iconst X (v := nI 0) dX12_visit_74 (by decide) ?_
        refine Vs_r_begun (f := gA σ 5) (i := gN σ 7) (x := 0) X (by omega) dX12_visit_75 rfl ?_
        refine V.aload_n X 0 dX12_visit_76 rfl rfl ?_
        refine V.dup X dX12_visit_77 rfl ?_
        refine Vg_r_0_depth (x := gN σ 7) X tw_846 dX12_visit_78 rfl ?_
        refine V.iconst X (v := nI 1) dX12_visit_81 (by decide) ?_
        refine V.iaddN X dX12_visit_82 ?_
        refine Vp_r_0_depth (x := (gN σ 7) + 1) X tw_846 dX12_visit_83 ?_
        refine V.aload_n X 0 dX12_visit_86 rfl rfl ?_
        refine Vg_r_0_visitDeed X tw_852 dX12_visit_87 ?_
        refine V.aload_n X 0 dX12_visit_90 rfl rfl ?_
        refine Vg_r_0_visited (x := gN σ 8) X tw_847 dX12_visit_91 rfl ?_
        refine V.iload_n X 1 dX12_visit_94 rfl rfl ?_
        refine Vs_r_visitDeed (f := gA σ 6) (i := gN σ 8) (x := d) X (by omega) dX12_visit_95 rfl ?_
        refine V.aload_n X 0 dX12_visit_96 rfl rfl ?_
        refine Vg_r_0_visitDepth X tw_853 dX12_visit_97 ?_
        refine V.aload_n X 0 dX12_visit_100 rfl rfl ?_
        refine Vg_r_0_visited (x := gN σ 8) X tw_847 dX12_visit_101 rfl ?_
        refine V.aload_n X 0 dX12_visit_104 rfl rfl ?_
        refine Vg_r_0_depth (x := (gN σ 7) + 1) X tw_846 dX12_visit_105 rfl ?_
        refine Vs_r_visitDepth (f := gA σ 7) (i := gN σ 8) (x := (gN σ 7) + 1) X (by omega) dX12_visit_108 rfl ?_
        refine V.aload_n X 0 dX12_visit_109 rfl rfl ?_
        refine V.dup X dX12_visit_110 rfl ?_
        refine Vg_r_0_visited (x := gN σ 8) X tw_847 dX12_visit_111 rfl ?_
        refine V.iconst X (v := nI 1) dX12_visit_114 (by decide) ?_
        refine V.iaddN X dX12_visit_115 ?_
        refine Vp_r_0_visited (x := (gN σ 8) + 1) X tw_847 dX12_visit_116 ?_
        refine V.aload_n X 0 dX12_visit_119 rfl rfl ?_
        refine V.aload_n X 0 dX12_visit_120 rfl rfl ?_
        refine Vg_r_0_depth (x := (gN σ 7) + 1) X tw_846 dX12_visit_121 rfl ?_
        refine V.aload_n X 0 dX12_visit_124 rfl rfl ?_
        refine Vg_r_0_deepest (x := gN σ 9) X tw_848 dX12_visit_125 rfl ?_
        refine V.icmp_leN X 138 dX12_visit_128 (by decide) (by omega) (by omega) (fun c128 => ?_) (fun c128 => ?_)
        · refine V.aload_n X 0 dX12_visit_138 rfl rfl ?_
          refine Vg_r_0_deepest (x := gN σ 9) X tw_848 dX12_visit_139 rfl ?_
          refine Vp_r_0_deepest (x := gN σ 9) X tw_848 dX12_visit_142 ?_
          refine V.iconst X (v := nI 1) dX12_visit_145 (by decide) ?_
          refine V.topi (y := bI true) rfl ?_
          exact V.zret X rfl hA hk ht hQ rfl (bI_01 _) dX12_visit_146 (⟨true, rfl, Or.inr (Or.inr ⟨by omega, fun z => by omega, rfl, by rw [rVU, Nat.max_eq_left (by omega)]⟩)⟩)
        · refine V.aload_n X 0 dX12_visit_131 rfl rfl ?_
          refine Vg_r_0_depth (x := (gN σ 7) + 1) X tw_846 dX12_visit_132 rfl ?_
          refine V.goto X 142 dX12_visit_135 (by decide) ?_
          refine Vp_r_0_deepest (x := (gN σ 7) + 1) X tw_848 dX12_visit_142 ?_
          refine V.iconst X (v := nI 1) dX12_visit_145 (by decide) ?_
          refine V.topi (y := bI true) rfl ?_
          exact V.zret X rfl hA hk ht hQ rfl (bI_01 _) dX12_visit_146 (⟨true, rfl, Or.inr (Or.inr ⟨by omega, fun z => by omega, rfl, by rw [rVU, Nat.max_eq_right (by omega)]⟩)⟩)
      · refine V.aload_n X 0 dX12_visit_38 rfl rfl ?_
        refine V.bipush X (v := (-6)) dX12_visit_39 (by decide) ?_
        refine Vp_r_0_answer (x := (-6)) X tw_841 dX12_visit_41 ?_
        refine V.iconst X (v := nI 0) dX12_visit_44 (by decide) ?_
        refine V.topi (y := bI false) rfl ?_
        exact V.zret X rfl hA hk ht hQ rfl (bI_01 _) dX12_visit_45 (⟨false, rfl, Or.inr (Or.inl ⟨by omega, ⟨by omega, by omega⟩, rfl, rfl⟩)⟩)
  · refine V.aload_n X 0 dX12_visit_10 rfl rfl ?_
    refine V.bipush X (v := (-5)) dX12_visit_11 (by decide) ?_
    refine Vp_r_0_answer (x := (-5)) X tw_841 dX12_visit_13 ?_
    refine V.iconst X (v := nI 0) dX12_visit_16 (by decide) ?_
    refine V.topi (y := bI false) rfl ?_
    exact V.zret X rfl hA hk ht hQ rfl (bI_01 _) dX12_visit_17 (⟨false, rfl, Or.inl ⟨by omega, rfl, rfl⟩⟩)

set_option maxHeartbeats 4000000 in
set_option maxRecDepth 100000 in
theorem r_ended (l : Launch) (G : Gx) (a : Nat → Nat) (σ : St) (h9 : gN σ 9 < 2 ^ 30) (h3 : gN σ 3 < 2 ^ 30) (h2 : gN σ 2 < 2 ^ 30) : MM l G ⟨"NestedDeedsModel", "ended", "()I"⟩ prog_14_method_23_code 1 (some .int) 0 0 [.ref (a 0)] (rw G a σ) (fun rv w => rv = some (.int (gI σ 0)) ∧ w = rw G a (rEnd σ)) := by
  refine MM.of (lv := [(0, .ref (a 0))]) (by decide +kernel) rfl (Nat.le_of_ble_eq_true rfl) ?_
  intro Z hRf hRl hl hG hn hk ht hA hQ X
  subst hG hl
  have X : XC Z "NestedDeedsModel" prog_14_method_23_code (some .int) := X
  have hk0 : zk Z ≤ (zR Z).cells := hk ▸ Nat.zero_le _
  have ht0 : zt Z ≤ (zR Z).slots := ht ▸ Nat.zero_le _
  refine V.aload_n X 0 dX12_ended_0 rfl rfl ?_
  refine V.aload_n X 0 dX12_ended_1 rfl rfl ?_
  refine Vg_r_0_visited (x := gN σ 8) X tw_847 dX12_ended_2 rfl ?_
  refine Vp_r_0_toldVisited (x := gN σ 8) X tw_842 dX12_ended_5 ?_
  refine V.aload_n X 0 dX12_ended_8 rfl rfl ?_
  refine V.aload_n X 0 dX12_ended_9 rfl rfl ?_
  refine Vg_r_0_way (x := gN σ 2) X tw_837 dX12_ended_10 rfl ?_
  refine V.if_neN X 23 dX12_ended_13 (by decide) (by omega) (fun c13 => ?_) (fun c13 => ?_)
  · refine V.aload_n X 0 dX12_ended_23 rfl rfl ?_
    refine Vg_r_0_way (x := gN σ 2) X tw_837 dX12_ended_24 rfl ?_
    refine V.iconst X (v := nI 3) dX12_ended_27 (by decide) ?_
    refine V.icmp_neN X 56 dX12_ended_28 (by decide) (by omega) (by decide) (fun c28 => ?_) (fun c28 => ?_)
    · refine V.iconst X (v := nI 0) dX12_ended_56 (by decide) ?_
      refine Vp_r_0_toldCalls (x := 0) X tw_843 dX12_ended_57 ?_
      refine V.aload_n X 0 dX12_ended_60 rfl rfl ?_
      refine Vg_r_0_answer (x := gI σ 0) X tw_841 dX12_ended_61 rfl ?_
      exact V.iret X rfl hA hk ht hQ rfl dX12_ended_64 (⟨rfl, by rw [rEnd, if_neg c13, if_neg c28]⟩)
    · refine V.aload_n X 0 dX12_ended_31 rfl rfl ?_
      refine Vg_r_0_deepest (x := gN σ 9) X tw_848 dX12_ended_32 rfl ?_
      refine V.aload_n X 0 dX12_ended_35 rfl rfl ?_
      refine Vg_r_0_meter (x := gN σ 3) X tw_838 dX12_ended_36 rfl ?_
      refine V.icmp_geN X 49 dX12_ended_39 (by decide) (by omega) (by omega) (fun c39 => ?_) (fun c39 => ?_)
      · refine V.aload_n X 0 dX12_ended_49 rfl rfl ?_
        refine Vg_r_0_meter (x := gN σ 3) X tw_838 dX12_ended_50 rfl ?_
        refine V.goto X 57 dX12_ended_53 (by decide) ?_
        refine Vp_r_0_toldCalls (x := gN σ 3) X tw_843 dX12_ended_57 ?_
        refine V.aload_n X 0 dX12_ended_60 rfl rfl ?_
        refine Vg_r_0_answer (x := gI σ 0) X tw_841 dX12_ended_61 rfl ?_
        exact V.iret X rfl hA hk ht hQ rfl dX12_ended_64 (⟨rfl, by rw [rEnd, if_neg c13, if_pos c28, Nat.min_eq_right (by omega)]⟩)
      · refine V.aload_n X 0 dX12_ended_42 rfl rfl ?_
        refine Vg_r_0_deepest (x := gN σ 9) X tw_848 dX12_ended_43 rfl ?_
        refine V.goto X 57 dX12_ended_46 (by decide) ?_
        refine Vp_r_0_toldCalls (x := gN σ 9) X tw_843 dX12_ended_57 ?_
        refine V.aload_n X 0 dX12_ended_60 rfl rfl ?_
        refine Vg_r_0_answer (x := gI σ 0) X tw_841 dX12_ended_61 rfl ?_
        exact V.iret X rfl hA hk ht hQ rfl dX12_ended_64 (⟨rfl, by rw [rEnd, if_neg c13, if_pos c28, Nat.min_eq_left (by omega)]⟩)
  · refine V.aload_n X 0 dX12_ended_16 rfl rfl ?_
    refine Vg_r_0_deepest (x := gN σ 9) X tw_848 dX12_ended_17 rfl ?_
    refine V.goto X 57 dX12_ended_20 (by decide) ?_
    refine Vp_r_0_toldCalls (x := gN σ 9) X tw_843 dX12_ended_57 ?_
    refine V.aload_n X 0 dX12_ended_60 rfl rfl ?_
    refine Vg_r_0_answer (x := gI σ 0) X tw_841 dX12_ended_61 rfl ?_
    exact V.iret X rfl hA hk ht hQ rfl dX12_ended_64 (⟨rfl, by rw [rEnd, if_pos c13]⟩)

def chf (A : Ar) (wf : Bool) (d : Nat) : List Nat := if wf = true then wl A d else aP A d
theorem chf_mem {A : Ar} {wf : Bool} {d p : Nat} (h : p ∈ chf A wf d) : p ∈ aP A d := by
  simp only [chf] at h; split at h
  · exact wl_mem h
  · exact h
theorem chf_eld {A : Ar} (hA : WA A) (wf : Bool) : ELD (chf A wf) id := fun _ _ hp => hA.lt (chf_mem hp)
theorem tkU_pre {w : Nat → Int64} : ∀ {l : List Nat} {t : Nat}, t < (tkU w l).length → (tkU w l)[t]? = l[t]?
  | [], t, h => by simp [tkU] at h
  | q :: l, t, h => by
    simp only [tkU] at h ⊢
    by_cases hq : w q = lN 0
    · rw [if_pos hq] at h ⊢
      cases t with
      | zero => rfl
      | succ t => simp only [List.getElem?_cons_succ]; exact tkU_pre (by simpa using h)
    · rw [if_neg hq] at h ⊢
      cases t with
      | zero => rfl
      | succ t => simp at h
theorem gD {l : List Nat} {i : Nat} (h : i < l.length) : l[i]? = some (l.getD i 0) := by
  rw [List.getD_eq_getElem?_getD, List.getElem?_eq_getElem h]; rfl
theorem wl_0 {A : Ar} {d : Nat} (h : aK A d = 0) : wl A d = [] := by simp [wl, wlO, h]
theorem wl_8 {A : Ar} {d : Nat} (h : aK A d = 8) : wl A d = tkU (wo A) (aP A d) := by simp [wl, wlO, h]
theorem wl_x {A : Ar} {d : Nat} (h0 : ¬ aK A d = 0) (h7 : ¬ aK A d = 7) (h8 : ¬ aK A d = 8) : wl A d = aP A d := by simp [wl, wlO, h0, h7, h8]
theorem wl_71 {A : Ar} {d : Nat} (h : aK A d = 7) (hn : (aP A d).length ≤ 1) : wl A d = aP A d := by
  have e : wl A d = ch7 (wo A) (aP A d) := by simp [wl, wlO, h]
  rw [e]
  rcases hp : aP A d with _ | ⟨a, _ | ⟨b, r⟩⟩
  · rfl
  · rfl
  · rw [hp] at hn; simp at hn
theorem wl_72 {A : Ar} {d : Nat} (h : aK A d = 7) (hn : 1 < (aP A d).length) : wl A d = [(aP A d).getD 0 0, (aP A d).getD (1 + fmodN (wo A ((aP A d).getD 0 0)) ((aP A d).length - 1)) 0] := by
  have e : wl A d = ch7 (wo A) (aP A d) := by simp [wl, wlO, h]
  rw [e]
  rcases hp : aP A d with _ | ⟨a, _ | ⟨b, r⟩⟩
  · rw [hp] at hn; simp at hn
  · rw [hp] at hn; simp at hn
  · show [a, (b :: r).getD (fmodN (wo A a) (b :: r).length) 0] = [a, (a :: b :: r).getD (1 + fmodN (wo A a) ((a :: b :: r).length - 1)) 0]
    rw [show 1 + fmodN (wo A a) ((a :: b :: r).length - 1) = fmodN (wo A a) (b :: r).length + 1 from Nat.add_comm .., List.getD_cons_succ]
def PNx (G : Gx) (a : Nat → Nat) (σ : St) (o : Option Nat) (t : Nat) (rv : Option Value) (w : va_W) : Prop := rv = some (.int (oI o)) ∧ ((o = none ∧ w = rw G a σ) ∨ ((∃ p, o = some p) ∧ w = rw G a (sA σ 5 (va_up (gA σ 5) (gN σ 7 - 1) (t + 1)))))

set_option maxHeartbeats 4000000 in
set_option maxRecDepth 100000 in
theorem r_nextFrom (l : Launch) (G : Gx) (a : Nat → Nat) (σ : St) {A : Ar} (wf : Bool) (d t : Nat) (hx : RRd A σ) (hW : WA A) (hd : d < aN A) (hw : wf = true → ∀ p, p < d → gL σ 0 p = wo A p) (h71 : 1 ≤ gN σ 7) (h72 : gN σ 7 ≤ 1501) (hpd : gA σ 4 (gN σ 7 - 1) = d) (hbt : gA σ 5 (gN σ 7 - 1) = t) (ht4 : t < 2 ^ 30) : MM l G ⟨"NestedDeedsModel", "nextFrom", "(Z)I"⟩ prog_14_method_25_code 5 (some .int) 1 26 [.ref (a 0), .int (bI wf)] (rw G a σ) (PNx G a σ ((chf A wf d)[t]?) t) := by
  refine MM.of (lv := [(0, .ref (a 0)), (1, .int (bI wf))]) (by decide +kernel) rfl (Nat.le_of_ble_eq_true rfl) ?_
  intro Z hRf hRl hl hG hn hk ht hA hQ X
  subst hG hl
  have X : XC Z "NestedDeedsModel" prog_14_method_25_code (some .int) := X
  have hk0 : zk Z ≤ (zR Z).cells := hk ▸ Nat.zero_le _
  have ht0 : zt Z ≤ (zR Z).slots := ht ▸ Nat.zero_le _
  have hkd := hW.2.2.1 d hd
  obtain ⟨ix, hX⟩ := id hx
  obtain ⟨g0, g1, g2, g3⟩ := hX
  obtain ⟨q1, q2, q3, q4, q5, q6, q7⟩ := g2 d hd
  have hT := hW.2.1
  have hN := hW.1
  have hln := tot_len hW hd
  have hfm : 1 < (aP A d).length → fmodN (wo A ((aP A d).getD 0 0)) ((aP A d).length - 1) < (aP A d).length - 1 := fun z => fmodN_lt _ (by omega)
  cases wf with
  | false =>
    refine V.aload_n X 0 dX12_nextFrom_0 rfl rfl ?_
    refine Vg_r_0_pile X tw_849 dX12_nextFrom_1 ?_
    refine V.aload_n X 0 dX12_nextFrom_4 rfl rfl ?_
    refine Vg_r_0_depth (x := gN σ 7) X tw_846 dX12_nextFrom_5 rfl ?_
    refine V.iconst X (v := nI 1) dX12_nextFrom_8 (by decide) ?_
    refine V.isubN X dX12_nextFrom_9 (by omega) ?_
    refine Va_r_pile (x := gA σ 4 ((gN σ 7) - 1)) X (by omega) dX12_nextFrom_10 rfl ?_
    refine V.topi (y := nI d) (by rw [hpd]) ?_
    refine V.istore_n X (lv' := [(2, .int (nI d)), (0, .ref (a 0)), (1, .int (bI false))]) dX12_nextFrom_11 rfl (ltn hn (by decide)) rfl ?_
    refine V.aload_n X 1 dX12_nextFrom_12 rfl rfl ?_
    refine Vg_r_0_begun X tw_851 dX12_nextFrom_13 ?_
    refine V.aload_n X 1 dX12_nextFrom_16 rfl rfl ?_
    refine Vg_r_0_depth (x := gN σ 7) X tw_846 dX12_nextFrom_17 rfl ?_
    refine V.iconst X (v := nI 1) dX12_nextFrom_20 (by decide) ?_
    refine V.isubN X dX12_nextFrom_21 (by omega) ?_
    refine Va_r_begun (x := gA σ 5 ((gN σ 7) - 1)) X (by omega) dX12_nextFrom_22 rfl ?_
    refine V.topi (y := nI t) (by rw [hbt]) ?_
    refine V.istore_n X (lv' := [(3, .int (nI t)), (2, .int (nI d)), (0, .ref (a 0)), (1, .int (bI false))]) dX12_nextFrom_23 rfl (ltn hn (by decide)) rfl ?_
    refine V.aload_n X 2 dX12_nextFrom_24 rfl rfl ?_
    refine Vg_r_0_partMany X tw_831 dX12_nextFrom_25 ?_
    refine V.iload_n X 1 dX12_nextFrom_28 rfl rfl ?_
    refine Va_r_partMany (x := gA σ 1 d) X (by omega) dX12_nextFrom_29 rfl ?_
    refine V.topi (y := nI ((aP A d).length)) (by rw [q3]) ?_
    refine V.istore X (lv' := [(4, .int (nI ((aP A d).length))), (3, .int (nI t)), (2, .int (nI d)), (0, .ref (a 0)), (1, .int (bI false))]) dX12_nextFrom_30 (ltn hn (by decide)) rfl ?_
    refine V.iload_n X 4 dX12_nextFrom_32 rfl rfl ?_
    refine V.if_eqB X 51 dX12_nextFrom_33 (by decide) (fun c33 => ?_) (fun c33 => by exfalso; cases c33)
    refine V.iload_n X 4 dX12_nextFrom_51 rfl rfl ?_
    refine V.if_eqB X 78 dX12_nextFrom_52 (by decide) (fun c52 => ?_) (fun c52 => by exfalso; cases c52)
    refine V.iload_n X 4 dX12_nextFrom_78 rfl rfl ?_
    refine V.if_eqB X 100 dX12_nextFrom_79 (by decide) (fun c79 => ?_) (fun c79 => by exfalso; cases c79)
    have hL : chf A false d = aP A d := rfl
    refine V.iload_n X 1 dX12_nextFrom_100 rfl rfl ?_
    refine V.iload X 0 dX12_nextFrom_101 rfl ?_
    refine V.icmp_ltN X 108 dX12_nextFrom_103 (by decide) (by omega) (by omega) (fun c103 => ?_) (fun c103 => ?_)
    · refine V.aload_n X 3 dX12_nextFrom_108 rfl rfl ?_
      refine Vg_r_0_begun X tw_851 dX12_nextFrom_109 ?_
      refine V.aload_n X 3 dX12_nextFrom_112 rfl rfl ?_
      refine Vg_r_0_depth (x := gN σ 7) X tw_846 dX12_nextFrom_113 rfl ?_
      refine V.iconst X (v := nI 1) dX12_nextFrom_116 (by decide) ?_
      refine V.isubN X dX12_nextFrom_117 (by omega) ?_
      refine V.dup2 X dX12_nextFrom_118 rfl rfl ?_
      refine Va_r_begun (x := gA σ 5 ((gN σ 7) - 1)) X (by omega) dX12_nextFrom_119 rfl ?_
      refine V.topi (y := nI t) (by rw [hbt]) ?_
      refine V.iconst X (v := nI 1) dX12_nextFrom_120 (by decide) ?_
      refine V.iaddN X dX12_nextFrom_121 ?_
      refine Vs_r_begun (f := gA σ 5) (i := (gN σ 7) - 1) (x := t + 1) X (by omega) dX12_nextFrom_122 rfl ?_
      refine V.aload_n X 3 dX12_nextFrom_123 rfl rfl ?_
      refine V.iload_n X 2 dX12_nextFrom_124 rfl rfl ?_
      refine V.iload_n X 4 dX12_nextFrom_125 rfl rfl ?_
      refine V.if_eqB X 153 dX12_nextFrom_126 (by decide) (fun c126 => ?_) (fun c126 => by exfalso; cases c126)
      refine V.iload_n X 1 dX12_nextFrom_153 rfl rfl ?_
      refine V.callV X rfl (r_partAt (zl Z) (zG Z) a (sA σ 5 (va_up (gA σ 5) (gN σ 7 - 1) (t + 1))) (A := A) d t (hx.ofa rfl) hW hd (by first | omega | (have hll := tkU_len (w := wo A) (aP A d); omega))) cv_X12_115 rfl 0 rfl rfl (len hRf (by decide)) (len hRl (by decide)) hk0 ht0 [] rfl (Nat.le_of_ble_eq_true rfl) dX12_nextFrom_154 ?_
      rintro _ _ ⟨rfl, rfl⟩
      refine V.eqs (st' := [.int (nI ((aP A d).getD t 0))]) rfl ?_
      exact V.iret X rfl hA hk ht hQ rfl dX12_nextFrom_157 (⟨by rw [hL, gD (by omega)]; rfl, Or.inr ⟨⟨_, by rw [hL, gD (by omega)]⟩, rfl⟩⟩)
    · refine V.iconst X (v := -1) dX12_nextFrom_106 (by decide) ?_
      exact V.iret X rfl hA hk ht hQ rfl dX12_nextFrom_107 (⟨by rw [hL, List.getElem?_eq_none (by first | (simp; done) | (simp only [List.length_cons, List.length_nil]; omega) | omega)]; rfl, Or.inl ⟨by rw [hL, List.getElem?_eq_none (by first | (simp; done) | (simp only [List.length_cons, List.length_nil]; omega) | omega)], rfl⟩⟩)
  | true =>
    have hwt : true = true := rfl
    refine V.aload_n X 0 dX12_nextFrom_0 rfl rfl ?_
    refine Vg_r_0_pile X tw_849 dX12_nextFrom_1 ?_
    refine V.aload_n X 0 dX12_nextFrom_4 rfl rfl ?_
    refine Vg_r_0_depth (x := gN σ 7) X tw_846 dX12_nextFrom_5 rfl ?_
    refine V.iconst X (v := nI 1) dX12_nextFrom_8 (by decide) ?_
    refine V.isubN X dX12_nextFrom_9 (by omega) ?_
    refine Va_r_pile (x := gA σ 4 ((gN σ 7) - 1)) X (by omega) dX12_nextFrom_10 rfl ?_
    refine V.topi (y := nI d) (by rw [hpd]) ?_
    refine V.istore_n X (lv' := [(2, .int (nI d)), (0, .ref (a 0)), (1, .int (bI true))]) dX12_nextFrom_11 rfl (ltn hn (by decide)) rfl ?_
    refine V.aload_n X 1 dX12_nextFrom_12 rfl rfl ?_
    refine Vg_r_0_begun X tw_851 dX12_nextFrom_13 ?_
    refine V.aload_n X 1 dX12_nextFrom_16 rfl rfl ?_
    refine Vg_r_0_depth (x := gN σ 7) X tw_846 dX12_nextFrom_17 rfl ?_
    refine V.iconst X (v := nI 1) dX12_nextFrom_20 (by decide) ?_
    refine V.isubN X dX12_nextFrom_21 (by omega) ?_
    refine Va_r_begun (x := gA σ 5 ((gN σ 7) - 1)) X (by omega) dX12_nextFrom_22 rfl ?_
    refine V.topi (y := nI t) (by rw [hbt]) ?_
    refine V.istore_n X (lv' := [(3, .int (nI t)), (2, .int (nI d)), (0, .ref (a 0)), (1, .int (bI true))]) dX12_nextFrom_23 rfl (ltn hn (by decide)) rfl ?_
    refine V.aload_n X 2 dX12_nextFrom_24 rfl rfl ?_
    refine Vg_r_0_partMany X tw_831 dX12_nextFrom_25 ?_
    refine V.iload_n X 1 dX12_nextFrom_28 rfl rfl ?_
    refine Va_r_partMany (x := gA σ 1 d) X (by omega) dX12_nextFrom_29 rfl ?_
    refine V.topi (y := nI ((aP A d).length)) (by rw [q3]) ?_
    refine V.istore X (lv' := [(4, .int (nI ((aP A d).length))), (3, .int (nI t)), (2, .int (nI d)), (0, .ref (a 0)), (1, .int (bI true))]) dX12_nextFrom_30 (ltn hn (by decide)) rfl ?_
    refine V.iload_n X 4 dX12_nextFrom_32 rfl rfl ?_
    refine V.if_eqB X 51 dX12_nextFrom_33 (by decide) (fun c33 => by exfalso; cases c33) (fun c33 => ?_)
    refine V.aload_n X 3 dX12_nextFrom_36 rfl rfl ?_
    refine Vg_r_0_kind X tw_829 dX12_nextFrom_37 ?_
    refine V.iload_n X 2 dX12_nextFrom_40 rfl rfl ?_
    refine Va_r_kind (x := gA σ 0 d) X (by omega) dX12_nextFrom_41 rfl ?_
    refine V.if_neN X 51 dX12_nextFrom_42 (by decide) (by omega) (fun c42 => ?_) (fun c42 => ?_)
    · refine V.iload_n X 4 dX12_nextFrom_51 rfl rfl ?_
      refine V.if_eqB X 78 dX12_nextFrom_52 (by decide) (fun c52 => by exfalso; cases c52) (fun c52 => ?_)
      refine V.aload_n X 3 dX12_nextFrom_55 rfl rfl ?_
      refine Vg_r_0_kind X tw_829 dX12_nextFrom_56 ?_
      refine V.iload_n X 2 dX12_nextFrom_59 rfl rfl ?_
      refine Va_r_kind (x := gA σ 0 d) X (by omega) dX12_nextFrom_60 rfl ?_
      refine V.bipush X (v := nI 7) dX12_nextFrom_61 (by decide) ?_
      refine V.icmp_neN X 78 dX12_nextFrom_63 (by decide) (by omega) (by decide) (fun c63 => ?_) (fun c63 => ?_)
      · refine V.iload_n X 4 dX12_nextFrom_78 rfl rfl ?_
        refine V.if_eqB X 100 dX12_nextFrom_79 (by decide) (fun c79 => by exfalso; cases c79) (fun c79 => ?_)
        refine V.aload_n X 3 dX12_nextFrom_82 rfl rfl ?_
        refine Vg_r_0_kind X tw_829 dX12_nextFrom_83 ?_
        refine V.iload_n X 2 dX12_nextFrom_86 rfl rfl ?_
        refine Va_r_kind (x := gA σ 0 d) X (by omega) dX12_nextFrom_87 rfl ?_
        refine V.bipush X (v := nI 8) dX12_nextFrom_88 (by decide) ?_
        refine V.icmp_neN X 100 dX12_nextFrom_90 (by decide) (by omega) (by decide) (fun c90 => ?_) (fun c90 => ?_)
        · have hL : chf A true d = aP A d := by rw [chf, if_pos rfl]; exact wl_x (by omega) (by omega) (by omega)
          refine V.iload_n X 1 dX12_nextFrom_100 rfl rfl ?_
          refine V.iload X 0 dX12_nextFrom_101 rfl ?_
          refine V.icmp_ltN X 108 dX12_nextFrom_103 (by decide) (by omega) (by omega) (fun c103 => ?_) (fun c103 => ?_)
          · refine V.aload_n X 3 dX12_nextFrom_108 rfl rfl ?_
            refine Vg_r_0_begun X tw_851 dX12_nextFrom_109 ?_
            refine V.aload_n X 3 dX12_nextFrom_112 rfl rfl ?_
            refine Vg_r_0_depth (x := gN σ 7) X tw_846 dX12_nextFrom_113 rfl ?_
            refine V.iconst X (v := nI 1) dX12_nextFrom_116 (by decide) ?_
            refine V.isubN X dX12_nextFrom_117 (by omega) ?_
            refine V.dup2 X dX12_nextFrom_118 rfl rfl ?_
            refine Va_r_begun (x := gA σ 5 ((gN σ 7) - 1)) X (by omega) dX12_nextFrom_119 rfl ?_
            refine V.topi (y := nI t) (by rw [hbt]) ?_
            refine V.iconst X (v := nI 1) dX12_nextFrom_120 (by decide) ?_
            refine V.iaddN X dX12_nextFrom_121 ?_
            refine Vs_r_begun (f := gA σ 5) (i := (gN σ 7) - 1) (x := t + 1) X (by omega) dX12_nextFrom_122 rfl ?_
            refine V.aload_n X 3 dX12_nextFrom_123 rfl rfl ?_
            refine V.iload_n X 2 dX12_nextFrom_124 rfl rfl ?_
            refine V.iload_n X 4 dX12_nextFrom_125 rfl rfl ?_
            refine V.if_eqB X 153 dX12_nextFrom_126 (by decide) (fun c126 => by exfalso; cases c126) (fun c126 => ?_)
            refine V.aload_n X 3 dX12_nextFrom_129 rfl rfl ?_
            refine Vg_r_0_kind X tw_829 dX12_nextFrom_130 ?_
            refine V.iload_n X 2 dX12_nextFrom_133 rfl rfl ?_
            refine Va_r_kind (x := gA σ 0 d) X (by omega) dX12_nextFrom_134 rfl ?_
            refine V.bipush X (v := nI 7) dX12_nextFrom_135 (by decide) ?_
            refine V.icmp_neN X 153 dX12_nextFrom_137 (by decide) (by omega) (by decide) (fun c137 => ?_) (fun c137 => ?_)
            · refine V.iload_n X 1 dX12_nextFrom_153 rfl rfl ?_
              refine V.callV X rfl (r_partAt (zl Z) (zG Z) a (sA σ 5 (va_up (gA σ 5) (gN σ 7 - 1) (t + 1))) (A := A) d t (hx.ofa rfl) hW hd (by first | omega | (have hll := tkU_len (w := wo A) (aP A d); omega))) cv_X12_115 rfl 0 rfl rfl (len hRf (by decide)) (len hRl (by decide)) hk0 ht0 [] rfl (Nat.le_of_ble_eq_true rfl) dX12_nextFrom_154 ?_
              rintro _ _ ⟨rfl, rfl⟩
              refine V.eqs (st' := [.int (nI ((aP A d).getD t 0))]) rfl ?_
              exact V.iret X rfl hA hk ht hQ rfl dX12_nextFrom_157 (⟨by rw [hL, gD (by omega)]; rfl, Or.inr ⟨⟨_, by rw [hL, gD (by omega)]⟩, rfl⟩⟩)
            · refine V.iload_n X 1 dX12_nextFrom_140 rfl rfl ?_
              refine V.iconst X (v := nI 1) dX12_nextFrom_141 (by decide) ?_
              refine V.icmp_neN X 153 dX12_nextFrom_142 (by decide) (by omega) (by decide) (fun c142 => ?_) (fun c142 => ?_)
              · refine V.iload_n X 1 dX12_nextFrom_153 rfl rfl ?_
                refine V.callV X rfl (r_partAt (zl Z) (zG Z) a (sA σ 5 (va_up (gA σ 5) (gN σ 7 - 1) (t + 1))) (A := A) d t (hx.ofa rfl) hW hd (by first | omega | (have hll := tkU_len (w := wo A) (aP A d); omega))) cv_X12_115 rfl 0 rfl rfl (len hRf (by decide)) (len hRl (by decide)) hk0 ht0 [] rfl (Nat.le_of_ble_eq_true rfl) dX12_nextFrom_154 ?_
                rintro _ _ ⟨rfl, rfl⟩
                refine V.eqs (st' := [.int (nI ((aP A d).getD t 0))]) rfl ?_
                exact V.iret X rfl hA hk ht hQ rfl dX12_nextFrom_157 (by omega)
              · refine V.aload_n X 3 dX12_nextFrom_145 rfl rfl ?_
                refine V.iload_n X 2 dX12_nextFrom_146 rfl rfl ?_
                refine V.callV X rfl (r_chosen (zl Z) (zG Z) a (sA σ 5 (va_up (gA σ 5) (gN σ 7 - 1) (t + 1))) (A := A) d (hx.ofa rfl) hW hd (hw hwt) (by omega)) cv_X12_122 rfl 0 rfl rfl (len hRf (by decide)) (len hRl (by decide)) hk0 ht0 [.int (nI d), .ref (a 0)] rfl (Nat.le_of_ble_eq_true rfl) dX12_nextFrom_147 ?_
                rintro _ _ ⟨rfl, rfl⟩
                refine V.eqs (st' := [.int (nI (1 + fmodN (wo A ((aP A d).getD 0 0)) ((aP A d).length - 1))), .int (nI d), .ref (a 0)]) rfl ?_
                refine V.goto X 154 dX12_nextFrom_150 (by decide) ?_
                refine V.callV X rfl (r_partAt (zl Z) (zG Z) a (sA σ 5 (va_up (gA σ 5) (gN σ 7 - 1) (t + 1))) (A := A) d (1 + fmodN (wo A ((aP A d).getD 0 0)) ((aP A d).length - 1)) (hx.ofa rfl) hW hd (by have hfm := hfm (by omega); omega)) cv_X12_115 rfl 0 rfl rfl (len hRf (by decide)) (len hRl (by decide)) hk0 ht0 [] rfl (Nat.le_of_ble_eq_true rfl) dX12_nextFrom_154 ?_
                rintro _ _ ⟨rfl, rfl⟩
                refine V.eqs (st' := [.int (nI ((aP A d).getD (1 + fmodN (wo A ((aP A d).getD 0 0)) ((aP A d).length - 1)) 0))]) rfl ?_
                exact V.iret X rfl hA hk ht hQ rfl dX12_nextFrom_157 (by omega)
          · refine V.iconst X (v := -1) dX12_nextFrom_106 (by decide) ?_
            exact V.iret X rfl hA hk ht hQ rfl dX12_nextFrom_107 (⟨by rw [hL, List.getElem?_eq_none (by first | (simp; done) | (simp only [List.length_cons, List.length_nil]; omega) | omega)]; rfl, Or.inl ⟨by rw [hL, List.getElem?_eq_none (by first | (simp; done) | (simp only [List.length_cons, List.length_nil]; omega) | omega)], rfl⟩⟩)
        · refine V.aload_n X 3 dX12_nextFrom_93 rfl rfl ?_
          refine V.iload_n X 2 dX12_nextFrom_94 rfl rfl ?_
          refine V.callV X rfl (r_lookedAt (zl Z) (zG Z) a σ (A := A) d hx hW hd (hw hwt)) cv_X12_126 rfl 0 rfl rfl (len hRf (by decide)) (len hRl (by decide)) hk0 ht0 [] rfl (Nat.le_of_ble_eq_true rfl) dX12_nextFrom_95 ?_
          rintro _ _ ⟨rfl, rfl⟩
          refine V.eqs (st' := [.int (nI ((tkU (wo A) (aP A d)).length))]) rfl ?_
          refine V.istore X (lv' := [(4, .int (nI ((tkU (wo A) (aP A d)).length))), (3, .int (nI t)), (2, .int (nI d)), (0, .ref (a 0)), (1, .int (bI true))]) dX12_nextFrom_98 (ltn hn (by decide)) rfl ?_
          have hL : chf A true d = tkU (wo A) (aP A d) := by rw [chf, if_pos rfl]; exact wl_8 (by omega)
          have hll := tkU_len (w := wo A) (aP A d)
          refine V.iload_n X 1 dX12_nextFrom_100 rfl rfl ?_
          refine V.iload X 0 dX12_nextFrom_101 rfl ?_
          refine V.icmp_ltN X 108 dX12_nextFrom_103 (by decide) (by omega) (by omega) (fun c103 => ?_) (fun c103 => ?_)
          · refine V.aload_n X 3 dX12_nextFrom_108 rfl rfl ?_
            refine Vg_r_0_begun X tw_851 dX12_nextFrom_109 ?_
            refine V.aload_n X 3 dX12_nextFrom_112 rfl rfl ?_
            refine Vg_r_0_depth (x := gN σ 7) X tw_846 dX12_nextFrom_113 rfl ?_
            refine V.iconst X (v := nI 1) dX12_nextFrom_116 (by decide) ?_
            refine V.isubN X dX12_nextFrom_117 (by omega) ?_
            refine V.dup2 X dX12_nextFrom_118 rfl rfl ?_
            refine Va_r_begun (x := gA σ 5 ((gN σ 7) - 1)) X (by omega) dX12_nextFrom_119 rfl ?_
            refine V.topi (y := nI t) (by rw [hbt]) ?_
            refine V.iconst X (v := nI 1) dX12_nextFrom_120 (by decide) ?_
            refine V.iaddN X dX12_nextFrom_121 ?_
            refine Vs_r_begun (f := gA σ 5) (i := (gN σ 7) - 1) (x := t + 1) X (by omega) dX12_nextFrom_122 rfl ?_
            refine V.aload_n X 3 dX12_nextFrom_123 rfl rfl ?_
            refine V.iload_n X 2 dX12_nextFrom_124 rfl rfl ?_
            refine V.iload_n X 4 dX12_nextFrom_125 rfl rfl ?_
            refine V.if_eqB X 153 dX12_nextFrom_126 (by decide) (fun c126 => by exfalso; cases c126) (fun c126 => ?_)
            refine V.aload_n X 3 dX12_nextFrom_129 rfl rfl ?_
            refine Vg_r_0_kind X tw_829 dX12_nextFrom_130 ?_
            refine V.iload_n X 2 dX12_nextFrom_133 rfl rfl ?_
            refine Va_r_kind (x := gA σ 0 d) X (by omega) dX12_nextFrom_134 rfl ?_
            refine V.bipush X (v := nI 7) dX12_nextFrom_135 (by decide) ?_
            refine V.icmp_neN X 153 dX12_nextFrom_137 (by decide) (by omega) (by decide) (fun c137 => ?_) (fun c137 => ?_)
            · refine V.iload_n X 1 dX12_nextFrom_153 rfl rfl ?_
              refine V.callV X rfl (r_partAt (zl Z) (zG Z) a (sA σ 5 (va_up (gA σ 5) (gN σ 7 - 1) (t + 1))) (A := A) d t (hx.ofa rfl) hW hd (by first | omega | (have hll := tkU_len (w := wo A) (aP A d); omega))) cv_X12_115 rfl 0 rfl rfl (len hRf (by decide)) (len hRl (by decide)) hk0 ht0 [] rfl (Nat.le_of_ble_eq_true rfl) dX12_nextFrom_154 ?_
              rintro _ _ ⟨rfl, rfl⟩
              refine V.eqs (st' := [.int (nI ((aP A d).getD t 0))]) rfl ?_
              exact V.iret X rfl hA hk ht hQ rfl dX12_nextFrom_157 (⟨by rw [hL, tkU_pre (by omega), gD (by omega)]; rfl, Or.inr ⟨⟨_, by rw [hL, tkU_pre (by omega), gD (by omega)]⟩, rfl⟩⟩)
            · refine V.iload_n X 1 dX12_nextFrom_140 rfl rfl ?_
              refine V.iconst X (v := nI 1) dX12_nextFrom_141 (by decide) ?_
              refine V.icmp_neN X 153 dX12_nextFrom_142 (by decide) (by omega) (by decide) (fun c142 => ?_) (fun c142 => ?_)
              · refine V.iload_n X 1 dX12_nextFrom_153 rfl rfl ?_
                refine V.callV X rfl (r_partAt (zl Z) (zG Z) a (sA σ 5 (va_up (gA σ 5) (gN σ 7 - 1) (t + 1))) (A := A) d t (hx.ofa rfl) hW hd (by first | omega | (have hll := tkU_len (w := wo A) (aP A d); omega))) cv_X12_115 rfl 0 rfl rfl (len hRf (by decide)) (len hRl (by decide)) hk0 ht0 [] rfl (Nat.le_of_ble_eq_true rfl) dX12_nextFrom_154 ?_
                rintro _ _ ⟨rfl, rfl⟩
                refine V.eqs (st' := [.int (nI ((aP A d).getD t 0))]) rfl ?_
                exact V.iret X rfl hA hk ht hQ rfl dX12_nextFrom_157 (by omega)
              · refine V.aload_n X 3 dX12_nextFrom_145 rfl rfl ?_
                refine V.iload_n X 2 dX12_nextFrom_146 rfl rfl ?_
                refine V.callV X rfl (r_chosen (zl Z) (zG Z) a (sA σ 5 (va_up (gA σ 5) (gN σ 7 - 1) (t + 1))) (A := A) d (hx.ofa rfl) hW hd (hw hwt) (by omega)) cv_X12_122 rfl 0 rfl rfl (len hRf (by decide)) (len hRl (by decide)) hk0 ht0 [.int (nI d), .ref (a 0)] rfl (Nat.le_of_ble_eq_true rfl) dX12_nextFrom_147 ?_
                rintro _ _ ⟨rfl, rfl⟩
                refine V.eqs (st' := [.int (nI (1 + fmodN (wo A ((aP A d).getD 0 0)) ((aP A d).length - 1))), .int (nI d), .ref (a 0)]) rfl ?_
                refine V.goto X 154 dX12_nextFrom_150 (by decide) ?_
                refine V.callV X rfl (r_partAt (zl Z) (zG Z) a (sA σ 5 (va_up (gA σ 5) (gN σ 7 - 1) (t + 1))) (A := A) d (1 + fmodN (wo A ((aP A d).getD 0 0)) ((aP A d).length - 1)) (hx.ofa rfl) hW hd (by have hfm := hfm (by omega); omega)) cv_X12_115 rfl 0 rfl rfl (len hRf (by decide)) (len hRl (by decide)) hk0 ht0 [] rfl (Nat.le_of_ble_eq_true rfl) dX12_nextFrom_154 ?_
                rintro _ _ ⟨rfl, rfl⟩
                refine V.eqs (st' := [.int (nI ((aP A d).getD (1 + fmodN (wo A ((aP A d).getD 0 0)) ((aP A d).length - 1)) 0))]) rfl ?_
                exact V.iret X rfl hA hk ht hQ rfl dX12_nextFrom_157 (by omega)
          · refine V.iconst X (v := -1) dX12_nextFrom_106 (by decide) ?_
            exact V.iret X rfl hA hk ht hQ rfl dX12_nextFrom_107 (⟨by rw [hL, List.getElem?_eq_none (by first | (simp; done) | (simp only [List.length_cons, List.length_nil]; omega) | omega)]; rfl, Or.inl ⟨by rw [hL, List.getElem?_eq_none (by first | (simp; done) | (simp only [List.length_cons, List.length_nil]; omega) | omega)], rfl⟩⟩)
      · refine V.iload X 0 dX12_nextFrom_66 rfl ?_
        refine V.iconst X (v := nI 1) dX12_nextFrom_68 (by decide) ?_
        refine V.icmp_leN X 78 dX12_nextFrom_69 (by decide) (by omega) (by decide) (fun c69 => ?_) (fun c69 => ?_)
        · refine V.iload_n X 4 dX12_nextFrom_78 rfl rfl ?_
          refine V.if_eqB X 100 dX12_nextFrom_79 (by decide) (fun c79 => by exfalso; cases c79) (fun c79 => ?_)
          refine V.aload_n X 3 dX12_nextFrom_82 rfl rfl ?_
          refine Vg_r_0_kind X tw_829 dX12_nextFrom_83 ?_
          refine V.iload_n X 2 dX12_nextFrom_86 rfl rfl ?_
          refine Va_r_kind (x := gA σ 0 d) X (by omega) dX12_nextFrom_87 rfl ?_
          refine V.bipush X (v := nI 8) dX12_nextFrom_88 (by decide) ?_
          refine V.icmp_neN X 100 dX12_nextFrom_90 (by decide) (by omega) (by decide) (fun c90 => ?_) (fun c90 => ?_)
          · have hL : chf A true d = aP A d := by rw [chf, if_pos rfl]; exact wl_71 (by omega) (by omega)
            refine V.iload_n X 1 dX12_nextFrom_100 rfl rfl ?_
            refine V.iload X 0 dX12_nextFrom_101 rfl ?_
            refine V.icmp_ltN X 108 dX12_nextFrom_103 (by decide) (by omega) (by omega) (fun c103 => ?_) (fun c103 => ?_)
            · refine V.aload_n X 3 dX12_nextFrom_108 rfl rfl ?_
              refine Vg_r_0_begun X tw_851 dX12_nextFrom_109 ?_
              refine V.aload_n X 3 dX12_nextFrom_112 rfl rfl ?_
              refine Vg_r_0_depth (x := gN σ 7) X tw_846 dX12_nextFrom_113 rfl ?_
              refine V.iconst X (v := nI 1) dX12_nextFrom_116 (by decide) ?_
              refine V.isubN X dX12_nextFrom_117 (by omega) ?_
              refine V.dup2 X dX12_nextFrom_118 rfl rfl ?_
              refine Va_r_begun (x := gA σ 5 ((gN σ 7) - 1)) X (by omega) dX12_nextFrom_119 rfl ?_
              refine V.topi (y := nI t) (by rw [hbt]) ?_
              refine V.iconst X (v := nI 1) dX12_nextFrom_120 (by decide) ?_
              refine V.iaddN X dX12_nextFrom_121 ?_
              refine Vs_r_begun (f := gA σ 5) (i := (gN σ 7) - 1) (x := t + 1) X (by omega) dX12_nextFrom_122 rfl ?_
              refine V.aload_n X 3 dX12_nextFrom_123 rfl rfl ?_
              refine V.iload_n X 2 dX12_nextFrom_124 rfl rfl ?_
              refine V.iload_n X 4 dX12_nextFrom_125 rfl rfl ?_
              refine V.if_eqB X 153 dX12_nextFrom_126 (by decide) (fun c126 => by exfalso; cases c126) (fun c126 => ?_)
              refine V.aload_n X 3 dX12_nextFrom_129 rfl rfl ?_
              refine Vg_r_0_kind X tw_829 dX12_nextFrom_130 ?_
              refine V.iload_n X 2 dX12_nextFrom_133 rfl rfl ?_
              refine Va_r_kind (x := gA σ 0 d) X (by omega) dX12_nextFrom_134 rfl ?_
              refine V.bipush X (v := nI 7) dX12_nextFrom_135 (by decide) ?_
              refine V.icmp_neN X 153 dX12_nextFrom_137 (by decide) (by omega) (by decide) (fun c137 => ?_) (fun c137 => ?_)
              · refine V.iload_n X 1 dX12_nextFrom_153 rfl rfl ?_
                refine V.callV X rfl (r_partAt (zl Z) (zG Z) a (sA σ 5 (va_up (gA σ 5) (gN σ 7 - 1) (t + 1))) (A := A) d t (hx.ofa rfl) hW hd (by first | omega | (have hll := tkU_len (w := wo A) (aP A d); omega))) cv_X12_115 rfl 0 rfl rfl (len hRf (by decide)) (len hRl (by decide)) hk0 ht0 [] rfl (Nat.le_of_ble_eq_true rfl) dX12_nextFrom_154 ?_
                rintro _ _ ⟨rfl, rfl⟩
                refine V.eqs (st' := [.int (nI ((aP A d).getD t 0))]) rfl ?_
                exact V.iret X rfl hA hk ht hQ rfl dX12_nextFrom_157 (by omega)
              · refine V.iload_n X 1 dX12_nextFrom_140 rfl rfl ?_
                refine V.iconst X (v := nI 1) dX12_nextFrom_141 (by decide) ?_
                refine V.icmp_neN X 153 dX12_nextFrom_142 (by decide) (by omega) (by decide) (fun c142 => ?_) (fun c142 => ?_)
                · refine V.iload_n X 1 dX12_nextFrom_153 rfl rfl ?_
                  refine V.callV X rfl (r_partAt (zl Z) (zG Z) a (sA σ 5 (va_up (gA σ 5) (gN σ 7 - 1) (t + 1))) (A := A) d t (hx.ofa rfl) hW hd (by first | omega | (have hll := tkU_len (w := wo A) (aP A d); omega))) cv_X12_115 rfl 0 rfl rfl (len hRf (by decide)) (len hRl (by decide)) hk0 ht0 [] rfl (Nat.le_of_ble_eq_true rfl) dX12_nextFrom_154 ?_
                  rintro _ _ ⟨rfl, rfl⟩
                  refine V.eqs (st' := [.int (nI ((aP A d).getD t 0))]) rfl ?_
                  exact V.iret X rfl hA hk ht hQ rfl dX12_nextFrom_157 (⟨by rw [hL, gD (by omega)]; rfl, Or.inr ⟨⟨_, by rw [hL, gD (by omega)]⟩, rfl⟩⟩)
                · refine V.aload_n X 3 dX12_nextFrom_145 rfl rfl ?_
                  refine V.iload_n X 2 dX12_nextFrom_146 rfl rfl ?_
                  refine V.callV X rfl (r_chosen (zl Z) (zG Z) a (sA σ 5 (va_up (gA σ 5) (gN σ 7 - 1) (t + 1))) (A := A) d (hx.ofa rfl) hW hd (hw hwt) (by omega)) cv_X12_122 rfl 0 rfl rfl (len hRf (by decide)) (len hRl (by decide)) hk0 ht0 [.int (nI d), .ref (a 0)] rfl (Nat.le_of_ble_eq_true rfl) dX12_nextFrom_147 ?_
                  rintro _ _ ⟨rfl, rfl⟩
                  refine V.eqs (st' := [.int (nI (1 + fmodN (wo A ((aP A d).getD 0 0)) ((aP A d).length - 1))), .int (nI d), .ref (a 0)]) rfl ?_
                  refine V.goto X 154 dX12_nextFrom_150 (by decide) ?_
                  refine V.callV X rfl (r_partAt (zl Z) (zG Z) a (sA σ 5 (va_up (gA σ 5) (gN σ 7 - 1) (t + 1))) (A := A) d (1 + fmodN (wo A ((aP A d).getD 0 0)) ((aP A d).length - 1)) (hx.ofa rfl) hW hd (by have hfm := hfm (by omega); omega)) cv_X12_115 rfl 0 rfl rfl (len hRf (by decide)) (len hRl (by decide)) hk0 ht0 [] rfl (Nat.le_of_ble_eq_true rfl) dX12_nextFrom_154 ?_
                  rintro _ _ ⟨rfl, rfl⟩
                  refine V.eqs (st' := [.int (nI ((aP A d).getD (1 + fmodN (wo A ((aP A d).getD 0 0)) ((aP A d).length - 1)) 0))]) rfl ?_
                  exact V.iret X rfl hA hk ht hQ rfl dX12_nextFrom_157 (by omega)
            · refine V.iconst X (v := -1) dX12_nextFrom_106 (by decide) ?_
              exact V.iret X rfl hA hk ht hQ rfl dX12_nextFrom_107 (⟨by rw [hL, List.getElem?_eq_none (by first | (simp; done) | (simp only [List.length_cons, List.length_nil]; omega) | omega)]; rfl, Or.inl ⟨by rw [hL, List.getElem?_eq_none (by first | (simp; done) | (simp only [List.length_cons, List.length_nil]; omega) | omega)], rfl⟩⟩)
          · refine V.aload_n X 3 dX12_nextFrom_93 rfl rfl ?_
            refine V.iload_n X 2 dX12_nextFrom_94 rfl rfl ?_
            refine V.callV X rfl (r_lookedAt (zl Z) (zG Z) a σ (A := A) d hx hW hd (hw hwt)) cv_X12_126 rfl 0 rfl rfl (len hRf (by decide)) (len hRl (by decide)) hk0 ht0 [] rfl (Nat.le_of_ble_eq_true rfl) dX12_nextFrom_95 ?_
            rintro _ _ ⟨rfl, rfl⟩
            refine V.eqs (st' := [.int (nI ((tkU (wo A) (aP A d)).length))]) rfl ?_
            refine V.istore X (lv' := [(4, .int (nI ((tkU (wo A) (aP A d)).length))), (3, .int (nI t)), (2, .int (nI d)), (0, .ref (a 0)), (1, .int (bI true))]) dX12_nextFrom_98 (ltn hn (by decide)) rfl ?_
            refine V.iload_n X 1 dX12_nextFrom_100 rfl rfl ?_
            refine V.iload X 0 dX12_nextFrom_101 rfl ?_
            refine V.icmp_ltN X 108 dX12_nextFrom_103 (by decide) (by omega) (by omega) (fun c103 => ?_) (fun c103 => ?_)
            · refine V.aload_n X 3 dX12_nextFrom_108 rfl rfl ?_
              refine Vg_r_0_begun X tw_851 dX12_nextFrom_109 ?_
              refine V.aload_n X 3 dX12_nextFrom_112 rfl rfl ?_
              refine Vg_r_0_depth (x := gN σ 7) X tw_846 dX12_nextFrom_113 rfl ?_
              refine V.iconst X (v := nI 1) dX12_nextFrom_116 (by decide) ?_
              refine V.isubN X dX12_nextFrom_117 (by omega) ?_
              refine V.dup2 X dX12_nextFrom_118 rfl rfl ?_
              refine Va_r_begun (x := gA σ 5 ((gN σ 7) - 1)) X (by omega) dX12_nextFrom_119 rfl ?_
              refine V.topi (y := nI t) (by rw [hbt]) ?_
              refine V.iconst X (v := nI 1) dX12_nextFrom_120 (by decide) ?_
              refine V.iaddN X dX12_nextFrom_121 ?_
              refine Vs_r_begun (f := gA σ 5) (i := (gN σ 7) - 1) (x := t + 1) X (by omega) dX12_nextFrom_122 rfl ?_
              refine V.aload_n X 3 dX12_nextFrom_123 rfl rfl ?_
              refine V.iload_n X 2 dX12_nextFrom_124 rfl rfl ?_
              refine V.iload_n X 4 dX12_nextFrom_125 rfl rfl ?_
              refine V.if_eqB X 153 dX12_nextFrom_126 (by decide) (fun c126 => by exfalso; cases c126) (fun c126 => ?_)
              refine V.aload_n X 3 dX12_nextFrom_129 rfl rfl ?_
              refine Vg_r_0_kind X tw_829 dX12_nextFrom_130 ?_
              refine V.iload_n X 2 dX12_nextFrom_133 rfl rfl ?_
              refine Va_r_kind (x := gA σ 0 d) X (by omega) dX12_nextFrom_134 rfl ?_
              refine V.bipush X (v := nI 7) dX12_nextFrom_135 (by decide) ?_
              refine V.icmp_neN X 153 dX12_nextFrom_137 (by decide) (by omega) (by decide) (fun c137 => ?_) (fun c137 => ?_)
              · refine V.iload_n X 1 dX12_nextFrom_153 rfl rfl ?_
                refine V.callV X rfl (r_partAt (zl Z) (zG Z) a (sA σ 5 (va_up (gA σ 5) (gN σ 7 - 1) (t + 1))) (A := A) d t (hx.ofa rfl) hW hd (by first | omega | (have hll := tkU_len (w := wo A) (aP A d); omega))) cv_X12_115 rfl 0 rfl rfl (len hRf (by decide)) (len hRl (by decide)) hk0 ht0 [] rfl (Nat.le_of_ble_eq_true rfl) dX12_nextFrom_154 ?_
                rintro _ _ ⟨rfl, rfl⟩
                refine V.eqs (st' := [.int (nI ((aP A d).getD t 0))]) rfl ?_
                exact V.iret X rfl hA hk ht hQ rfl dX12_nextFrom_157 (by omega)
              · refine V.iload_n X 1 dX12_nextFrom_140 rfl rfl ?_
                refine V.iconst X (v := nI 1) dX12_nextFrom_141 (by decide) ?_
                refine V.icmp_neN X 153 dX12_nextFrom_142 (by decide) (by omega) (by decide) (fun c142 => ?_) (fun c142 => ?_)
                · refine V.iload_n X 1 dX12_nextFrom_153 rfl rfl ?_
                  refine V.callV X rfl (r_partAt (zl Z) (zG Z) a (sA σ 5 (va_up (gA σ 5) (gN σ 7 - 1) (t + 1))) (A := A) d t (hx.ofa rfl) hW hd (by first | omega | (have hll := tkU_len (w := wo A) (aP A d); omega))) cv_X12_115 rfl 0 rfl rfl (len hRf (by decide)) (len hRl (by decide)) hk0 ht0 [] rfl (Nat.le_of_ble_eq_true rfl) dX12_nextFrom_154 ?_
                  rintro _ _ ⟨rfl, rfl⟩
                  refine V.eqs (st' := [.int (nI ((aP A d).getD t 0))]) rfl ?_
                  exact V.iret X rfl hA hk ht hQ rfl dX12_nextFrom_157 (by omega)
                · refine V.aload_n X 3 dX12_nextFrom_145 rfl rfl ?_
                  refine V.iload_n X 2 dX12_nextFrom_146 rfl rfl ?_
                  refine V.callV X rfl (r_chosen (zl Z) (zG Z) a (sA σ 5 (va_up (gA σ 5) (gN σ 7 - 1) (t + 1))) (A := A) d (hx.ofa rfl) hW hd (hw hwt) (by omega)) cv_X12_122 rfl 0 rfl rfl (len hRf (by decide)) (len hRl (by decide)) hk0 ht0 [.int (nI d), .ref (a 0)] rfl (Nat.le_of_ble_eq_true rfl) dX12_nextFrom_147 ?_
                  rintro _ _ ⟨rfl, rfl⟩
                  refine V.eqs (st' := [.int (nI (1 + fmodN (wo A ((aP A d).getD 0 0)) ((aP A d).length - 1))), .int (nI d), .ref (a 0)]) rfl ?_
                  refine V.goto X 154 dX12_nextFrom_150 (by decide) ?_
                  refine V.callV X rfl (r_partAt (zl Z) (zG Z) a (sA σ 5 (va_up (gA σ 5) (gN σ 7 - 1) (t + 1))) (A := A) d (1 + fmodN (wo A ((aP A d).getD 0 0)) ((aP A d).length - 1)) (hx.ofa rfl) hW hd (by have hfm := hfm (by omega); omega)) cv_X12_115 rfl 0 rfl rfl (len hRf (by decide)) (len hRl (by decide)) hk0 ht0 [] rfl (Nat.le_of_ble_eq_true rfl) dX12_nextFrom_154 ?_
                  rintro _ _ ⟨rfl, rfl⟩
                  refine V.eqs (st' := [.int (nI ((aP A d).getD (1 + fmodN (wo A ((aP A d).getD 0 0)) ((aP A d).length - 1)) 0))]) rfl ?_
                  exact V.iret X rfl hA hk ht hQ rfl dX12_nextFrom_157 (by omega)
            · refine V.iconst X (v := -1) dX12_nextFrom_106 (by decide) ?_
              exact V.iret X rfl hA hk ht hQ rfl dX12_nextFrom_107 (by omega)
        · refine V.iconst X (v := nI 2) dX12_nextFrom_72 (by decide) ?_
          refine V.istore X (lv' := [(4, .int (nI 2)), (3, .int (nI t)), (2, .int (nI d)), (0, .ref (a 0)), (1, .int (bI true))]) dX12_nextFrom_73 (ltn hn (by decide)) rfl ?_
          refine V.goto X 100 dX12_nextFrom_75 (by decide) ?_
          have hL : chf A true d = [(aP A d).getD 0 0, (aP A d).getD (1 + fmodN (wo A ((aP A d).getD 0 0)) ((aP A d).length - 1)) 0] := by rw [chf, if_pos rfl]; exact wl_72 (by omega) (by omega)
          refine V.iload_n X 1 dX12_nextFrom_100 rfl rfl ?_
          refine V.iload X 0 dX12_nextFrom_101 rfl ?_
          refine V.icmp_ltN X 108 dX12_nextFrom_103 (by decide) (by omega) (by decide) (fun c103 => ?_) (fun c103 => ?_)
          · refine V.aload_n X 3 dX12_nextFrom_108 rfl rfl ?_
            refine Vg_r_0_begun X tw_851 dX12_nextFrom_109 ?_
            refine V.aload_n X 3 dX12_nextFrom_112 rfl rfl ?_
            refine Vg_r_0_depth (x := gN σ 7) X tw_846 dX12_nextFrom_113 rfl ?_
            refine V.iconst X (v := nI 1) dX12_nextFrom_116 (by decide) ?_
            refine V.isubN X dX12_nextFrom_117 (by omega) ?_
            refine V.dup2 X dX12_nextFrom_118 rfl rfl ?_
            refine Va_r_begun (x := gA σ 5 ((gN σ 7) - 1)) X (by omega) dX12_nextFrom_119 rfl ?_
            refine V.topi (y := nI t) (by rw [hbt]) ?_
            refine V.iconst X (v := nI 1) dX12_nextFrom_120 (by decide) ?_
            refine V.iaddN X dX12_nextFrom_121 ?_
            refine Vs_r_begun (f := gA σ 5) (i := (gN σ 7) - 1) (x := t + 1) X (by omega) dX12_nextFrom_122 rfl ?_
            refine V.aload_n X 3 dX12_nextFrom_123 rfl rfl ?_
            refine V.iload_n X 2 dX12_nextFrom_124 rfl rfl ?_
            refine V.iload_n X 4 dX12_nextFrom_125 rfl rfl ?_
            refine V.if_eqB X 153 dX12_nextFrom_126 (by decide) (fun c126 => by exfalso; cases c126) (fun c126 => ?_)
            refine V.aload_n X 3 dX12_nextFrom_129 rfl rfl ?_
            refine Vg_r_0_kind X tw_829 dX12_nextFrom_130 ?_
            refine V.iload_n X 2 dX12_nextFrom_133 rfl rfl ?_
            refine Va_r_kind (x := gA σ 0 d) X (by omega) dX12_nextFrom_134 rfl ?_
            refine V.bipush X (v := nI 7) dX12_nextFrom_135 (by decide) ?_
            refine V.icmp_neN X 153 dX12_nextFrom_137 (by decide) (by omega) (by decide) (fun c137 => ?_) (fun c137 => ?_)
            · refine V.iload_n X 1 dX12_nextFrom_153 rfl rfl ?_
              refine V.callV X rfl (r_partAt (zl Z) (zG Z) a (sA σ 5 (va_up (gA σ 5) (gN σ 7 - 1) (t + 1))) (A := A) d t (hx.ofa rfl) hW hd (by first | omega | (have hll := tkU_len (w := wo A) (aP A d); omega))) cv_X12_115 rfl 0 rfl rfl (len hRf (by decide)) (len hRl (by decide)) hk0 ht0 [] rfl (Nat.le_of_ble_eq_true rfl) dX12_nextFrom_154 ?_
              rintro _ _ ⟨rfl, rfl⟩
              refine V.eqs (st' := [.int (nI ((aP A d).getD t 0))]) rfl ?_
              exact V.iret X rfl hA hk ht hQ rfl dX12_nextFrom_157 (by omega)
            · refine V.iload_n X 1 dX12_nextFrom_140 rfl rfl ?_
              refine V.iconst X (v := nI 1) dX12_nextFrom_141 (by decide) ?_
              refine V.icmp_neN X 153 dX12_nextFrom_142 (by decide) (by omega) (by decide) (fun c142 => ?_) (fun c142 => ?_)
              · refine V.iload_n X 1 dX12_nextFrom_153 rfl rfl ?_
                refine V.callV X rfl (r_partAt (zl Z) (zG Z) a (sA σ 5 (va_up (gA σ 5) (gN σ 7 - 1) (t + 1))) (A := A) d t (hx.ofa rfl) hW hd (by first | omega | (have hll := tkU_len (w := wo A) (aP A d); omega))) cv_X12_115 rfl 0 rfl rfl (len hRf (by decide)) (len hRl (by decide)) hk0 ht0 [] rfl (Nat.le_of_ble_eq_true rfl) dX12_nextFrom_154 ?_
                rintro _ _ ⟨rfl, rfl⟩
                refine V.eqs (st' := [.int (nI ((aP A d).getD t 0))]) rfl ?_
                exact V.iret X rfl hA hk ht hQ rfl dX12_nextFrom_157 (⟨by rw [hL, show t = 0 by omega]; rfl, Or.inr ⟨⟨_, by rw [hL, show t = 0 by omega]; rfl⟩, rfl⟩⟩)
              · refine V.aload_n X 3 dX12_nextFrom_145 rfl rfl ?_
                refine V.iload_n X 2 dX12_nextFrom_146 rfl rfl ?_
                refine V.callV X rfl (r_chosen (zl Z) (zG Z) a (sA σ 5 (va_up (gA σ 5) (gN σ 7 - 1) (t + 1))) (A := A) d (hx.ofa rfl) hW hd (hw hwt) (by omega)) cv_X12_122 rfl 0 rfl rfl (len hRf (by decide)) (len hRl (by decide)) hk0 ht0 [.int (nI d), .ref (a 0)] rfl (Nat.le_of_ble_eq_true rfl) dX12_nextFrom_147 ?_
                rintro _ _ ⟨rfl, rfl⟩
                refine V.eqs (st' := [.int (nI (1 + fmodN (wo A ((aP A d).getD 0 0)) ((aP A d).length - 1))), .int (nI d), .ref (a 0)]) rfl ?_
                refine V.goto X 154 dX12_nextFrom_150 (by decide) ?_
                refine V.callV X rfl (r_partAt (zl Z) (zG Z) a (sA σ 5 (va_up (gA σ 5) (gN σ 7 - 1) (t + 1))) (A := A) d (1 + fmodN (wo A ((aP A d).getD 0 0)) ((aP A d).length - 1)) (hx.ofa rfl) hW hd (by have hfm := hfm (by omega); omega)) cv_X12_115 rfl 0 rfl rfl (len hRf (by decide)) (len hRl (by decide)) hk0 ht0 [] rfl (Nat.le_of_ble_eq_true rfl) dX12_nextFrom_154 ?_
                rintro _ _ ⟨rfl, rfl⟩
                refine V.eqs (st' := [.int (nI ((aP A d).getD (1 + fmodN (wo A ((aP A d).getD 0 0)) ((aP A d).length - 1)) 0))]) rfl ?_
                exact V.iret X rfl hA hk ht hQ rfl dX12_nextFrom_157 (⟨by rw [hL, show t = 1 by omega]; rfl, Or.inr ⟨⟨_, by rw [hL, show t = 1 by omega]; rfl⟩, rfl⟩⟩)
          · refine V.iconst X (v := -1) dX12_nextFrom_106 (by decide) ?_
            exact V.iret X rfl hA hk ht hQ rfl dX12_nextFrom_107 (⟨by rw [hL, List.getElem?_eq_none (by first | (simp; done) | (simp only [List.length_cons, List.length_nil]; omega) | omega)]; rfl, Or.inl ⟨by rw [hL, List.getElem?_eq_none (by first | (simp; done) | (simp only [List.length_cons, List.length_nil]; omega) | omega)], rfl⟩⟩)
    · refine V.iconst X (v := nI 0) dX12_nextFrom_45 (by decide) ?_
      refine V.istore X (lv' := [(4, .int (nI 0)), (3, .int (nI t)), (2, .int (nI d)), (0, .ref (a 0)), (1, .int (bI true))]) dX12_nextFrom_46 (ltn hn (by decide)) rfl ?_
      refine V.goto X 100 dX12_nextFrom_48 (by decide) ?_
      have hL : chf A true d = [] := by rw [chf, if_pos rfl]; exact wl_0 (by omega)
      refine V.iload_n X 1 dX12_nextFrom_100 rfl rfl ?_
      refine V.iload X 0 dX12_nextFrom_101 rfl ?_
      refine V.icmp_ltN X 108 dX12_nextFrom_103 (by decide) (by omega) (by decide) (fun c103 => ?_) (fun c103 => ?_)
      · refine V.aload_n X 3 dX12_nextFrom_108 rfl rfl ?_
        refine Vg_r_0_begun X tw_851 dX12_nextFrom_109 ?_
        refine V.aload_n X 3 dX12_nextFrom_112 rfl rfl ?_
        refine Vg_r_0_depth (x := gN σ 7) X tw_846 dX12_nextFrom_113 rfl ?_
        refine V.iconst X (v := nI 1) dX12_nextFrom_116 (by decide) ?_
        refine V.isubN X dX12_nextFrom_117 (by omega) ?_
        refine V.dup2 X dX12_nextFrom_118 rfl rfl ?_
        refine Va_r_begun (x := gA σ 5 ((gN σ 7) - 1)) X (by omega) dX12_nextFrom_119 rfl ?_
        refine V.topi (y := nI t) (by rw [hbt]) ?_
        refine V.iconst X (v := nI 1) dX12_nextFrom_120 (by decide) ?_
        refine V.iaddN X dX12_nextFrom_121 ?_
        refine Vs_r_begun (f := gA σ 5) (i := (gN σ 7) - 1) (x := t + 1) X (by omega) dX12_nextFrom_122 rfl ?_
        refine V.aload_n X 3 dX12_nextFrom_123 rfl rfl ?_
        refine V.iload_n X 2 dX12_nextFrom_124 rfl rfl ?_
        refine V.iload_n X 4 dX12_nextFrom_125 rfl rfl ?_
        refine V.if_eqB X 153 dX12_nextFrom_126 (by decide) (fun c126 => by exfalso; cases c126) (fun c126 => ?_)
        refine V.aload_n X 3 dX12_nextFrom_129 rfl rfl ?_
        refine Vg_r_0_kind X tw_829 dX12_nextFrom_130 ?_
        refine V.iload_n X 2 dX12_nextFrom_133 rfl rfl ?_
        refine Va_r_kind (x := gA σ 0 d) X (by omega) dX12_nextFrom_134 rfl ?_
        refine V.bipush X (v := nI 7) dX12_nextFrom_135 (by decide) ?_
        refine V.icmp_neN X 153 dX12_nextFrom_137 (by decide) (by omega) (by decide) (fun c137 => ?_) (fun c137 => ?_)
        · refine V.iload_n X 1 dX12_nextFrom_153 rfl rfl ?_
          refine V.callV X rfl (r_partAt (zl Z) (zG Z) a (sA σ 5 (va_up (gA σ 5) (gN σ 7 - 1) (t + 1))) (A := A) d t (hx.ofa rfl) hW hd (by first | omega | (have hll := tkU_len (w := wo A) (aP A d); omega))) cv_X12_115 rfl 0 rfl rfl (len hRf (by decide)) (len hRl (by decide)) hk0 ht0 [] rfl (Nat.le_of_ble_eq_true rfl) dX12_nextFrom_154 ?_
          rintro _ _ ⟨rfl, rfl⟩
          refine V.eqs (st' := [.int (nI ((aP A d).getD t 0))]) rfl ?_
          exact V.iret X rfl hA hk ht hQ rfl dX12_nextFrom_157 (by omega)
        · refine V.iload_n X 1 dX12_nextFrom_140 rfl rfl ?_
          refine V.iconst X (v := nI 1) dX12_nextFrom_141 (by decide) ?_
          refine V.icmp_neN X 153 dX12_nextFrom_142 (by decide) (by omega) (by decide) (fun c142 => ?_) (fun c142 => ?_)
          · refine V.iload_n X 1 dX12_nextFrom_153 rfl rfl ?_
            refine V.callV X rfl (r_partAt (zl Z) (zG Z) a (sA σ 5 (va_up (gA σ 5) (gN σ 7 - 1) (t + 1))) (A := A) d t (hx.ofa rfl) hW hd (by first | omega | (have hll := tkU_len (w := wo A) (aP A d); omega))) cv_X12_115 rfl 0 rfl rfl (len hRf (by decide)) (len hRl (by decide)) hk0 ht0 [] rfl (Nat.le_of_ble_eq_true rfl) dX12_nextFrom_154 ?_
            rintro _ _ ⟨rfl, rfl⟩
            refine V.eqs (st' := [.int (nI ((aP A d).getD t 0))]) rfl ?_
            exact V.iret X rfl hA hk ht hQ rfl dX12_nextFrom_157 (by omega)
          · refine V.aload_n X 3 dX12_nextFrom_145 rfl rfl ?_
            refine V.iload_n X 2 dX12_nextFrom_146 rfl rfl ?_
            refine V.callV X rfl (r_chosen (zl Z) (zG Z) a (sA σ 5 (va_up (gA σ 5) (gN σ 7 - 1) (t + 1))) (A := A) d (hx.ofa rfl) hW hd (hw hwt) (by omega)) cv_X12_122 rfl 0 rfl rfl (len hRf (by decide)) (len hRl (by decide)) hk0 ht0 [.int (nI d), .ref (a 0)] rfl (Nat.le_of_ble_eq_true rfl) dX12_nextFrom_147 ?_
            rintro _ _ ⟨rfl, rfl⟩
            refine V.eqs (st' := [.int (nI (1 + fmodN (wo A ((aP A d).getD 0 0)) ((aP A d).length - 1))), .int (nI d), .ref (a 0)]) rfl ?_
            refine V.goto X 154 dX12_nextFrom_150 (by decide) ?_
            refine V.callV X rfl (r_partAt (zl Z) (zG Z) a (sA σ 5 (va_up (gA σ 5) (gN σ 7 - 1) (t + 1))) (A := A) d (1 + fmodN (wo A ((aP A d).getD 0 0)) ((aP A d).length - 1)) (hx.ofa rfl) hW hd (by have hfm := hfm (by omega); omega)) cv_X12_115 rfl 0 rfl rfl (len hRf (by decide)) (len hRl (by decide)) hk0 ht0 [] rfl (Nat.le_of_ble_eq_true rfl) dX12_nextFrom_154 ?_
            rintro _ _ ⟨rfl, rfl⟩
            refine V.eqs (st' := [.int (nI ((aP A d).getD (1 + fmodN (wo A ((aP A d).getD 0 0)) ((aP A d).length - 1)) 0))]) rfl ?_
            exact V.iret X rfl hA hk ht hQ rfl dX12_nextFrom_157 (by omega)
      · refine V.iconst X (v := -1) dX12_nextFrom_106 (by decide) ?_
        exact V.iret X rfl hA hk ht hQ rfl dX12_nextFrom_107 (⟨by rw [hL, List.getElem?_eq_none (by first | (simp; done) | (simp only [List.length_cons, List.length_nil]; omega) | omega)]; rfl, Or.inl ⟨by rw [hL, List.getElem?_eq_none (by first | (simp; done) | (simp only [List.length_cons, List.length_nil]; omega) | omega)], rfl⟩⟩)

