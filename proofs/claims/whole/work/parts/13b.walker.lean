def halt (σ : St) (why : Int32) : St := sB (sI σ 2 why) (gN σ 12) true
def visPre (σ : St) (k d : Nat) : St := sA (sA (sA (sN (sN σ 9 (gN σ 9 + 1)) 10 (max (gN σ 10) k)) 8 (va_up (gA σ 8) k (if gN σ 10 < k then 1 else gA σ 8 k + 1))) 6 (va_up (gA σ 6) k d)) 7 (va_up (gA σ 7) k 0)
def visS (σ : St) (k d : Nat) : St := if gN σ 9 = 20000 then halt σ (-5) else if gN σ 13 < k then halt σ (-6) else tEnter (visPre σ k d) k d
def ovr (σ : St) : Bool := gB σ (gN σ 12)
theorem tEnter_12 (σ : St) (k d : Nat) : gN (tEnter σ k d) 12 = gN σ 12 := by simp only [tEnter]; (repeat' split) <;> rfl
theorem tChS_12 (σ : St) (k d t : Nat) : gN (tChS σ k d t) 12 = gN σ 12 := by
  simp only [tChS]; split
  · simp only [tC24]; split <;> rfl
  · split <;> rfl
theorem tTake_12 (σ : St) (k d t : Nat) : gN (tTake σ k d t) 12 = gN σ 12 := by
  simp only [tTake]; split
  · simp only [tT21]; (repeat' split) <;> rfl
  · (repeat' split) <;> rfl
theorem tLeave_12 (σ : St) (k d : Nat) : gN (tLeave σ k d) 12 = gN σ 12 := by
  simp only [tLeave]; split
  · rfl
  · split
    · rfl
    · split
      · simp only [tL28]; split <;> rfl
      · rfl
theorem visS_12 (σ : St) (k d : Nat) : gN (visS σ k d) 12 = gN σ 12 := by
  simp only [visS]; split
  · rfl
  · split
    · rfl
    · rw [tEnter_12]; rfl
theorem ovr_halt (σ : St) (why : Int32) : ovr (halt σ why) = true := by
  show gB (sB (sI σ 2 why) (gN σ 12) true) (gN σ 12) = true
  rw [gBsB, if_pos rfl]
/-- what a visit asks -/
def preV (σ : St) (k d : Nat) : Prop := isT (gN σ 12) ∧ gN σ 9 ≤ 20000 ∧ gN σ 13 < 1501 ∧ gN σ 10 < 1501 ∧ k < 1502 ∧ (gN σ 9 < 20000 → k ≤ gN σ 13 → gA σ 8 k < 2 ^ 30 ∧ pE (visPre σ k d) k d)
def nxt1 (σ : St) (k t : Nat) : St := sA σ 7 (va_up (gA σ 7) k (t + 1))
def nxtS (σ : St) (k : Nat) : St := if gA σ 7 k < npt σ (gA σ 6 k) then tChS (nxt1 σ k (gA σ 7 k)) k (gA σ 6 k) (gA σ 7 k) else σ
def nxtR (σ : St) (k : Nat) : Option Nat := if gA σ 7 k < npt σ (gA σ 6 k) then tChR (nxt1 σ k (gA σ 7 k)) k (gA σ 6 k) (gA σ 7 k) else none
def preN (σ : St) (k : Nat) : Prop := isT (gN σ 12) ∧ k < 1501 ∧ OKd σ (gA σ 6 k) ∧ (gA σ 7 k < npt σ (gA σ 6 k) → pC (nxt1 σ k (gA σ 7 k)) k (gA σ 6 k) (gA σ 7 k)) ∧ gA σ 7 k < 2 ^ 30

set_option maxHeartbeats 4000000 in
set_option maxRecDepth 100000 in
theorem w_refuse (l : Launch) (G : Gx) (a : Nat → Nat) (σ : St)  : MM l G ⟨"NestedDeeds$Walker", "refuse", "()I"⟩ prog_10_method_2_code 1 (some .int) 0 0 [.ref (a 15)] (cw G a σ) (fun rv w => rv = some (.int (-2)) ∧ w = cw G a (sI σ 2 (-2))) := by
  refine MM.of (lv := [(0, .ref (a 15))]) (by decide +kernel) rfl (Nat.le_of_ble_eq_true rfl) ?_
  intro Z hRf hRl hl hG hn hk ht hA hQ X
  subst hG hl
  have X : XC Z "NestedDeeds$Walker" prog_10_method_2_code (some .int) := X
  have hk0 : zk Z ≤ (zR Z).cells := hk ▸ Nat.zero_le _
  have ht0 : zt Z ≤ (zR Z).slots := ht ▸ Nat.zero_le _
  refine V.aload_n X 0 dX8_refuse_0 rfl rfl ?_
  refine V.bipush X (v := (-2)) dX8_refuse_1 (by decide) ?_
  refine Vp_c_15_outcome (x := (-2)) X tw_330 dX8_refuse_3 ?_
  refine V.bipush X (v := (-2)) dX8_refuse_6 (by decide) ?_
  exact V.iret X rfl hA hk ht hQ rfl dX8_refuse_8 (⟨rfl, rfl⟩)

set_option maxHeartbeats 4000000 in
set_option maxRecDepth 100000 in
theorem w_halt (l : Launch) (G : Gx) (a : Nat → Nat) (σ : St) (y : Int32) (htk : isT (gN σ 12)) : MM l G ⟨"NestedDeeds$Walker", "halt", "(I)Z"⟩ prog_10_method_6_code 2 (some .boolean) 0 0 [.ref (a 15), .int y] (cw G a σ) (fun rv w => rv = some (.int (bI false)) ∧ w = cw G a (halt σ y)) := by
  refine MM.of (lv := [(0, .ref (a 15)), (1, .int y)]) (by decide +kernel) rfl (Nat.le_of_ble_eq_true rfl) ?_
  intro Z hRf hRl hl hG hn hk ht hA hQ X
  subst hG hl
  have X : XC Z "NestedDeeds$Walker" prog_10_method_6_code (some .boolean) := X
  have hk0 : zk Z ≤ (zR Z).cells := hk ▸ Nat.zero_le _
  have ht0 : zt Z ≤ (zR Z).slots := ht ▸ Nat.zero_le _
  refine V.aload_n X 0 dX8_halt_0 rfl rfl ?_
  refine V.iload_n X 1 dX8_halt_1 rfl rfl ?_
  refine Vp_c_15_outcome (x := y) X tw_330 dX8_halt_2 ?_
  refine V.aload_n X 0 dX8_halt_5 rfl rfl ?_
  refine Vg_c_15_task (x := gN σ 12) X tw_338 dX8_halt_6 rfl ?_
  refine V.iconst X (v := nI 1) dX8_halt_9 (by decide) ?_
  refine V.topi (y := bI true) rfl ?_
  refine Vp_over X tw_201 dX8_halt_10 htk ?_
  refine V.iconst X (v := nI 0) dX8_halt_13 (by decide) ?_
  refine V.topi (y := bI false) rfl ?_
  exact V.zret X rfl hA hk ht hQ rfl (bI_01 _) dX8_halt_14 (⟨rfl, rfl⟩)

set_option maxHeartbeats 4000000 in
set_option maxRecDepth 100000 in
theorem w_visit (l : Launch) (G : Gx) (a : Nat → Nat) (σ : St) (k d : Nat) (hv : preV σ k d) : MM l G ⟨"NestedDeeds$Walker", "visit", "(II)Z"⟩ prog_10_method_5_code 3 (some .boolean) 3 107 [.ref (a 15), .int (nI k), .int (nI d)] (cw G a σ) (fun rv w => rv = some (.int (bI (!ovr (visS σ k d)))) ∧ w = cw G a (visS σ k d)) := by
  refine MM.of (lv := [(0, .ref (a 15)), (1, .int (nI k)), (2, .int (nI d))]) (by decide +kernel) rfl (Nat.le_of_ble_eq_true rfl) ?_
  intro Z hRf hRl hl hG hn hk ht hA hQ X
  subst hG hl
  have X : XC Z "NestedDeeds$Walker" prog_10_method_5_code (some .boolean) := X
  have hk0 : zk Z ≤ (zR Z).cells := hk ▸ Nat.zero_le _
  have ht0 : zt Z ≤ (zR Z).slots := ht ▸ Nat.zero_le _
  obtain ⟨htk, hv1, hv2, hv3, hv4, hpE⟩ := hv
  refine V.aload_n X 0 dX8_visit_0 rfl rfl ?_
  refine Vg_c_15_visited (x := gN σ 9) X tw_332 dX8_visit_1 rfl ?_
  refine V.sipush X (v := nI 20000) dX8_visit_4 (by decide) ?_
  refine V.icmp_neN X 17 dX8_visit_7 (by decide) (by omega) (by decide) (fun c7 => ?_) (fun c7 => ?_)
  · refine V.iload_n X 1 dX8_visit_17 rfl rfl ?_
    refine V.aload_n X 0 dX8_visit_18 rfl rfl ?_
    refine Vg_c_15_bottom (x := gN σ 13) X tw_339 dX8_visit_19 rfl ?_
    refine V.icmp_leN X 32 dX8_visit_22 (by decide) (by omega) (by omega) (fun c22 => ?_) (fun c22 => ?_)
    · refine V.aload_n X 0 dX8_visit_32 rfl rfl ?_
      refine V.dup X dX8_visit_33 rfl ?_
      refine Vg_c_15_visited (x := gN σ 9) X tw_332 dX8_visit_34 rfl ?_
      refine V.iconst X (v := nI 1) dX8_visit_37 (by decide) ?_
      refine V.iaddN X dX8_visit_38 ?_
      refine Vp_c_15_visited (x := (gN σ 9) + 1) X tw_332 dX8_visit_39 ?_
      refine V.iload_n X 1 dX8_visit_42 rfl rfl ?_
      refine V.aload_n X 0 dX8_visit_43 rfl rfl ?_
      refine Vg_c_15_deepest (x := gN σ 10) X tw_334 dX8_visit_44 rfl ?_
      refine V.icmp_leN X 62 dX8_visit_47 (by decide) (by omega) (by omega) (fun c47 => ?_) (fun c47 => ?_)
      · refine V.aload_n X 0 dX8_visit_62 rfl rfl ?_
        refine Vg_c_15_width X tw_324 dX8_visit_63 ?_
        refine V.iload_n X 1 dX8_visit_66 rfl rfl ?_
        refine V.dup2 X dX8_visit_67 rfl rfl ?_
        refine Va_c_width (x := gA σ 8 k) X (by omega) dX8_visit_68 rfl ?_
        refine V.iconst X (v := nI 1) dX8_visit_69 (by decide) ?_
        refine V.iaddN X dX8_visit_70 ?_
        refine Vs_c_width (f := gA σ 8) (i := k) (x := (gA σ 8 k) + 1) X (by omega) dX8_visit_71 rfl ?_
        refine V.aload_n X 0 dX8_visit_72 rfl rfl ?_
        refine Vg_c_15_deedAt X tw_322 dX8_visit_73 ?_
        refine V.iload_n X 1 dX8_visit_76 rfl rfl ?_
        refine V.iload_n X 2 dX8_visit_77 rfl rfl ?_
        refine Vs_c_deedAt (f := gA σ 6) (i := k) (x := d) X (by omega) dX8_visit_78 rfl ?_
        refine V.aload_n X 0 dX8_visit_79 rfl rfl ?_
        refine Vg_c_15_turnAt X tw_323 dX8_visit_80 ?_
        refine V.iload_n X 1 dX8_visit_83 rfl rfl ?_
        refine V.iconst X (v := nI 0) dX8_visit_84 (by decide) ?_
        refine Vs_c_turnAt (f := gA σ 7) (i := k) (x := 0) X (by omega) dX8_visit_85 rfl ?_
        refine V.eqw (ws' := cw (zG Z) a (visPre σ k d)) (by rw [visPre, if_neg (show ¬ gN σ 10 < k by omega), Nat.max_eq_left (by omega)]; exact congrArg (fun q => cw (zG Z) a (sA (sA (sA q 8 (va_up (gA σ 8) k (gA σ 8 k + 1))) 6 (va_up (gA σ 6) k d)) 7 (va_up (gA σ 7) k 0))) (sN_self (sN σ 9 (gN σ 9 + 1)) 10).symm) ?_
        refine V.aload_n X 0 dX8_visit_86 rfl rfl ?_
        refine Vg_c_15_task (x := gN σ 12) X tw_338 dX8_visit_87 rfl ?_
        refine V.iload_n X 1 dX8_visit_90 rfl rfl ?_
        refine V.iload_n X 2 dX8_visit_91 rfl rfl ?_
        refine Wk_enter (σ := (visPre σ k d)) X htk (hpE (by omega) (by omega)).2 (len hRf (by decide)) (len hRl (by decide)) hk0 ht0 (Nat.le_of_ble_eq_true rfl) dX8_visit_92 ?_
        have htk2 : isT (gN (tEnter (visPre σ k d) k d) 12) := by rw [tEnter_12]; exact htk
        refine V.aload_n X 0 dX8_visit_95 rfl rfl ?_
        refine Vg_c_15_task (x := gN (tEnter (visPre σ k d) k d) 12) X tw_338 dX8_visit_96 rfl ?_
        refine Vg_over (x := gB (tEnter (visPre σ k d) k d) (gN (tEnter (visPre σ k d) k d) 12)) X tw_201 dX8_visit_99 rfl htk2 ?_
        refine V.if_neB X 109 dX8_visit_102 (by decide) (fun c102 => ?_) (fun c102 => ?_)
        · refine V.iconst X (v := nI 0) dX8_visit_109 (by decide) ?_
          refine V.topi (y := bI false) rfl ?_
          exact V.zret X rfl hA hk ht hQ rfl (bI_01 _) dX8_visit_110 (⟨by rw [visS, if_neg c7, if_neg (show ¬ gN σ 13 < k by omega), ovr, c102]; rfl, by rw [visS, if_neg c7, if_neg (show ¬ gN σ 13 < k by omega)]⟩)
        · refine V.iconst X (v := nI 1) dX8_visit_105 (by decide) ?_
          refine V.goto X 110 dX8_visit_106 (by decide) ?_
          refine V.topi (y := bI true) rfl ?_
          exact V.zret X rfl hA hk ht hQ rfl (bI_01 _) dX8_visit_110 (⟨by rw [visS, if_neg c7, if_neg (show ¬ gN σ 13 < k by omega), ovr, c102]; rfl, by rw [visS, if_neg c7, if_neg (show ¬ gN σ 13 < k by omega)]⟩)
      · refine V.aload_n X 0 dX8_visit_50 rfl rfl ?_
        refine V.iload_n X 1 dX8_visit_51 rfl rfl ?_
        refine Vp_c_15_deepest (x := k) X tw_334 dX8_visit_52 ?_
        refine V.aload_n X 0 dX8_visit_55 rfl rfl ?_
        refine Vg_c_15_width X tw_324 dX8_visit_56 ?_
        refine V.iload_n X 1 dX8_visit_59 rfl rfl ?_
        refine V.iconst X (v := nI 0) dX8_visit_60 (by decide) ?_
        refine Vs_c_width (f := gA σ 8) (i := k) (x := 0) X (by omega) dX8_visit_61 rfl ?_
        refine V.aload_n X 0 dX8_visit_62 rfl rfl ?_
        refine Vg_c_15_width X tw_324 dX8_visit_63 ?_
        refine V.iload_n X 1 dX8_visit_66 rfl rfl ?_
        refine V.dup2 X dX8_visit_67 rfl rfl ?_
        refine Va_c_width (x := (va_up (gA σ 8) k 0) k) X (by omega) dX8_visit_68 rfl ?_
        refine V.iconst X (v := nI 1) dX8_visit_69 (by decide) ?_
        refine V.iaddN X dX8_visit_70 ?_
        refine Vs_c_width (f := va_up (gA σ 8) k 0) (i := k) (x := ((va_up (gA σ 8) k 0) k) + 1) X (by omega) dX8_visit_71 rfl ?_
        refine V.aload_n X 0 dX8_visit_72 rfl rfl ?_
        refine Vg_c_15_deedAt X tw_322 dX8_visit_73 ?_
        refine V.iload_n X 1 dX8_visit_76 rfl rfl ?_
        refine V.iload_n X 2 dX8_visit_77 rfl rfl ?_
        refine Vs_c_deedAt (f := gA σ 6) (i := k) (x := d) X (by omega) dX8_visit_78 rfl ?_
        refine V.aload_n X 0 dX8_visit_79 rfl rfl ?_
        refine Vg_c_15_turnAt X tw_323 dX8_visit_80 ?_
        refine V.iload_n X 1 dX8_visit_83 rfl rfl ?_
        refine V.iconst X (v := nI 0) dX8_visit_84 (by decide) ?_
        refine Vs_c_turnAt (f := gA σ 7) (i := k) (x := 0) X (by omega) dX8_visit_85 rfl ?_
        refine V.eqw (ws' := cw (zG Z) a (visPre σ k d)) (by rw [visPre, if_pos c47, Nat.max_eq_right (by omega), sA_sA, bx_uu, va_up_self]) ?_
        refine V.aload_n X 0 dX8_visit_86 rfl rfl ?_
        refine Vg_c_15_task (x := gN σ 12) X tw_338 dX8_visit_87 rfl ?_
        refine V.iload_n X 1 dX8_visit_90 rfl rfl ?_
        refine V.iload_n X 2 dX8_visit_91 rfl rfl ?_
        refine Wk_enter (σ := (visPre σ k d)) X htk (hpE (by omega) (by omega)).2 (len hRf (by decide)) (len hRl (by decide)) hk0 ht0 (Nat.le_of_ble_eq_true rfl) dX8_visit_92 ?_
        have htk2 : isT (gN (tEnter (visPre σ k d) k d) 12) := by rw [tEnter_12]; exact htk
        refine V.aload_n X 0 dX8_visit_95 rfl rfl ?_
        refine Vg_c_15_task (x := gN (tEnter (visPre σ k d) k d) 12) X tw_338 dX8_visit_96 rfl ?_
        refine Vg_over (x := gB (tEnter (visPre σ k d) k d) (gN (tEnter (visPre σ k d) k d) 12)) X tw_201 dX8_visit_99 rfl htk2 ?_
        refine V.if_neB X 109 dX8_visit_102 (by decide) (fun c102 => ?_) (fun c102 => ?_)
        · refine V.iconst X (v := nI 0) dX8_visit_109 (by decide) ?_
          refine V.topi (y := bI false) rfl ?_
          exact V.zret X rfl hA hk ht hQ rfl (bI_01 _) dX8_visit_110 (⟨by rw [visS, if_neg c7, if_neg (show ¬ gN σ 13 < k by omega), ovr, c102]; rfl, by rw [visS, if_neg c7, if_neg (show ¬ gN σ 13 < k by omega)]⟩)
        · refine V.iconst X (v := nI 1) dX8_visit_105 (by decide) ?_
          refine V.goto X 110 dX8_visit_106 (by decide) ?_
          refine V.topi (y := bI true) rfl ?_
          exact V.zret X rfl hA hk ht hQ rfl (bI_01 _) dX8_visit_110 (⟨by rw [visS, if_neg c7, if_neg (show ¬ gN σ 13 < k by omega), ovr, c102]; rfl, by rw [visS, if_neg c7, if_neg (show ¬ gN σ 13 < k by omega)]⟩)
    · refine V.aload_n X 0 dX8_visit_25 rfl rfl ?_
      refine V.bipush X (v := (-6)) dX8_visit_26 (by decide) ?_
      refine V.callV X rfl (w_halt (zl Z) (zG Z) a σ (-6) htk) cv_X8_88 rfl 15 rfl rfl (len hRf (by decide)) (len hRl (by decide)) hk0 ht0 [] rfl (Nat.le_of_ble_eq_true rfl) dX8_visit_28 ?_
      rintro _ _ ⟨rfl, rfl⟩
      refine V.eqs (st' := [.int (bI false)]) rfl ?_
      exact V.zret X rfl hA hk ht hQ rfl (bI_01 _) dX8_visit_31 (⟨by rw [visS, if_neg c7, if_pos c22, ovr_halt]; rfl, by rw [visS, if_neg c7, if_pos c22]⟩)
  · refine V.aload_n X 0 dX8_visit_10 rfl rfl ?_
    refine V.bipush X (v := (-5)) dX8_visit_11 (by decide) ?_
    refine V.callV X rfl (w_halt (zl Z) (zG Z) a σ (-5) htk) cv_X8_88 rfl 15 rfl rfl (len hRf (by decide)) (len hRl (by decide)) hk0 ht0 [] rfl (Nat.le_of_ble_eq_true rfl) dX8_visit_13 ?_
    rintro _ _ ⟨rfl, rfl⟩
    refine V.eqs (st' := [.int (bI false)]) rfl ?_
    exact V.zret X rfl hA hk ht hQ rfl (bI_01 _) dX8_visit_16 (⟨by rw [visS, if_pos c7, ovr_halt]; rfl, by rw [visS, if_pos c7]⟩)

set_option maxHeartbeats 4000000 in
set_option maxRecDepth 100000 in
theorem w_nextPart (l : Launch) (G : Gx) (a : Nat → Nat) (σ : St) (k : Nat) (hv : preN σ k) : MM l G ⟨"NestedDeeds$Walker", "nextPart", "(I)I"⟩ prog_10_method_7_code 4 (some .int) 3 107 [.ref (a 15), .int (nI k)] (cw G a σ) (fun rv w => rv = some (.int (oI (nxtR σ k))) ∧ w = cw G a (nxtS σ k)) := by
  refine MM.of (lv := [(0, .ref (a 15)), (1, .int (nI k))]) (by decide +kernel) rfl (Nat.le_of_ble_eq_true rfl) ?_
  intro Z hRf hRl hl hG hn hk ht hA hQ X
  subst hG hl
  have X : XC Z "NestedDeeds$Walker" prog_10_method_7_code (some .int) := X
  have hk0 : zk Z ≤ (zR Z).cells := hk ▸ Nat.zero_le _
  have ht0 : zt Z ≤ (zR Z).slots := ht ▸ Nat.zero_le _
  obtain ⟨hn1, hn2, ⟨hd1, hd2, hd3, hd4⟩, hn4, hn5⟩ := hv
  refine V.aload_n X 0 dX8_nextPart_0 rfl rfl ?_
  refine Vg_c_15_deedAt X tw_322 dX8_nextPart_1 ?_
  refine V.iload_n X 1 dX8_nextPart_4 rfl rfl ?_
  refine Va_c_deedAt (x := gA σ 6 k) X (by omega) dX8_nextPart_5 rfl ?_
  refine V.istore_n X (lv' := [(2, .int (nI (gA σ 6 k))), (0, .ref (a 15)), (1, .int (nI k))]) dX8_nextPart_6 rfl (ltn hn (by decide)) rfl ?_
  refine V.aload_n X 1 dX8_nextPart_7 rfl rfl ?_
  refine Vg_c_15_turnAt X tw_323 dX8_nextPart_8 ?_
  refine V.iload_n X 2 dX8_nextPart_11 rfl rfl ?_
  refine Va_c_turnAt (x := gA σ 7 k) X (by omega) dX8_nextPart_12 rfl ?_
  refine V.istore_n X (lv' := [(3, .int (nI (gA σ 7 k))), (2, .int (nI (gA σ 6 k))), (0, .ref (a 15)), (1, .int (nI k))]) dX8_nextPart_13 rfl (ltn hn (by decide)) rfl ?_
  refine V.iload_n X 0 dX8_nextPart_14 rfl rfl ?_
  refine V.aload_n X 2 dX8_nextPart_15 rfl rfl ?_
  refine Vg_c_15_deeds X tw_321 dX8_nextPart_16 ?_
  refine V.iload_n X 1 dX8_nextPart_19 rfl rfl ?_
  refine V.callV X rfl (c_partsOf (zl Z) (zG Z) a σ (gA σ 6 k) (by omega) (by first | omega | exact hd2)) cv_X8_94 rfl 1 rfl rfl (len hRf (by decide)) (len hRl (by decide)) hk0 ht0 [.int (nI (gA σ 7 k))] rfl (Nat.le_of_ble_eq_true rfl) dX8_nextPart_20 ?_
  rintro _ _ ⟨rfl, rfl⟩
  refine V.eqs (st' := [.int (nI ((gA σ 1) ((gA σ 6 k) + 1) - (gA σ 1) (gA σ 6 k))), .int (nI (gA σ 7 k))]) rfl ?_
  refine V.icmp_ltN X 28 dX8_nextPart_23 (by decide) (by omega) (by omega) (fun c23 => ?_) (fun c23 => ?_)
  · refine V.aload_n X 2 dX8_nextPart_28 rfl rfl ?_
    refine Vg_c_15_turnAt X tw_323 dX8_nextPart_29 ?_
    refine V.iload_n X 3 dX8_nextPart_32 rfl rfl ?_
    refine V.iload_n X 0 dX8_nextPart_33 rfl rfl ?_
    refine V.iconst X (v := nI 1) dX8_nextPart_34 (by decide) ?_
    refine V.iaddN X dX8_nextPart_35 ?_
    refine Vs_c_turnAt (f := gA σ 7) (i := k) (x := (gA σ 7 k) + 1) X (by omega) dX8_nextPart_36 rfl ?_
    refine V.eqw (ws' := cw (zG Z) a (nxt1 σ k (gA σ 7 k))) rfl ?_
    refine V.aload_n X 2 dX8_nextPart_37 rfl rfl ?_
    refine Vg_c_15_task (x := gN σ 12) X tw_338 dX8_nextPart_38 rfl ?_
    refine V.iload_n X 3 dX8_nextPart_41 rfl rfl ?_
    refine V.iload_n X 1 dX8_nextPart_42 rfl rfl ?_
    refine V.iload_n X 0 dX8_nextPart_43 rfl rfl ?_
    refine Wk_choose (σ := (nxt1 σ k (gA σ 7 k))) X hn1 (hn4 c23) (len hRf (by decide)) (len hRl (by decide)) hk0 ht0 (Nat.le_of_ble_eq_true rfl) dX8_nextPart_44 ?_
    exact V.iret X rfl hA hk ht hQ rfl dX8_nextPart_47 (⟨by rw [nxtR, if_pos (show gA σ 7 k < npt σ (gA σ 6 k) from c23)], by rw [nxtS, if_pos (show gA σ 7 k < npt σ (gA σ 6 k) from c23)]⟩)
  · refine V.iconst X (v := -1) dX8_nextPart_26 (by decide) ?_
    exact V.iret X rfl hA hk ht hQ rfl dX8_nextPart_27 (⟨by rw [nxtR, if_neg (show ¬ gA σ 7 k < npt σ (gA σ 6 k) from Nat.not_lt.mpr c23)]; rfl, by rw [nxtS, if_neg (show ¬ gA σ 7 k < npt σ (gA σ 6 k) from Nat.not_lt.mpr c23)]⟩)

def bestF (f : Nat → Nat) : Nat → Nat
  | 0 => 1
  | 1 => 1
  | n + 2 => if f (bestF f (n + 1)) < f (n + 2) then n + 2 else bestF f (n + 1)
theorem bestF_le (f : Nat → Nat) : ∀ n, 1 ≤ bestF f n ∧ bestF f n ≤ max 1 n
  | 0 => by simp [bestF]
  | 1 => by simp [bestF]
  | n + 2 => by
    have := bestF_le f (n + 1)
    simp only [bestF]; split <;> omega
theorem bstep_t {f : Nat → Nat} {j : Nat} (h : f (bestF f (j + 2 - 1)) < f (j + 2)) : bestF f (j + 2 + 1 - 1) = j + 2 := by
  show bestF f (j + 2) = j + 2
  rw [bestF, if_pos (show f (bestF f (j + 1)) < f (j + 2) from h)]
theorem bstep_f {f : Nat → Nat} {j : Nat} (h : f (j + 2) ≤ f (bestF f (j + 2 - 1))) : bestF f (j + 2 + 1 - 1) = bestF f (j + 2 - 1) := by
  show bestF f (j + 2) = bestF f (j + 1)
  rw [bestF, if_neg (show ¬ f (bestF f (j + 1)) < f (j + 2) from Nat.not_lt.mpr h)]
theorem bst {f : Nat → Nat} {i n : Nat} (h1 : 2 ≤ i) (h2 : i + 0 = max 2 (n + 1)) : bestF f (i - 1) = bestF f n := by
  rcases Nat.lt_or_ge n 1 with h | h
  · have e1 : i - 1 = 1 := by omega
    have e2 : n = 0 := by omega
    rw [e1, e2]; rfl
  · rw [show i - 1 = n by omega]
set_option maxHeartbeats 4000000 in
set_option maxRecDepth 100000 in
theorem w_widestDepth (l : Launch) (G : Gx) (a : Nat → Nat) (σ : St) (h1 : gN σ 10 < 1501) (hw : ∀ j, j < 1502 → gA σ 8 j < 2 ^ 30) : MM l G ⟨"NestedDeeds$Walker", "widestDepth", "()I"⟩ prog_10_method_4_code 3 (some .int) 0 0 [.ref (a 15)] (cw G a σ) (fun rv w => rv = some (.int (nI (bestF (gA σ 8) (gN σ 10)))) ∧ w = cw G a σ) := by
  refine MM.of (lv := [(0, .ref (a 15))]) (by decide +kernel) rfl (Nat.le_of_ble_eq_true rfl) ?_
  intro Z hRf hRl hl hG hn hk ht hA hQ X
  subst hG hl
  have X : XC Z "NestedDeeds$Walker" prog_10_method_4_code (some .int) := X
  have hk0 : zk Z ≤ (zR Z).cells := hk ▸ Nat.zero_le _
  have ht0 : zt Z ≤ (zR Z).slots := ht ▸ Nat.zero_le _
  have LP : ∀ (n i : Nat), 2 ≤ i → i + n = max 2 (gN σ 10 + 1) → V Z (cw (zG Z) a σ) [(2, .int (nI i)), (1, .int (nI (bestF (gA σ 8) (i - 1)))), (0, .ref (a 15))] 4 [] := by
    intro n
    induction n with
    | zero =>
      intro i h1 h2
      refine V.iload_n X 0 dX8_widestDepth_4 rfl rfl ?_
      refine V.aload_n X 2 dX8_widestDepth_5 rfl rfl ?_
      refine Vg_c_15_deepest (x := gN σ 10) X tw_334 dX8_widestDepth_6 rfl ?_
      refine V.icmp_gtN X 35 dX8_widestDepth_9 (by decide) (by omega) (by omega) (fun c9 => ?_) (fun c9 => by exfalso; omega)
      refine V.iload_n X 1 dX8_widestDepth_35 rfl rfl ?_
      exact V.iret X rfl hA hk ht hQ rfl dX8_widestDepth_36 (⟨by rw [bst h1 h2], rfl⟩)
    | succ n ih =>
      intro i h1 h2
      have hb := bestF_le (gA σ 8) (i - 1)
      obtain ⟨j, rfl⟩ : ∃ j, i = j + 2 := ⟨i - 2, by omega⟩
      have hw1 := hw (j + 2) (by omega)
      have hw2 := hw (bestF (gA σ 8) (j + 2 - 1)) (by omega)
      refine V.iload_n X 0 dX8_widestDepth_4 rfl rfl ?_
      refine V.aload_n X 2 dX8_widestDepth_5 rfl rfl ?_
      refine Vg_c_15_deepest (x := gN σ 10) X tw_334 dX8_widestDepth_6 rfl ?_
      refine V.icmp_gtN X 35 dX8_widestDepth_9 (by decide) (by omega) (by omega) (fun c9 => by exfalso; omega) (fun c9 => ?_)
      refine V.aload_n X 2 dX8_widestDepth_12 rfl rfl ?_
      refine Vg_c_15_width X tw_324 dX8_widestDepth_13 ?_
      refine V.iload_n X 0 dX8_widestDepth_16 rfl rfl ?_
      refine Va_c_width (x := gA σ 8 (j + 2)) X (by omega) dX8_widestDepth_17 rfl ?_
      refine V.aload_n X 2 dX8_widestDepth_18 rfl rfl ?_
      refine Vg_c_15_width X tw_324 dX8_widestDepth_19 ?_
      refine V.iload_n X 1 dX8_widestDepth_22 rfl rfl ?_
      refine Va_c_width (x := gA σ 8 (bestF (gA σ 8) (j + 2 - 1))) X (by omega) dX8_widestDepth_23 rfl ?_
      refine V.icmp_leN X 29 dX8_widestDepth_24 (by decide) (by omega) (by omega) (fun c24 => ?_) (fun c24 => ?_)
      · refine V.iinc X (v := nI ((j + 2) + 1)) (lv' := [(2, .int (nI ((j + 2) + 1))), (1, .int (nI (bestF (gA σ 8) (j + 2 - 1)))), (0, .ref (a 15))]) (k0 := 0) dX8_widestDepth_29 rfl (inc_1 _) (ltn hn (by decide)) rfl ?_
        refine V.goto X 4 dX8_widestDepth_32 (by decide) ?_
        refine V.eql (lv' := [(2, .int (nI ((j + 2) + 1))), (1, .int (nI (bestF (gA σ 8) (j + 2 + 1 - 1)))), (0, .ref (a 15))]) (by rw [bstep_f c24]) ?_
        exact V.sub [0, 1, 2] rfl (ih (j + 2 + 1) (by omega) (by omega))
      · refine V.iload_n X 0 dX8_widestDepth_27 rfl rfl ?_
        refine V.istore_n X (lv' := [(1, .int (nI (j + 2))), (2, .int (nI (j + 2))), (0, .ref (a 15))]) dX8_widestDepth_28 rfl (ltn hn (by decide)) rfl ?_
        refine V.iinc X (v := nI ((j + 2) + 1)) (lv' := [(2, .int (nI ((j + 2) + 1))), (1, .int (nI (j + 2))), (0, .ref (a 15))]) (k0 := 1) dX8_widestDepth_29 rfl (inc_1 _) (ltn hn (by decide)) rfl ?_
        refine V.goto X 4 dX8_widestDepth_32 (by decide) ?_
        refine V.eql (lv' := [(2, .int (nI ((j + 2) + 1))), (1, .int (nI (bestF (gA σ 8) (j + 2 + 1 - 1)))), (0, .ref (a 15))]) (by rw [bstep_t c24]) ?_
        exact V.sub [0, 1, 2] rfl (ih (j + 2 + 1) (by omega) (by omega))
  refine V.iconst X (v := nI 1) dX8_widestDepth_0 (by decide) ?_
  refine V.istore_n X (lv' := [(1, .int (nI 1)), (0, .ref (a 15))]) dX8_widestDepth_1 rfl (ltn hn (by decide)) rfl ?_
  refine V.iconst X (v := nI 2) dX8_widestDepth_2 (by decide) ?_
  refine V.istore_n X (lv' := [(2, .int (nI 2)), (1, .int (nI 1)), (0, .ref (a 15))]) dX8_widestDepth_3 rfl (ltn hn (by decide)) rfl ?_
  refine V.eql (lv' := [(2, .int (nI 2)), (1, .int (nI (bestF (gA σ 8) (2 - 1)))), (0, .ref (a 15))]) rfl ?_
  exact V.sub [0, 1, 2] rfl (LP (max 2 (gN σ 10 + 1) - 2) 2 (by omega) (by omega))

