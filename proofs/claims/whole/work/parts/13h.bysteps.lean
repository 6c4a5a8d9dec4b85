theorem tLeave_14 (σ : St) (k d : Nat) : gN (tLeave σ k d) 14 = gN σ 14 := by
  simp only [tLeave]; split
  · rfl
  · split
    · rfl
    · split
      · simp only [tL28]; split <;> rfl
      · rfl
theorem nxtS_12 (σ : St) (k : Nat) : gN (nxtS σ k) 12 = gN σ 12 := by
  simp only [nxtS]; split
  · rw [tChS_12]; rfl
  · rfl

set_option maxHeartbeats 4000000 in
set_option maxRecDepth 100000 in
theorem w_take0 (l : Launch) (G : Gx) (a : Nat → Nat) (σ : St) (hpn : preN σ (gN σ 14)) (hp : ∀ p, nxtR σ (gN σ 14) = some p → p < 2 ^ 31) : MM l G ⟨"NestedDeeds$Walker", "take", "(I)I"⟩ prog_10_method_11_code 2 (some .int) 4 130 [.ref (a 15), .int (nI 0)] (cw G a σ) (fun rv w => rv = some (.int (nI (if nxtR σ (gN σ 14) = none then 2 else 1))) ∧ w = cw G a (sI (nxtS σ (gN σ 14)) 3 (oI (nxtR σ (gN σ 14))))) := by
  refine MM.of (lv := [(0, .ref (a 15)), (1, .int (nI 0))]) (by decide +kernel) rfl (Nat.le_of_ble_eq_true rfl) ?_
  intro Z hRf hRl hl hG hn hk ht hA hQ X
  subst hG hl
  have X : XC Z "NestedDeeds$Walker" prog_10_method_11_code (some .int) := X
  have hk0 : zk Z ≤ (zR Z).cells := hk ▸ Nat.zero_le _
  have ht0 : zt Z ≤ (zR Z).slots := ht ▸ Nat.zero_le _
  refine V.iload_n X 1 dX8_take_0 rfl rfl ?_
  refine V.tableIn X 32 dX8_take_1 (by decide) (by decide) rfl (by decide) ?_
  rcases hnx : nxtR σ (gN σ 14) with _ | p
  · refine V.aload_n X 0 dX8_take_32 rfl rfl ?_
    refine V.aload_n X 0 dX8_take_33 rfl rfl ?_
    refine V.aload_n X 0 dX8_take_34 rfl rfl ?_
    refine Vg_c_15_level (x := gN σ 14) X tw_340 dX8_take_35 rfl ?_
    refine V.callV X rfl (w_nextPart (zl Z) (zG Z) a σ (gN σ 14) (hpn)) cv_X8_102 rfl 15 rfl rfl (len hRf (by decide)) (len hRl (by decide)) hk0 ht0 [.ref (a 15)] rfl (Nat.le_of_ble_eq_true rfl) dX8_take_38 ?_
    rintro _ _ ⟨rfl, rfl⟩
    refine V.eqs (st' := [.int (oI (nxtR σ (gN σ 14))), .ref (a 15)]) rfl ?_
    refine Vp_c_15_coming (x := oI (nxtR σ (gN σ 14))) X tw_341 dX8_take_41 ?_
    refine V.aload_n X 0 dX8_take_44 rfl rfl ?_
    refine Vg_c_15_coming (x := oI (nxtR σ (gN σ 14))) X tw_341 dX8_take_45 rfl ?_
    refine V.iconst X (v := -1) dX8_take_48 (by decide) ?_
    refine V.eqs (st' := [.int (-1), .int (-1)]) (by rw [hnx]; rfl) ?_
    refine V.icmp_ne X 56 dX8_take_49 (by decide) (fun c49 => by exfalso; exact c49 rfl) (fun c49 => ?_)
    refine V.iconst X (v := nI 2) dX8_take_52 (by decide) ?_
    refine V.goto X 57 dX8_take_53 (by decide) ?_
    exact V.iret X rfl hA hk ht hQ rfl dX8_take_57 (⟨by rw [hnx]; rfl, rfl⟩)
  · refine V.aload_n X 0 dX8_take_32 rfl rfl ?_
    refine V.aload_n X 0 dX8_take_33 rfl rfl ?_
    refine V.aload_n X 0 dX8_take_34 rfl rfl ?_
    refine Vg_c_15_level (x := gN σ 14) X tw_340 dX8_take_35 rfl ?_
    refine V.callV X rfl (w_nextPart (zl Z) (zG Z) a σ (gN σ 14) (hpn)) cv_X8_102 rfl 15 rfl rfl (len hRf (by decide)) (len hRl (by decide)) hk0 ht0 [.ref (a 15)] rfl (Nat.le_of_ble_eq_true rfl) dX8_take_38 ?_
    rintro _ _ ⟨rfl, rfl⟩
    refine V.eqs (st' := [.int (oI (nxtR σ (gN σ 14))), .ref (a 15)]) rfl ?_
    refine Vp_c_15_coming (x := oI (nxtR σ (gN σ 14))) X tw_341 dX8_take_41 ?_
    refine V.aload_n X 0 dX8_take_44 rfl rfl ?_
    refine Vg_c_15_coming (x := oI (nxtR σ (gN σ 14))) X tw_341 dX8_take_45 rfl ?_
    refine V.iconst X (v := -1) dX8_take_48 (by decide) ?_
    refine V.eqs (st' := [.int (-1), .int (nI p)]) (by rw [hnx]; rfl) ?_
    refine V.icmp_ne X 56 dX8_take_49 (by decide) (fun c49 => ?_) (fun c49 => by exfalso; exact nI_nm1 (hp p hnx) c49)
    refine V.iconst X (v := nI 1) dX8_take_56 (by decide) ?_
    exact V.iret X rfl hA hk ht hQ rfl dX8_take_57 (⟨by rw [hnx]; rfl, rfl⟩)

set_option maxHeartbeats 4000000 in
set_option maxRecDepth 100000 in
theorem w_take1 (l : Launch) (G : Gx) (a : Nat → Nat) (σ : St) (p : Nat) (hcm : gI σ 3 = nI p) (hpv : preV (sN σ 14 (gN σ 14 + 1)) (gN σ 14 + 1) p) : MM l G ⟨"NestedDeeds$Walker", "take", "(I)I"⟩ prog_10_method_11_code 2 (some .int) 4 129 [.ref (a 15), .int (nI 1)] (cw G a σ) (fun rv w => rv = some (.int (nI 0)) ∧ w = cw G a (visS (sN σ 14 (gN σ 14 + 1)) (gN σ 14 + 1) p)) := by
  refine MM.of (lv := [(0, .ref (a 15)), (1, .int (nI 1))]) (by decide +kernel) rfl (Nat.le_of_ble_eq_true rfl) ?_
  intro Z hRf hRl hl hG hn hk ht hA hQ X
  subst hG hl
  have X : XC Z "NestedDeeds$Walker" prog_10_method_11_code (some .int) := X
  have hk0 : zk Z ≤ (zR Z).cells := hk ▸ Nat.zero_le _
  have ht0 : zt Z ≤ (zR Z).slots := ht ▸ Nat.zero_le _
  refine V.iload_n X 1 dX8_take_0 rfl rfl ?_
  refine V.tableIn X 58 dX8_take_1 (by decide) (by decide) rfl (by decide) ?_
  refine V.aload_n X 0 dX8_take_58 rfl rfl ?_
  refine V.dup X dX8_take_59 rfl ?_
  refine Vg_c_15_level (x := gN σ 14) X tw_340 dX8_take_60 rfl ?_
  refine V.iconst X (v := nI 1) dX8_take_63 (by decide) ?_
  refine V.iaddN X dX8_take_64 ?_
  refine Vp_c_15_level (x := (gN σ 14) + 1) X tw_340 dX8_take_65 ?_
  refine V.aload_n X 0 dX8_take_68 rfl rfl ?_
  refine V.aload_n X 0 dX8_take_69 rfl rfl ?_
  refine Vg_c_15_level (x := (gN σ 14) + 1) X tw_340 dX8_take_70 rfl ?_
  refine V.aload_n X 0 dX8_take_73 rfl rfl ?_
  refine Vg_c_15_coming (x := gI σ 3) X tw_341 dX8_take_74 rfl ?_
  refine V.topi (y := nI p) (by exact hcm) ?_
  refine V.callV X rfl (w_visit (zl Z) (zG Z) a (sN σ 14 ((gN σ 14) + 1)) ((gN σ 14) + 1) p (hpv)) cv_X8_64 rfl 15 rfl rfl (len hRf (by decide)) (len hRl (by decide)) hk0 ht0 [] rfl (Nat.le_of_ble_eq_true rfl) dX8_take_77 ?_
  rintro _ _ ⟨rfl, rfl⟩
  refine V.eqs (st' := [.int (bI (!ovr (visS (sN σ 14 ((gN σ 14) + 1)) ((gN σ 14) + 1) p)))]) rfl ?_
  refine V.pop X dX8_take_80 rfl ?_
  refine V.iconst X (v := nI 0) dX8_take_81 (by decide) ?_
  exact V.iret X rfl hA hk ht hQ rfl dX8_take_82 (⟨rfl, rfl⟩)

set_option maxHeartbeats 4000000 in
set_option maxRecDepth 100000 in
theorem w_take2 (l : Launch) (G : Gx) (a : Nat → Nat) (σ : St) (htk : isT (gN σ 12)) (hlv : 1 ≤ gN σ 14) (hkb : gN σ 14 < 1501) (hpl : pL σ (gN σ 14) (gA σ 6 (gN σ 14))) : MM l G ⟨"NestedDeeds$Walker", "take", "(I)I"⟩ prog_10_method_11_code 2 (some .int) 3 107 [.ref (a 15), .int (nI 2)] (cw G a σ) (fun rv w => rv = some (.int (nI (if gN σ 14 = 1 then 4 else 3))) ∧ w = cw G a (sN (tLeave σ (gN σ 14) (gA σ 6 (gN σ 14))) 14 (gN σ 14 - 1))) := by
  refine MM.of (lv := [(0, .ref (a 15)), (1, .int (nI 2))]) (by decide +kernel) rfl (Nat.le_of_ble_eq_true rfl) ?_
  intro Z hRf hRl hl hG hn hk ht hA hQ X
  subst hG hl
  have X : XC Z "NestedDeeds$Walker" prog_10_method_11_code (some .int) := X
  have hk0 : zk Z ≤ (zR Z).cells := hk ▸ Nat.zero_le _
  have ht0 : zt Z ≤ (zR Z).slots := ht ▸ Nat.zero_le _
  refine V.iload_n X 1 dX8_take_0 rfl rfl ?_
  refine V.tableIn X 83 dX8_take_1 (by decide) (by decide) rfl (by decide) ?_
  refine V.aload_n X 0 dX8_take_83 rfl rfl ?_
  refine Vg_c_15_task (x := gN σ 12) X tw_338 dX8_take_84 rfl ?_
  refine V.aload_n X 0 dX8_take_87 rfl rfl ?_
  refine Vg_c_15_level (x := gN σ 14) X tw_340 dX8_take_88 rfl ?_
  refine V.aload_n X 0 dX8_take_91 rfl rfl ?_
  refine Vg_c_15_deedAt X tw_322 dX8_take_92 ?_
  refine V.aload_n X 0 dX8_take_95 rfl rfl ?_
  refine Vg_c_15_level (x := gN σ 14) X tw_340 dX8_take_96 rfl ?_
  refine Va_c_deedAt (x := gA σ 6 (gN σ 14)) X (by omega) dX8_take_99 rfl ?_
  refine Wk_leave (σ := σ) X htk hpl (len hRf (by decide)) (len hRl (by decide)) hk0 ht0 (Nat.le_of_ble_eq_true rfl) dX8_take_100 ?_
  refine V.aload_n X 0 dX8_take_103 rfl rfl ?_
  refine V.dup X dX8_take_104 rfl ?_
  refine Vg_c_15_level (x := gN (tLeave σ (gN σ 14) (gA σ 6 (gN σ 14))) 14) X tw_340 dX8_take_105 rfl ?_
  refine V.iconst X (v := nI 1) dX8_take_108 (by decide) ?_
  refine V.isubN X dX8_take_109 (by rw [tLeave_14]; omega) ?_
  refine V.topi (y := nI (gN σ 14 - 1)) (by rw [tLeave_14]) ?_
  refine Vp_c_15_level (x := gN σ 14 - 1) X tw_340 dX8_take_110 ?_
  refine V.aload_n X 0 dX8_take_113 rfl rfl ?_
  refine Vg_c_15_level (x := gN σ 14 - 1) X tw_340 dX8_take_114 rfl ?_
  refine V.if_neN X 124 dX8_take_117 (by decide) (by omega) (fun c117 => ?_) (fun c117 => ?_)
  · refine V.iconst X (v := nI 3) dX8_take_124 (by decide) ?_
    exact V.iret X rfl hA hk ht hQ rfl dX8_take_125 (⟨by rw [if_neg (show ¬ gN σ 14 = 1 by omega)], rfl⟩)
  · refine V.iconst X (v := nI 4) dX8_take_120 (by decide) ?_
    refine V.goto X 125 dX8_take_121 (by decide) ?_
    exact V.iret X rfl hA hk ht hQ rfl dX8_take_125 (⟨by rw [if_pos (show gN σ 14 = 1 by omega)], rfl⟩)

set_option maxHeartbeats 4000000 in
set_option maxRecDepth 100000 in
theorem w_take3 (l : Launch) (G : Gx) (a : Nat → Nat) (σ : St) (htk : isT (gN σ 12)) (hkb : gN σ 14 < 1501) (h1 : 1 ≤ gA σ 7 (gN σ 14)) (hpt : pT σ (gN σ 14) (gA σ 6 (gN σ 14)) (gA σ 7 (gN σ 14) - 1)) : MM l G ⟨"NestedDeeds$Walker", "take", "(I)I"⟩ prog_10_method_11_code 2 (some .int) 3 107 [.ref (a 15), .int (nI 3)] (cw G a σ) (fun rv w => rv = some (.int (nI 0)) ∧ w = cw G a (tTake σ (gN σ 14) (gA σ 6 (gN σ 14)) (gA σ 7 (gN σ 14) - 1))) := by
  refine MM.of (lv := [(0, .ref (a 15)), (1, .int (nI 3))]) (by decide +kernel) rfl (Nat.le_of_ble_eq_true rfl) ?_
  intro Z hRf hRl hl hG hn hk ht hA hQ X
  subst hG hl
  have X : XC Z "NestedDeeds$Walker" prog_10_method_11_code (some .int) := X
  have hk0 : zk Z ≤ (zR Z).cells := hk ▸ Nat.zero_le _
  have ht0 : zt Z ≤ (zR Z).slots := ht ▸ Nat.zero_le _
  refine V.iload_n X 1 dX8_take_0 rfl rfl ?_
  refine V.tableIn X 126 dX8_take_1 (by decide) (by decide) rfl (by decide) ?_
  refine V.aload_n X 0 dX8_take_126 rfl rfl ?_
  refine Vg_c_15_task (x := gN σ 12) X tw_338 dX8_take_127 rfl ?_
  refine V.aload_n X 0 dX8_take_130 rfl rfl ?_
  refine Vg_c_15_level (x := gN σ 14) X tw_340 dX8_take_131 rfl ?_
  refine V.aload_n X 0 dX8_take_134 rfl rfl ?_
  refine Vg_c_15_deedAt X tw_322 dX8_take_135 ?_
  refine V.aload_n X 0 dX8_take_138 rfl rfl ?_
  refine Vg_c_15_level (x := gN σ 14) X tw_340 dX8_take_139 rfl ?_
  refine Va_c_deedAt (x := gA σ 6 (gN σ 14)) X (by omega) dX8_take_142 rfl ?_
  refine V.aload_n X 0 dX8_take_143 rfl rfl ?_
  refine Vg_c_15_turnAt X tw_323 dX8_take_144 ?_
  refine V.aload_n X 0 dX8_take_147 rfl rfl ?_
  refine Vg_c_15_level (x := gN σ 14) X tw_340 dX8_take_148 rfl ?_
  refine Va_c_turnAt (x := gA σ 7 (gN σ 14)) X (by omega) dX8_take_151 rfl ?_
  refine V.iconst X (v := nI 1) dX8_take_152 (by decide) ?_
  refine V.isubN X dX8_take_153 (by omega) ?_
  refine Wk_takeUp (σ := σ) X htk hpt (len hRf (by decide)) (len hRl (by decide)) hk0 ht0 (Nat.le_of_ble_eq_true rfl) dX8_take_154 ?_
  refine V.iconst X (v := nI 0) dX8_take_157 (by decide) ?_
  exact V.iret X rfl hA hk ht hQ rfl dX8_take_158 (⟨rfl, rfl⟩)

theorem st_some_ovr {top n p : Nat} {σ : St} (h : OKr top n σ) (hn : nxtR σ (top + n) = some p) : ovr (nxtS σ (top + n)) = false := by
  obtain ⟨hw, ht⟩ := h.w
  rcases hw.t_le ht with hlt | hge
  case inr => obtain ⟨e1, e2⟩ := nxt_end (σ := σ) (k := top + n) rfl rfl hge; rw [e2] at hn; cases hn
  obtain ⟨e1, e2⟩ := nxt_eq (σ := σ) (k := top + n) rfl rfl hlt.1
  rw [e2] at hn
  rw [e1]; exact (hw.some hlt hn).2.2.1
set_option maxHeartbeats 4000000 in
set_option maxRecDepth 100000 in
theorem w_bySteps (l : Launch) (G : Gx) (a : Nat → Nat) (σ : St) (hok : OKr 1 0 σ) (hv : gN σ 9 ≤ 20000) : MM l G ⟨"NestedDeeds$Walker", "bySteps", "()V"⟩ prog_10_method_10_code 3 none 5 151 [.ref (a 15)] (cw G a σ) (fun rv w => rv = none ∧ ∃ x y, w = cw G a (ee (resS 1 0 σ) x y)) := by
  refine MM.of (lv := [(0, .ref (a 15))]) (by decide +kernel) rfl (Nat.le_of_ble_eq_true rfl) ?_
  intro Z hRf hRl hl hG hn hk ht hA hQ X
  subst hG hl
  have X : XC Z "NestedDeeds$Walker" prog_10_method_10_code none := X
  have hk0 : zk Z ≤ (zR Z).cells := hk ▸ Nat.zero_le _
  have ht0 : zt Z ≤ (zR Z).slots := ht ▸ Nat.zero_le _
  have LE : ∀ (i x : Nat) (y : Int32) (τ : St), i ≤ 150000 → ovr τ = true → isT (gN τ 12) → τ = resS 1 0 σ → V Z (cw (zG Z) a (ee τ x y)) [(2, .int (nI i)), (1, .int (nI 0)), (0, .ref (a 15))] 9 [] := by
    intro i x y τ h1 ho hkx h5
    refine V.iload_n X 0 dX8_bySteps_9 rfl rfl ?_
    refine V.ldc X dX8_bySteps_10 tw_553 ?_
    refine V.topi (y := nI 200000) (by decide) ?_
    refine V.icmp_geN X 42 dX8_bySteps_12 (by decide) (by omega) (by decide) (fun c12 => by exfalso; omega) (fun c12 => ?_)
    refine V.iload_n X 1 dX8_bySteps_15 rfl rfl ?_
    refine V.iconst X (v := nI 4) dX8_bySteps_16 (by decide) ?_
    refine V.icmp_eqN X 42 dX8_bySteps_17 (by decide) (by decide) (by decide) (fun c17 => by exfalso; omega) (fun c17 => ?_)
    refine V.aload_n X 2 dX8_bySteps_20 rfl rfl ?_
    refine Vg_c_15_task (x := gN (ee τ x y) 12) X tw_338 dX8_bySteps_21 rfl ?_
    refine Vg_over (x := gB (ee τ x y) (gN (ee τ x y) 12)) X tw_201 dX8_bySteps_24 rfl hkx ?_
    refine V.if_neB X 42 dX8_bySteps_27 (by decide) (fun c27 => ?_) (fun c27 => by exfalso; rw [show gB (ee τ x y) (gN (ee τ x y) 12) = true from ho] at c27; cases c27)
    exact V.vret X rfl hA hk ht hQ rfl dX8_bySteps_42 (⟨rfl, _, _, by rw [h5]⟩)
  have LP : ∀ (m i n : Nat) (τ : St) (y : Int32), i + m = 200000 → i + 3 * n ≤ 5 * gN τ 9 → gN τ 9 ≤ 20000 → OKr 1 n τ → resS 1 n τ = resS 1 0 σ → V Z (cw (zG Z) a (ee τ (1 + n) y)) [(2, .int (nI i)), (1, .int (nI 0)), (0, .ref (a 15))] 9 [] := by
    intro m
    induction m using Nat.strongRecOn with
    | ind m ih =>
      intro i n τ y h1 h2 h3 h4 h5
      obtain ⟨htk, hkb, hkd, hk6, hk7, hov⟩ := h4.w.1.base
      have hpn := h4.w.1.preN h4.w.2
      have hkx := htk
      rcases hnx : nxtR τ (1 + n) with _ | p
      · obtain ⟨g1, g2, g3, g4, g5, g6, g7⟩ := st_none h4 hnx
        have htk3 : isT (gN (nxtS τ (1 + n)) 12) := by rw [g3]; exact htk
        have hW9 : gN (wlk (1 + n) (gA τ 6 (1 + n)) (gA τ 7 (1 + n)) τ) 9 = gN τ 9 := by rw [← g1, tLeave_9, g4]
        have hWT : isT (gN (wlk (1 + n) (gA τ 6 (1 + n)) (gA τ 7 (1 + n)) τ) 12) := by rw [wlk_12]; exact htk
        rcases hon : ovr (nxtS τ (1 + n)) with _ | _
        · cases n with
          | zero =>
            refine V.iload_n X 0 dX8_bySteps_9 rfl rfl ?_
            refine V.ldc X dX8_bySteps_10 tw_553 ?_
            refine V.topi (y := nI 200000) (by decide) ?_
            refine V.icmp_geN X 42 dX8_bySteps_12 (by decide) (by omega) (by decide) (fun c12 => by exfalso; omega) (fun c12 => ?_)
            refine V.iload_n X 1 dX8_bySteps_15 rfl rfl ?_
            refine V.iconst X (v := nI 4) dX8_bySteps_16 (by decide) ?_
            refine V.icmp_eqN X 42 dX8_bySteps_17 (by decide) (by decide) (by decide) (fun c17 => by exfalso; omega) (fun c17 => ?_)
            refine V.aload_n X 2 dX8_bySteps_20 rfl rfl ?_
            refine Vg_c_15_task (x := gN (ee τ (1 + 0) y) 12) X tw_338 dX8_bySteps_21 rfl ?_
            refine Vg_over (x := gB (ee τ (1 + 0) y) (gN (ee τ (1 + 0) y) 12)) X tw_201 dX8_bySteps_24 rfl hkx ?_
            refine V.if_neB X 42 dX8_bySteps_27 (by decide) (fun c27 => by exfalso; rw [show gB (ee τ (1 + 0) y) (gN (ee τ (1 + 0) y) 12) = false from hov] at c27; cases c27) (fun c27 => ?_)
            refine V.aload_n X 2 dX8_bySteps_30 rfl rfl ?_
            refine V.iload_n X 1 dX8_bySteps_31 rfl rfl ?_
            refine V.callV X rfl (w_take0 (zl Z) (zG Z) a (ee τ (1 + 0) y) (ee_preN hpn) (by intro p hq; have hq2 : nxtR τ (1 + 0) = some p := (ee_nxtR τ (1 + 0) y (1 + 0)).symm.trans hq; have := (st_some h4 hq2).2.1; omega)) cv_X8_116 rfl 15 rfl rfl (len hRf (by decide)) (len hRl (by decide)) hk0 ht0 [] rfl (Nat.le_of_ble_eq_true rfl) dX8_bySteps_32 ?_
            rintro _ _ ⟨rfl, rfl⟩
            refine V.eqs (st' := [.int (nI (if nxtR (ee τ (1 + 0) y) (gN (ee τ (1 + 0) y) 14) = none then 2 else 1))]) rfl ?_
            refine V.eqw (ws' := cw (zG Z) a (ee (nxtS τ (1 + 0)) (1 + 0) (-1))) (by show cw (zG Z) a (sI (nxtS (ee τ (1 + 0) y) (1 + 0)) 3 (oI (nxtR (ee τ (1 + 0) y) (1 + 0)))) = _; rw [ee_nxtS, ee_nxtR, hnx, ee_3]; rfl) ?_
            refine V.topi (y := nI 2) (congrArg nI (if_pos (by show nxtR (ee τ (1 + 0) y) (1 + 0) = none; rw [ee_nxtR]; exact hnx))) ?_
            refine V.istore_n X (lv' := [(1, .int (nI 2)), (2, .int (nI i)), (0, .ref (a 15))]) dX8_bySteps_35 rfl (ltn hn (by decide)) rfl ?_
            refine V.iinc X (v := nI (i + 1)) (lv' := [(2, .int (nI (i + 1))), (1, .int (nI 2)), (0, .ref (a 15))]) (k0 := 1) dX8_bySteps_36 rfl (inc_1 _) (ltn hn (by decide)) rfl ?_
            refine V.goto X 9 dX8_bySteps_39 (by decide) ?_
            refine V.iload_n X 0 dX8_bySteps_9 rfl rfl ?_
            refine V.ldc X dX8_bySteps_10 tw_553 ?_
            refine V.topi (y := nI 200000) (by decide) ?_
            refine V.icmp_geN X 42 dX8_bySteps_12 (by decide) (by omega) (by decide) (fun c12 => by exfalso; omega) (fun c12 => ?_)
            refine V.iload_n X 1 dX8_bySteps_15 rfl rfl ?_
            refine V.iconst X (v := nI 4) dX8_bySteps_16 (by decide) ?_
            refine V.icmp_eqN X 42 dX8_bySteps_17 (by decide) (by decide) (by decide) (fun c17 => by exfalso; omega) (fun c17 => ?_)
            refine V.aload_n X 2 dX8_bySteps_20 rfl rfl ?_
            refine Vg_c_15_task (x := gN (ee (nxtS τ (1 + 0)) (1 + 0) (-1)) 12) X tw_338 dX8_bySteps_21 rfl ?_
            refine Vg_over (x := gB (ee (nxtS τ (1 + 0)) (1 + 0) (-1)) (gN (ee (nxtS τ (1 + 0)) (1 + 0) (-1)) 12)) X tw_201 dX8_bySteps_24 rfl htk3 ?_
            refine V.if_neB X 42 dX8_bySteps_27 (by decide) (fun c27 => by exfalso; rw [show gB (ee (nxtS τ (1 + 0)) (1 + 0) (-1)) (gN (ee (nxtS τ (1 + 0)) (1 + 0) (-1)) 12) = false from hon] at c27; cases c27) (fun c27 => ?_)
            refine V.aload_n X 2 dX8_bySteps_30 rfl rfl ?_
            refine V.iload_n X 1 dX8_bySteps_31 rfl rfl ?_
            refine V.callV X rfl (w_take2 (zl Z) (zG Z) a (ee (nxtS τ (1 + 0)) (1 + 0) (-1)) htk3 (by show 1 ≤ 1 + 0; omega) (by show 1 + 0 < 1501; omega) (ee_pL g2)) cv_X8_116 rfl 15 rfl rfl (len hRf (by decide)) (len hRl (by decide)) hk0 ht0 [] rfl (Nat.le_of_ble_eq_true rfl) dX8_bySteps_32 ?_
            rintro _ _ ⟨rfl, rfl⟩
            refine V.eqs (st' := [.int (nI (if gN (ee (nxtS τ (1 + 0)) (1 + 0) (-1)) 14 = 1 then 4 else 3))]) rfl ?_
            refine V.eqw (ws' := cw (zG Z) a (ee (wlk (1 + 0) (gA τ 6 (1 + 0)) (gA τ 7 (1 + 0)) τ) (1 + 0 - 1) (-1))) (by show cw (zG Z) a (sN (tLeave (ee (nxtS τ (1 + 0)) (1 + 0) (-1)) (1 + 0) (gA (nxtS τ (1 + 0)) 6 (1 + 0))) 14 (1 + 0 - 1)) = _; rw [ee_tLeave, ee_14]; exact congrArg (fun q => cw (zG Z) a (ee q _ _)) g1) ?_
            refine V.topi (y := nI 4) (congrArg nI (if_pos (by show 1 + 0 = 1; rfl))) ?_
            refine V.istore_n X (lv' := [(1, .int (nI 4)), (2, .int (nI (i + 1))), (0, .ref (a 15))]) dX8_bySteps_35 rfl (ltn hn (by decide)) rfl ?_
            refine V.iinc X (v := nI ((i + 1) + 1)) (lv' := [(2, .int (nI ((i + 1) + 1))), (1, .int (nI 4)), (0, .ref (a 15))]) (k0 := 1) dX8_bySteps_36 rfl (inc_1 _) (ltn hn (by decide)) rfl ?_
            refine V.goto X 9 dX8_bySteps_39 (by decide) ?_
            refine V.iload_n X 0 dX8_bySteps_9 rfl rfl ?_
            refine V.ldc X dX8_bySteps_10 tw_553 ?_
            refine V.topi (y := nI 200000) (by decide) ?_
            refine V.icmp_geN X 42 dX8_bySteps_12 (by decide) (by omega) (by decide) (fun c12 => by exfalso; omega) (fun c12 => ?_)
            refine V.iload_n X 1 dX8_bySteps_15 rfl rfl ?_
            refine V.iconst X (v := nI 4) dX8_bySteps_16 (by decide) ?_
            refine V.icmp_eqN X 42 dX8_bySteps_17 (by decide) (by decide) (by decide) (fun c17 => ?_) (fun c17 => by exfalso; omega)
            exact V.vret X rfl hA hk ht hQ rfl dX8_bySteps_42 (⟨rfl, _, _, by rw [← h5]; rfl⟩)
          | succ n =>
            have hpd : pend (1 + n) (wlk (1 + (n + 1)) (gA τ 6 (1 + (n + 1))) (gA τ 7 (1 + (n + 1))) τ) := h4.2.2.1
            have how : ovr (wlk (1 + (n + 1)) (gA τ 6 (1 + (n + 1))) (gA τ 7 (1 + (n + 1))) τ) = false := by rw [g6]; exact hon
            refine V.iload_n X 0 dX8_bySteps_9 rfl rfl ?_
            refine V.ldc X dX8_bySteps_10 tw_553 ?_
            refine V.topi (y := nI 200000) (by decide) ?_
            refine V.icmp_geN X 42 dX8_bySteps_12 (by decide) (by omega) (by decide) (fun c12 => by exfalso; omega) (fun c12 => ?_)
            refine V.iload_n X 1 dX8_bySteps_15 rfl rfl ?_
            refine V.iconst X (v := nI 4) dX8_bySteps_16 (by decide) ?_
            refine V.icmp_eqN X 42 dX8_bySteps_17 (by decide) (by decide) (by decide) (fun c17 => by exfalso; omega) (fun c17 => ?_)
            refine V.aload_n X 2 dX8_bySteps_20 rfl rfl ?_
            refine Vg_c_15_task (x := gN (ee τ (1 + (n + 1)) y) 12) X tw_338 dX8_bySteps_21 rfl ?_
            refine Vg_over (x := gB (ee τ (1 + (n + 1)) y) (gN (ee τ (1 + (n + 1)) y) 12)) X tw_201 dX8_bySteps_24 rfl hkx ?_
            refine V.if_neB X 42 dX8_bySteps_27 (by decide) (fun c27 => by exfalso; rw [show gB (ee τ (1 + (n + 1)) y) (gN (ee τ (1 + (n + 1)) y) 12) = false from hov] at c27; cases c27) (fun c27 => ?_)
            refine V.aload_n X 2 dX8_bySteps_30 rfl rfl ?_
            refine V.iload_n X 1 dX8_bySteps_31 rfl rfl ?_
            refine V.callV X rfl (w_take0 (zl Z) (zG Z) a (ee τ (1 + (n + 1)) y) (ee_preN hpn) (by intro p hq; have hq2 : nxtR τ (1 + (n + 1)) = some p := (ee_nxtR τ (1 + (n + 1)) y (1 + (n + 1))).symm.trans hq; have := (st_some h4 hq2).2.1; omega)) cv_X8_116 rfl 15 rfl rfl (len hRf (by decide)) (len hRl (by decide)) hk0 ht0 [] rfl (Nat.le_of_ble_eq_true rfl) dX8_bySteps_32 ?_
            rintro _ _ ⟨rfl, rfl⟩
            refine V.eqs (st' := [.int (nI (if nxtR (ee τ (1 + (n + 1)) y) (gN (ee τ (1 + (n + 1)) y) 14) = none then 2 else 1))]) rfl ?_
            refine V.eqw (ws' := cw (zG Z) a (ee (nxtS τ (1 + (n + 1))) (1 + (n + 1)) (-1))) (by show cw (zG Z) a (sI (nxtS (ee τ (1 + (n + 1)) y) (1 + (n + 1))) 3 (oI (nxtR (ee τ (1 + (n + 1)) y) (1 + (n + 1))))) = _; rw [ee_nxtS, ee_nxtR, hnx, ee_3]; rfl) ?_
            refine V.topi (y := nI 2) (congrArg nI (if_pos (by show nxtR (ee τ (1 + (n + 1)) y) (1 + (n + 1)) = none; rw [ee_nxtR]; exact hnx))) ?_
            refine V.istore_n X (lv' := [(1, .int (nI 2)), (2, .int (nI i)), (0, .ref (a 15))]) dX8_bySteps_35 rfl (ltn hn (by decide)) rfl ?_
            refine V.iinc X (v := nI (i + 1)) (lv' := [(2, .int (nI (i + 1))), (1, .int (nI 2)), (0, .ref (a 15))]) (k0 := 1) dX8_bySteps_36 rfl (inc_1 _) (ltn hn (by decide)) rfl ?_
            refine V.goto X 9 dX8_bySteps_39 (by decide) ?_
            refine V.iload_n X 0 dX8_bySteps_9 rfl rfl ?_
            refine V.ldc X dX8_bySteps_10 tw_553 ?_
            refine V.topi (y := nI 200000) (by decide) ?_
            refine V.icmp_geN X 42 dX8_bySteps_12 (by decide) (by omega) (by decide) (fun c12 => by exfalso; omega) (fun c12 => ?_)
            refine V.iload_n X 1 dX8_bySteps_15 rfl rfl ?_
            refine V.iconst X (v := nI 4) dX8_bySteps_16 (by decide) ?_
            refine V.icmp_eqN X 42 dX8_bySteps_17 (by decide) (by decide) (by decide) (fun c17 => by exfalso; omega) (fun c17 => ?_)
            refine V.aload_n X 2 dX8_bySteps_20 rfl rfl ?_
            refine Vg_c_15_task (x := gN (ee (nxtS τ (1 + (n + 1))) (1 + (n + 1)) (-1)) 12) X tw_338 dX8_bySteps_21 rfl ?_
            refine Vg_over (x := gB (ee (nxtS τ (1 + (n + 1))) (1 + (n + 1)) (-1)) (gN (ee (nxtS τ (1 + (n + 1))) (1 + (n + 1)) (-1)) 12)) X tw_201 dX8_bySteps_24 rfl htk3 ?_
            refine V.if_neB X 42 dX8_bySteps_27 (by decide) (fun c27 => by exfalso; rw [show gB (ee (nxtS τ (1 + (n + 1))) (1 + (n + 1)) (-1)) (gN (ee (nxtS τ (1 + (n + 1))) (1 + (n + 1)) (-1)) 12) = false from hon] at c27; cases c27) (fun c27 => ?_)
            refine V.aload_n X 2 dX8_bySteps_30 rfl rfl ?_
            refine V.iload_n X 1 dX8_bySteps_31 rfl rfl ?_
            refine V.callV X rfl (w_take2 (zl Z) (zG Z) a (ee (nxtS τ (1 + (n + 1))) (1 + (n + 1)) (-1)) htk3 (by show 1 ≤ 1 + (n + 1); omega) (by show 1 + (n + 1) < 1501; omega) (ee_pL g2)) cv_X8_116 rfl 15 rfl rfl (len hRf (by decide)) (len hRl (by decide)) hk0 ht0 [] rfl (Nat.le_of_ble_eq_true rfl) dX8_bySteps_32 ?_
            rintro _ _ ⟨rfl, rfl⟩
            refine V.eqs (st' := [.int (nI (if gN (ee (nxtS τ (1 + (n + 1))) (1 + (n + 1)) (-1)) 14 = 1 then 4 else 3))]) rfl ?_
            refine V.eqw (ws' := cw (zG Z) a (ee (wlk (1 + (n + 1)) (gA τ 6 (1 + (n + 1))) (gA τ 7 (1 + (n + 1))) τ) (1 + (n + 1) - 1) (-1))) (by show cw (zG Z) a (sN (tLeave (ee (nxtS τ (1 + (n + 1))) (1 + (n + 1)) (-1)) (1 + (n + 1)) (gA (nxtS τ (1 + (n + 1))) 6 (1 + (n + 1)))) 14 (1 + (n + 1) - 1)) = _; rw [ee_tLeave, ee_14]; exact congrArg (fun q => cw (zG Z) a (ee q _ _)) g1) ?_
            refine V.topi (y := nI 3) (congrArg nI (if_neg (by show ¬ 1 + (n + 1) = 1; omega))) ?_
            refine V.eqw (ws' := cw (zG Z) a (ee (wlk (1 + (n + 1)) (gA τ 6 (1 + (n + 1))) (gA τ 7 (1 + (n + 1))) τ) (1 + n) (-1))) (by rw [show 1 + (n + 1) - 1 = 1 + n by omega]) ?_
            refine V.istore_n X (lv' := [(1, .int (nI 3)), (2, .int (nI (i + 1))), (0, .ref (a 15))]) dX8_bySteps_35 rfl (ltn hn (by decide)) rfl ?_
            refine V.iinc X (v := nI ((i + 1) + 1)) (lv' := [(2, .int (nI ((i + 1) + 1))), (1, .int (nI 3)), (0, .ref (a 15))]) (k0 := 1) dX8_bySteps_36 rfl (inc_1 _) (ltn hn (by decide)) rfl ?_
            refine V.goto X 9 dX8_bySteps_39 (by decide) ?_
            refine V.iload_n X 0 dX8_bySteps_9 rfl rfl ?_
            refine V.ldc X dX8_bySteps_10 tw_553 ?_
            refine V.topi (y := nI 200000) (by decide) ?_
            refine V.icmp_geN X 42 dX8_bySteps_12 (by decide) (by omega) (by decide) (fun c12 => by exfalso; omega) (fun c12 => ?_)
            refine V.iload_n X 1 dX8_bySteps_15 rfl rfl ?_
            refine V.iconst X (v := nI 4) dX8_bySteps_16 (by decide) ?_
            refine V.icmp_eqN X 42 dX8_bySteps_17 (by decide) (by decide) (by decide) (fun c17 => by exfalso; omega) (fun c17 => ?_)
            refine V.aload_n X 2 dX8_bySteps_20 rfl rfl ?_
            refine Vg_c_15_task (x := gN (ee (wlk (1 + (n + 1)) (gA τ 6 (1 + (n + 1))) (gA τ 7 (1 + (n + 1))) τ) (1 + n) (-1)) 12) X tw_338 dX8_bySteps_21 rfl ?_
            refine Vg_over (x := gB (ee (wlk (1 + (n + 1)) (gA τ 6 (1 + (n + 1))) (gA τ 7 (1 + (n + 1))) τ) (1 + n) (-1)) (gN (ee (wlk (1 + (n + 1)) (gA τ 6 (1 + (n + 1))) (gA τ 7 (1 + (n + 1))) τ) (1 + n) (-1)) 12)) X tw_201 dX8_bySteps_24 rfl hWT ?_
            refine V.if_neB X 42 dX8_bySteps_27 (by decide) (fun c27 => by exfalso; rw [show gB (ee (wlk (1 + (n + 1)) (gA τ 6 (1 + (n + 1))) (gA τ 7 (1 + (n + 1))) τ) (1 + n) (-1)) (gN (ee (wlk (1 + (n + 1)) (gA τ 6 (1 + (n + 1))) (gA τ 7 (1 + (n + 1))) τ) (1 + n) (-1)) 12) = false from how] at c27; cases c27) (fun c27 => ?_)
            refine V.aload_n X 2 dX8_bySteps_30 rfl rfl ?_
            refine V.iload_n X 1 dX8_bySteps_31 rfl rfl ?_
            refine V.callV X rfl (w_take3 (zl Z) (zG Z) a (ee (wlk (1 + (n + 1)) (gA τ 6 (1 + (n + 1))) (gA τ 7 (1 + (n + 1))) τ) (1 + n) (-1)) hWT (by show 1 + n < 1501; omega) (by show 1 ≤ gA (wlk (1 + (n + 1)) (gA τ 6 (1 + (n + 1))) (gA τ 7 (1 + (n + 1))) τ) 7 (1 + n); exact hpd.2.1) (ee_pT hpd.1)) cv_X8_116 rfl 15 rfl rfl (len hRf (by decide)) (len hRl (by decide)) hk0 ht0 [] rfl (Nat.le_of_ble_eq_true rfl) dX8_bySteps_32 ?_
            rintro _ _ ⟨rfl, rfl⟩
            refine V.eqs (st' := [.int (nI 0)]) rfl ?_
            refine V.eqw (ws' := cw (zG Z) a (ee (tTake (wlk (1 + (n + 1)) (gA τ 6 (1 + (n + 1))) (gA τ 7 (1 + (n + 1))) τ) (1 + n) (gA (wlk (1 + (n + 1)) (gA τ 6 (1 + (n + 1))) (gA τ 7 (1 + (n + 1))) τ) 6 (1 + n)) (gA (wlk (1 + (n + 1)) (gA τ 6 (1 + (n + 1))) (gA τ 7 (1 + (n + 1))) τ) 7 (1 + n) - 1)) (1 + n) (-1))) (by show cw (zG Z) a (tTake (ee (wlk (1 + (n + 1)) (gA τ 6 (1 + (n + 1))) (gA τ 7 (1 + (n + 1))) τ) (1 + n) (-1)) (1 + n) (gA (wlk (1 + (n + 1)) (gA τ 6 (1 + (n + 1))) (gA τ 7 (1 + (n + 1))) τ) 6 (1 + n)) (gA (wlk (1 + (n + 1)) (gA τ 6 (1 + (n + 1))) (gA τ 7 (1 + (n + 1))) τ) 7 (1 + n) - 1)) = _; rw [ee_tTake]) ?_
            refine V.istore_n X (lv' := [(1, .int (nI 0)), (2, .int (nI ((i + 1) + 1))), (0, .ref (a 15))]) dX8_bySteps_35 rfl (ltn hn (by decide)) rfl ?_
            refine V.iinc X (v := nI (((i + 1) + 1) + 1)) (lv' := [(2, .int (nI (((i + 1) + 1) + 1))), (1, .int (nI 0)), (0, .ref (a 15))]) (k0 := 1) dX8_bySteps_36 rfl (inc_1 _) (ltn hn (by decide)) rfl ?_
            refine V.goto X 9 dX8_bySteps_39 (by decide) ?_
            exact V.sub [0, 1, 2] rfl (ih (m - 3) (by omega) (i + 1 + 1 + 1) n _ _ (by omega) (by rw [tTake_9, hW9]; omega) (by rw [tTake_9, hW9]; exact h3) (h4.2.2.2 how) (by rw [← h5]; exact (if_neg (fun q => absurd (q.symm.trans how) (by decide))).symm))
        · have hF : resS 1 n τ = (nxtS τ (1 + n)) := by
            have hw := g7 hon
            have how : ovr (wlk (1 + n) (gA τ 6 (1 + n)) (gA τ 7 (1 + n)) τ) = true := by rw [g6]; exact hon
            cases n with
            | zero => exact hw
            | succ n => simp only [resS]; rw [show 1 + (n + 1) = 1 + n + 1 from rfl] at hw how; rw [if_pos how, hw]; rfl
          refine V.iload_n X 0 dX8_bySteps_9 rfl rfl ?_
          refine V.ldc X dX8_bySteps_10 tw_553 ?_
          refine V.topi (y := nI 200000) (by decide) ?_
          refine V.icmp_geN X 42 dX8_bySteps_12 (by decide) (by omega) (by decide) (fun c12 => by exfalso; omega) (fun c12 => ?_)
          refine V.iload_n X 1 dX8_bySteps_15 rfl rfl ?_
          refine V.iconst X (v := nI 4) dX8_bySteps_16 (by decide) ?_
          refine V.icmp_eqN X 42 dX8_bySteps_17 (by decide) (by decide) (by decide) (fun c17 => by exfalso; omega) (fun c17 => ?_)
          refine V.aload_n X 2 dX8_bySteps_20 rfl rfl ?_
          refine Vg_c_15_task (x := gN (ee τ (1 + n) y) 12) X tw_338 dX8_bySteps_21 rfl ?_
          refine Vg_over (x := gB (ee τ (1 + n) y) (gN (ee τ (1 + n) y) 12)) X tw_201 dX8_bySteps_24 rfl hkx ?_
          refine V.if_neB X 42 dX8_bySteps_27 (by decide) (fun c27 => by exfalso; rw [show gB (ee τ (1 + n) y) (gN (ee τ (1 + n) y) 12) = false from hov] at c27; cases c27) (fun c27 => ?_)
          refine V.aload_n X 2 dX8_bySteps_30 rfl rfl ?_
          refine V.iload_n X 1 dX8_bySteps_31 rfl rfl ?_
          refine V.callV X rfl (w_take0 (zl Z) (zG Z) a (ee τ (1 + n) y) (ee_preN hpn) (by intro p hq; have hq2 : nxtR τ (1 + n) = some p := (ee_nxtR τ (1 + n) y (1 + n)).symm.trans hq; have := (st_some h4 hq2).2.1; omega)) cv_X8_116 rfl 15 rfl rfl (len hRf (by decide)) (len hRl (by decide)) hk0 ht0 [] rfl (Nat.le_of_ble_eq_true rfl) dX8_bySteps_32 ?_
          rintro _ _ ⟨rfl, rfl⟩
          refine V.eqs (st' := [.int (nI (if nxtR (ee τ (1 + n) y) (gN (ee τ (1 + n) y) 14) = none then 2 else 1))]) rfl ?_
          refine V.eqw (ws' := cw (zG Z) a (ee (nxtS τ (1 + n)) (1 + n) (-1))) (by show cw (zG Z) a (sI (nxtS (ee τ (1 + n) y) (1 + n)) 3 (oI (nxtR (ee τ (1 + n) y) (1 + n)))) = _; rw [ee_nxtS, ee_nxtR, hnx, ee_3]; rfl) ?_
          refine V.topi (y := nI 2) (congrArg nI (if_pos (by show nxtR (ee τ (1 + n) y) (1 + n) = none; rw [ee_nxtR]; exact hnx))) ?_
          refine V.istore_n X (lv' := [(1, .int (nI 2)), (2, .int (nI i)), (0, .ref (a 15))]) dX8_bySteps_35 rfl (ltn hn (by decide)) rfl ?_
          refine V.iinc X (v := nI (i + 1)) (lv' := [(2, .int (nI (i + 1))), (1, .int (nI 2)), (0, .ref (a 15))]) (k0 := 1) dX8_bySteps_36 rfl (inc_1 _) (ltn hn (by decide)) rfl ?_
          refine V.goto X 9 dX8_bySteps_39 (by decide) ?_
          refine V.iload_n X 0 dX8_bySteps_9 rfl rfl ?_
          refine V.ldc X dX8_bySteps_10 tw_553 ?_
          refine V.topi (y := nI 200000) (by decide) ?_
          refine V.icmp_geN X 42 dX8_bySteps_12 (by decide) (by omega) (by decide) (fun c12 => by exfalso; omega) (fun c12 => ?_)
          refine V.iload_n X 1 dX8_bySteps_15 rfl rfl ?_
          refine V.iconst X (v := nI 4) dX8_bySteps_16 (by decide) ?_
          refine V.icmp_eqN X 42 dX8_bySteps_17 (by decide) (by decide) (by decide) (fun c17 => by exfalso; omega) (fun c17 => ?_)
          refine V.aload_n X 2 dX8_bySteps_20 rfl rfl ?_
          refine Vg_c_15_task (x := gN (ee (nxtS τ (1 + n)) (1 + n) (-1)) 12) X tw_338 dX8_bySteps_21 rfl ?_
          refine Vg_over (x := gB (ee (nxtS τ (1 + n)) (1 + n) (-1)) (gN (ee (nxtS τ (1 + n)) (1 + n) (-1)) 12)) X tw_201 dX8_bySteps_24 rfl htk3 ?_
          refine V.if_neB X 42 dX8_bySteps_27 (by decide) (fun c27 => ?_) (fun c27 => by exfalso; rw [show gB (ee (nxtS τ (1 + n)) (1 + n) (-1)) (gN (ee (nxtS τ (1 + n)) (1 + n) (-1)) 12) = true from hon] at c27; cases c27)
          exact V.vret X rfl hA hk ht hQ rfl dX8_bySteps_42 (⟨rfl, _, _, by rw [← h5, hF]⟩)
      · obtain ⟨g1, g2, g3, g4, g5, g6⟩ := st_some h4 hnx
        have htk3 : isT (gN (nxtS τ (1 + n)) 12) := by rw [g4]; exact htk
        have hon : ovr (nxtS τ (1 + n)) = false := st_some_ovr h4 hnx
        refine V.iload_n X 0 dX8_bySteps_9 rfl rfl ?_
        refine V.ldc X dX8_bySteps_10 tw_553 ?_
        refine V.topi (y := nI 200000) (by decide) ?_
        refine V.icmp_geN X 42 dX8_bySteps_12 (by decide) (by omega) (by decide) (fun c12 => by exfalso; omega) (fun c12 => ?_)
        refine V.iload_n X 1 dX8_bySteps_15 rfl rfl ?_
        refine V.iconst X (v := nI 4) dX8_bySteps_16 (by decide) ?_
        refine V.icmp_eqN X 42 dX8_bySteps_17 (by decide) (by decide) (by decide) (fun c17 => by exfalso; omega) (fun c17 => ?_)
        refine V.aload_n X 2 dX8_bySteps_20 rfl rfl ?_
        refine Vg_c_15_task (x := gN (ee τ (1 + n) y) 12) X tw_338 dX8_bySteps_21 rfl ?_
        refine Vg_over (x := gB (ee τ (1 + n) y) (gN (ee τ (1 + n) y) 12)) X tw_201 dX8_bySteps_24 rfl hkx ?_
        refine V.if_neB X 42 dX8_bySteps_27 (by decide) (fun c27 => by exfalso; rw [show gB (ee τ (1 + n) y) (gN (ee τ (1 + n) y) 12) = false from hov] at c27; cases c27) (fun c27 => ?_)
        refine V.aload_n X 2 dX8_bySteps_30 rfl rfl ?_
        refine V.iload_n X 1 dX8_bySteps_31 rfl rfl ?_
        refine V.callV X rfl (w_take0 (zl Z) (zG Z) a (ee τ (1 + n) y) (ee_preN hpn) (by intro p hq; have hq2 : nxtR τ (1 + n) = some p := (ee_nxtR τ (1 + n) y (1 + n)).symm.trans hq; have := (st_some h4 hq2).2.1; omega)) cv_X8_116 rfl 15 rfl rfl (len hRf (by decide)) (len hRl (by decide)) hk0 ht0 [] rfl (Nat.le_of_ble_eq_true rfl) dX8_bySteps_32 ?_
        rintro _ _ ⟨rfl, rfl⟩
        refine V.eqs (st' := [.int (nI (if nxtR (ee τ (1 + n) y) (gN (ee τ (1 + n) y) 14) = none then 2 else 1))]) rfl ?_
        refine V.eqw (ws' := cw (zG Z) a (ee (nxtS τ (1 + n)) (1 + n) (nI p))) (by show cw (zG Z) a (sI (nxtS (ee τ (1 + n) y) (1 + n)) 3 (oI (nxtR (ee τ (1 + n) y) (1 + n)))) = _; rw [ee_nxtS, ee_nxtR, hnx, ee_3]; rfl) ?_
        refine V.topi (y := nI 1) (congrArg nI (if_neg (by show ¬ nxtR (ee τ (1 + n) y) (1 + n) = none; rw [ee_nxtR, hnx]; exact fun q => by cases q))) ?_
        refine V.istore_n X (lv' := [(1, .int (nI 1)), (2, .int (nI i)), (0, .ref (a 15))]) dX8_bySteps_35 rfl (ltn hn (by decide)) rfl ?_
        refine V.iinc X (v := nI (i + 1)) (lv' := [(2, .int (nI (i + 1))), (1, .int (nI 1)), (0, .ref (a 15))]) (k0 := 1) dX8_bySteps_36 rfl (inc_1 _) (ltn hn (by decide)) rfl ?_
        refine V.goto X 9 dX8_bySteps_39 (by decide) ?_
        refine V.iload_n X 0 dX8_bySteps_9 rfl rfl ?_
        refine V.ldc X dX8_bySteps_10 tw_553 ?_
        refine V.topi (y := nI 200000) (by decide) ?_
        refine V.icmp_geN X 42 dX8_bySteps_12 (by decide) (by omega) (by decide) (fun c12 => by exfalso; omega) (fun c12 => ?_)
        refine V.iload_n X 1 dX8_bySteps_15 rfl rfl ?_
        refine V.iconst X (v := nI 4) dX8_bySteps_16 (by decide) ?_
        refine V.icmp_eqN X 42 dX8_bySteps_17 (by decide) (by decide) (by decide) (fun c17 => by exfalso; omega) (fun c17 => ?_)
        refine V.aload_n X 2 dX8_bySteps_20 rfl rfl ?_
        refine Vg_c_15_task (x := gN (ee (nxtS τ (1 + n)) (1 + n) (nI p)) 12) X tw_338 dX8_bySteps_21 rfl ?_
        refine Vg_over (x := gB (ee (nxtS τ (1 + n)) (1 + n) (nI p)) (gN (ee (nxtS τ (1 + n)) (1 + n) (nI p)) 12)) X tw_201 dX8_bySteps_24 rfl htk3 ?_
        refine V.if_neB X 42 dX8_bySteps_27 (by decide) (fun c27 => by exfalso; rw [show gB (ee (nxtS τ (1 + n)) (1 + n) (nI p)) (gN (ee (nxtS τ (1 + n)) (1 + n) (nI p)) 12) = false from hon] at c27; cases c27) (fun c27 => ?_)
        refine V.aload_n X 2 dX8_bySteps_30 rfl rfl ?_
        refine V.iload_n X 1 dX8_bySteps_31 rfl rfl ?_
        refine V.callV X rfl (w_take1 (zl Z) (zG Z) a (ee (nxtS τ (1 + n)) (1 + n) (nI p)) p rfl (by show preV (sN (ee (nxtS τ (1 + n)) (1 + n) (nI p)) 14 (1 + n + 1)) (1 + n + 1) p; rw [ee_14]; exact ee_preV g1)) cv_X8_116 rfl 15 rfl rfl (len hRf (by decide)) (len hRl (by decide)) hk0 ht0 [] rfl (Nat.le_of_ble_eq_true rfl) dX8_bySteps_32 ?_
        rintro _ _ ⟨rfl, rfl⟩
        refine V.eqs (st' := [.int (nI 0)]) rfl ?_
        refine V.eqw (ws' := cw (zG Z) a (ee (visS (nxtS τ (1 + n)) (1 + n + 1) p) (1 + n + 1) (nI p))) (by show cw (zG Z) a (visS (sN (ee (nxtS τ (1 + n)) (1 + n) (nI p)) 14 (1 + n + 1)) (1 + n + 1) p) = _; rw [ee_14, ee_visS]) ?_
        refine V.istore_n X (lv' := [(1, .int (nI 0)), (2, .int (nI (i + 1))), (0, .ref (a 15))]) dX8_bySteps_35 rfl (ltn hn (by decide)) rfl ?_
        refine V.iinc X (v := nI ((i + 1) + 1)) (lv' := [(2, .int (nI ((i + 1) + 1))), (1, .int (nI 0)), (0, .ref (a 15))]) (k0 := 1) dX8_bySteps_36 rfl (inc_1 _) (ltn hn (by decide)) rfl ?_
        refine V.goto X 9 dX8_bySteps_39 (by decide) ?_
        rcases ho : ovr (visS (nxtS τ (1 + n)) (1 + n + 1) p) with _ | _
        · exact V.sub [0, 1, 2] rfl (ih (m - 2) (by omega) (i + 1 + 1) (n + 1) (visS (nxtS τ (1 + n)) (1 + n + 1) p) _ (by omega) (by have := visS_9 ho; omega) (by have := visS_9 ho; omega) (g6 ho).2 (by rw [← h5]; exact (g6 ho).1.symm))
        · have htk4 : isT (gN (visS (nxtS τ (1 + n)) (1 + n + 1) p) 12) := by rw [visS_12]; exact htk3
          exact V.sub [0, 1, 2] rfl (LE (i + 1 + 1) _ _ (visS (nxtS τ (1 + n)) (1 + n + 1) p) (by omega) ho htk4 (by rw [← h5]; exact (g5 ho).symm))
  refine V.aload_n X 0 dX8_bySteps_0 rfl rfl ?_
  refine V.iconst X (v := nI 1) dX8_bySteps_1 (by decide) ?_
  refine Vp_c_15_level (x := 1) X tw_340 dX8_bySteps_2 ?_
  refine V.iconst X (v := nI 0) dX8_bySteps_5 (by decide) ?_
  refine V.istore_n X (lv' := [(1, .int (nI 0)), (0, .ref (a 15))]) dX8_bySteps_6 rfl (ltn hn (by decide)) rfl ?_
  refine V.iconst X (v := nI 0) dX8_bySteps_7 (by decide) ?_
  refine V.istore_n X (lv' := [(2, .int (nI 0)), (1, .int (nI 0)), (0, .ref (a 15))]) dX8_bySteps_8 rfl (ltn hn (by decide)) rfl ?_
  refine V.eqw (ws' := cw (zG Z) a (ee σ (1 + 0) (gI σ 3))) (by rw [← ee_self]) ?_
  exact V.sub [0, 1, 2] rfl (LP 200000 0 0 σ (gI σ 3) (by omega) (by omega) hv hok rfl)

