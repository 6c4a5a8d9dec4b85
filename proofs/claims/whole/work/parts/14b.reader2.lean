def snS (σ : St) : St := sI (sN σ 5 (if isFg (patA σ (snI σ)) = true ∧ ¬ (snM σ = true ∧ patA σ (snI σ) = some 48) then (if numIn (snM σ) (fgW σ (snI σ)) = true then fgE σ (snI σ) else gN σ 5) else snI σ)) 1 (if (isFg (patA σ (snI σ)) = true ∧ ¬ (snM σ = true ∧ patA σ (snI σ) = some 48)) ∧ numIn (snM σ) (fgW σ (snI σ)) = true then (sgL (snM σ) (fgW σ (snI σ))).toInt32 else gI σ 1)
def snOK (σ : St) : Bool := isFg (patA σ (snI σ)) && !(snM σ && decide (patA σ (snI σ) = some 48)) && numIn (snM σ) (fgW σ (snI σ))
theorem fgW_sN (σ : St) (x i : Nat) : fgW (sN σ 5 x) i = fgW σ i := by
  have h1 : ∀ j, patA (sN σ 5 x) j = patA σ j := fun j => rfl
  have h2 : ∀ (f j : Nat), fgN (sN σ 5 x) f j = fgN σ f j := by
    intro f; induction f with
    | zero => intro j; rfl
    | succ f ih => intro j; simp only [fgN, h1, ih]
  have h3 : ∀ (n : Nat), fgV (sN σ 5 x) i n = fgV σ i n := by
    intro n; induction n with
    | zero => rfl
    | succ n ih => simp only [fgV, ih]; rfl
  simp only [fgW, h1, h2, h3]
theorem fgE_sN (σ : St) (x i : Nat) : fgE (sN σ 5 x) i = fgE σ i := by
  have h1 : ∀ j, patA (sN σ 5 x) j = patA σ j := fun j => rfl
  have h2 : ∀ (f j : Nat), fgN (sN σ 5 x) f j = fgN σ f j := by
    intro f; induction f with
    | zero => intro j; rfl
    | succ f ih => intro j; simp only [fgN, h1, ih]
  simp only [fgE, h1, h2]

theorem snM_lt {σ : St} (h : snM σ = true) : gN σ 5 < gN σ 2 := by
  simp only [snM, decide_eq_true_eq, patA] at h
  split at h
  · assumption
  · cases h
theorem snI_le {σ : St} (h1 : gN σ 2 ≤ 6000) (h5 : gN σ 5 ≤ 6000) : snI σ ≤ 6000 := by
  simp only [snI]
  by_cases hq : snM σ = true
  · rw [if_pos hq]; have := snM_lt hq; omega
  · rw [if_neg hq]; omega
theorem snOK_x {σ : St} (h : ¬ (isFg (patA σ (snI σ)) = true ∧ ¬ (snM σ = true ∧ patA σ (snI σ) = some 48))) : snOK σ = false := by
  simp only [snOK]
  cases h1 : isFg (patA σ (snI σ)) with
  | false => rfl
  | true =>
    have : snM σ = true ∧ patA σ (snI σ) = some 48 := Classical.byContradiction (fun q => h ⟨h1, q⟩)
    rw [this.1, this.2]; rfl
theorem snS_x {σ : St} (h : ¬ (isFg (patA σ (snI σ)) = true ∧ ¬ (snM σ = true ∧ patA σ (snI σ) = some 48))) : snS σ = sN σ 5 (snI σ) := by
  rw [snS, if_neg h, if_neg (fun q => h q.1)]
  exact sI_self (sN σ 5 (snI σ)) 1
theorem snOK_t {σ : St} (h : isFg (patA σ (snI σ)) = true ∧ ¬ (snM σ = true ∧ patA σ (snI σ) = some 48)) (hn : numIn (snM σ) (fgW σ (snI σ)) = true) : snOK σ = true := by
  simp only [snOK, hn, h.1]
  have : (snM σ && decide (patA σ (snI σ) = some 48)) = false := by
    cases h1 : snM σ with
    | false => rfl
    | true => simp only [Bool.true_and, decide_eq_false_iff_not]; exact fun q => h.2 ⟨h1, q⟩
  rw [this]; rfl
theorem snOK_f {σ : St} (hn : numIn (snM σ) (fgW σ (snI σ)) = false) : snOK σ = false := by simp only [snOK, hn, Bool.and_false]
theorem snS_t {σ : St} (h : isFg (patA σ (snI σ)) = true ∧ ¬ (snM σ = true ∧ patA σ (snI σ) = some 48)) (hn : numIn (snM σ) (fgW σ (snI σ)) = true) : snS σ = sI (sN σ 5 (fgE σ (snI σ))) 1 ((sgL (snM σ) (fgW σ (snI σ))).toInt32) := by
  rw [snS, if_pos h, if_pos hn, if_pos ⟨h, hn⟩]
theorem snS_f {σ : St} (h : isFg (patA σ (snI σ)) = true ∧ ¬ (snM σ = true ∧ patA σ (snI σ) = some 48)) (hn : numIn (snM σ) (fgW σ (snI σ)) = false) : snS σ = sN σ 5 (gN σ 5) := by
  rw [snS, if_pos h, if_neg (by rw [hn]; decide), if_neg (fun q => by rw [hn] at q; cases q.2)]
  exact sI_self (sN σ 5 (gN σ 5)) 1

set_option maxHeartbeats 4000000 in
set_option maxRecDepth 100000 in
theorem r_scanNumber (l : Launch) (G : Gx) (a : Nat → Nat) (σ : St) (hr : rdOK σ) (h5 : gN σ 5 ≤ 6000) : MM l G ⟨"NestedDeeds$Reader", "scanNumber", "()Z"⟩ prog_8_method_4_code 7 (some .boolean) 2 45 [.ref (a 11)] (cw G a σ) (fun rv w => rv = some (.int (bI (snOK σ))) ∧ w = cw G a (snS σ)) := by
  refine MM.of (lv := [(0, .ref (a 11))]) (by decide +kernel) rfl (Nat.le_of_ble_eq_true rfl) ?_
  intro Z hRf hRl hl hG hn hk ht hA hQ X
  subst hG hl
  have X : XC Z "NestedDeeds$Reader" prog_8_method_4_code (some .boolean) := X
  have hk0 : zk Z ≤ (zR Z).cells := hk ▸ Nat.zero_le _
  have ht0 : zt Z ≤ (zR Z).slots := ht ▸ Nat.zero_le _
  obtain ⟨hr1, hr2, hr3⟩ := hr
  have hI : snI σ ≤ 6000 := snI_le hr1 h5
  have J97 : isFg (patA σ (snI σ)) = true ∧ ¬ (snM σ = true ∧ patA σ (snI σ) = some 48) → V Z (cw (zG Z) a (sN (sN σ 5 (snI σ)) 5 (fgE σ (snI σ)))) [(5, .long (sgL (snM σ) (fgW σ (snI σ)))), (3, .long (lN (fgW σ (snI σ)))), (2, .int (bI (snM σ))), (1, .int (nI (gN σ 5))), (0, .ref (a 11))] 97 [] := by
    intro hx
    refine V.lload X 0 dX6_scanNumber_97 rfl ?_
    refine V.ldc2 X dX6_scanNumber_99 tw_798 ?_
    refine V.lif_lt X 115 dX6_scanNumber_102 dX6_scanNumber_103 (by decide) (fun c102 => ?_) (fun c102 => ?_)
    · refine V.aload_n X 4 dX6_scanNumber_115 rfl rfl ?_
      refine V.iload_n X 3 dX6_scanNumber_116 rfl rfl ?_
      refine Vp_c_11_at (x := gN σ 5) X tw_151 dX6_scanNumber_117 ?_
      refine V.iconst X (v := nI 0) dX6_scanNumber_120 (by decide) ?_
      refine V.topi (y := bI false) rfl ?_
      exact V.zret X rfl hA hk ht hQ rfl (bI_01 _) dX6_scanNumber_121 (⟨by have hnum : numIn (snM σ) (fgW σ (snI σ)) = false := decide_eq_false (fun q => q.1 c102); rw [snOK_f hnum], by have hnum : numIn (snM σ) (fgW σ (snI σ)) = false := decide_eq_false (fun q => q.1 c102); rw [snS_f hx hnum, sN_sN, sN_sN]⟩)
    · refine V.lload X 0 dX6_scanNumber_106 rfl ?_
      refine V.ldc2 X dX6_scanNumber_108 tw_799 ?_
      refine V.topl (y := lN 2147483647) (by decide) ?_
      refine V.lif_le X 122 dX6_scanNumber_111 dX6_scanNumber_112 (by decide) (fun c111 => ?_) (fun c111 => ?_)
      · refine V.aload_n X 4 dX6_scanNumber_122 rfl rfl ?_
        refine V.lload X 0 dX6_scanNumber_123 rfl ?_
        refine V.l2i X dX6_scanNumber_125 rfl ?_
        refine Vp_c_11_number (x := Int64.toInt32 (sgL (snM σ) (fgW σ (snI σ)))) X tw_153 dX6_scanNumber_126 ?_
        refine V.iconst X (v := nI 1) dX6_scanNumber_129 (by decide) ?_
        refine V.topi (y := bI true) rfl ?_
        exact V.zret X rfl hA hk ht hQ rfl (bI_01 _) dX6_scanNumber_130 (⟨by have hnum : numIn (snM σ) (fgW σ (snI σ)) = true := decide_eq_true ⟨c102, c111⟩; rw [snOK_t hx hnum], by have hnum : numIn (snM σ) (fgW σ (snI σ)) = true := decide_eq_true ⟨c102, c111⟩; rw [snS_t hx hnum, sN_sN]⟩)
      · refine V.aload_n X 4 dX6_scanNumber_115 rfl rfl ?_
        refine V.iload_n X 3 dX6_scanNumber_116 rfl rfl ?_
        refine Vp_c_11_at (x := gN σ 5) X tw_151 dX6_scanNumber_117 ?_
        refine V.iconst X (v := nI 0) dX6_scanNumber_120 (by decide) ?_
        refine V.topi (y := bI false) rfl ?_
        exact V.zret X rfl hA hk ht hQ rfl (bI_01 _) dX6_scanNumber_121 (⟨by have hnum : numIn (snM σ) (fgW σ (snI σ)) = false := decide_eq_false (fun q => c111 q.2); rw [snOK_f hnum], by have hnum : numIn (snM σ) (fgW σ (snI σ)) = false := decide_eq_false (fun q => c111 q.2); rw [snS_f hx hnum, sN_sN, sN_sN]⟩)
  have J41 : V Z (cw (zG Z) a (sN σ 5 (snI σ))) [(2, .int (bI (snM σ))), (1, .int (nI (gN σ 5))), (0, .ref (a 11))] 41 [] := by
    refine V.aload_n X 2 dX6_scanNumber_41 rfl rfl ?_
    refine Vg_c_11_paper X tw_146 dX6_scanNumber_42 ?_
    refine V.aload_n X 2 dX6_scanNumber_45 rfl rfl ?_
    refine Vg_c_11_at (x := snI σ) X tw_151 dX6_scanNumber_46 rfl ?_
    refine V.callV X rfl (c_atP (zl Z) (zG Z) a (sN σ 5 (snI σ)) (snI σ) (by omega) hr1 hr2) cv_X6_50 rfl 7 rfl rfl (len hRf (by decide)) (len hRl (by decide)) hk0 ht0 [] rfl (Nat.le_of_ble_eq_true rfl) dX6_scanNumber_49 ?_
    rintro _ _ ⟨rfl, rfl⟩
    refine V.eqs (st' := [.int (oI (patA σ (snI σ)))]) rfl ?_
    refine V.callS X rfl (k_isFigure (zl Z) (zG Z) (cw (zG Z) a (sN σ 5 (snI σ))) (patA σ (snI σ)) (patA_b hr2 _)) cs_X6_78 rfl (len hRf (by decide)) (len hRl (by decide)) hk0 ht0 [] rfl (Nat.le_of_ble_eq_true rfl) dX6_scanNumber_52 ?_
    rintro _ _ ⟨rfl, rfl⟩
    refine V.eqs (st' := [.int (bI (isFg (patA σ (snI σ))))]) rfl ?_
    refine V.if_eqB X 78 dX6_scanNumber_55 (by decide) (fun c55 => ?_) (fun c55 => ?_)
    · refine V.iconst X (v := nI 0) dX6_scanNumber_78 (by decide) ?_
      refine V.topi (y := bI false) rfl ?_
      exact V.zret X rfl hA hk ht hQ rfl (bI_01 _) dX6_scanNumber_79 (⟨by rw [snOK_x (fun q => by rw [q.1] at c55; cases c55)], by rw [snS_x (fun q => by rw [q.1] at c55; cases c55)]⟩)
    · refine V.iload_n X 0 dX6_scanNumber_58 rfl rfl ?_
      refine V.if_eqB X 80 dX6_scanNumber_59 (by decide) (fun c59 => ?_) (fun c59 => ?_)
      · have hx : isFg (patA σ (snI σ)) = true ∧ ¬ (snM σ = true ∧ patA σ (snI σ) = some 48) := ⟨c55, fun q => by rw [q.1] at c59; cases c59⟩
        refine V.aload_n X 2 dX6_scanNumber_80 rfl rfl ?_
        refine V.callV X rfl (r_scanFigures (zl Z) (zG Z) a (sN σ 5 (snI σ)) ⟨hr1, hr2, by show snI σ ≤ 6001; omega⟩ hI) cv_X6_81 rfl 11 rfl rfl (len hRf (by decide)) (len hRl (by decide)) hk0 ht0 [] rfl (Nat.le_of_ble_eq_true rfl) dX6_scanNumber_81 ?_
        rintro _ _ ⟨rfl, rfl⟩
        refine V.eqs (st' := [.long (lN (fgW (sN σ 5 (snI σ)) (gN (sN σ 5 (snI σ)) 5)))]) rfl ?_
        refine V.topl (y := lN (fgW σ (snI σ))) (by show lN (fgW (sN σ 5 (snI σ)) (snI σ)) = _; rw [fgW_sN]) ?_
        refine V.eqw (ws' := cw (zG Z) a (sN (sN σ 5 (snI σ)) 5 (fgE σ (snI σ)))) (by show cw (zG Z) a (sN (sN σ 5 (snI σ)) 5 (fgE (sN σ 5 (snI σ)) (snI σ))) = _; rw [fgE_sN]) ?_
        refine V.lstore_n X (lv' := [(3, .long (lN (fgW σ (snI σ)))), (2, .int (bI (snM σ))), (1, .int (nI (gN σ 5))), (0, .ref (a 11))]) dX6_scanNumber_84 rfl (ltn hn (by decide)) rfl ?_
        refine V.iload_n X 1 dX6_scanNumber_85 rfl rfl ?_
        refine V.if_eqB X 94 dX6_scanNumber_86 (by decide) (fun c86 => ?_) (fun c86 => ?_)
        · refine V.lload_n X 0 dX6_scanNumber_94 rfl rfl ?_
          refine V.lstore X (lv' := [(5, .long (lN (fgW σ (snI σ)))), (3, .long (lN (fgW σ (snI σ)))), (2, .int (bI (snM σ))), (1, .int (nI (gN σ 5))), (0, .ref (a 11))]) dX6_scanNumber_95 (ltn hn (by decide)) rfl ?_
          refine V.eql (lv' := [(5, .long (sgL (snM σ) (fgW σ (snI σ)))), (3, .long (lN (fgW σ (snI σ)))), (2, .int (bI (snM σ))), (1, .int (nI (gN σ 5))), (0, .ref (a 11))]) (by rw [sgL, if_neg (by rw [c86]; decide)]) ?_
          exact V.sub [0, 1, 2, 3, 4] rfl (J97 hx)
        · refine V.lload_n X 0 dX6_scanNumber_89 rfl rfl ?_
          refine V.lneg X dX6_scanNumber_90 ?_
          refine V.goto X 95 dX6_scanNumber_91 (by decide) ?_
          refine V.lstore X (lv' := [(5, .long (-(lN (fgW σ (snI σ))))), (3, .long (lN (fgW σ (snI σ)))), (2, .int (bI (snM σ))), (1, .int (nI (gN σ 5))), (0, .ref (a 11))]) dX6_scanNumber_95 (ltn hn (by decide)) rfl ?_
          refine V.eql (lv' := [(5, .long (sgL (snM σ) (fgW σ (snI σ)))), (3, .long (lN (fgW σ (snI σ)))), (2, .int (bI (snM σ))), (1, .int (nI (gN σ 5))), (0, .ref (a 11))]) (by rw [sgL, if_pos c86]) ?_
          exact V.sub [0, 1, 2, 3, 4] rfl (J97 hx)
      · refine V.aload_n X 2 dX6_scanNumber_62 rfl rfl ?_
        refine Vg_c_11_paper X tw_146 dX6_scanNumber_63 ?_
        refine V.aload_n X 2 dX6_scanNumber_66 rfl rfl ?_
        refine Vg_c_11_at (x := snI σ) X tw_151 dX6_scanNumber_67 rfl ?_
        refine V.callV X rfl (c_atP (zl Z) (zG Z) a (sN σ 5 (snI σ)) (snI σ) (by omega) hr1 hr2) cv_X6_50 rfl 7 rfl rfl (len hRf (by decide)) (len hRl (by decide)) hk0 ht0 [] rfl (Nat.le_of_ble_eq_true rfl) dX6_scanNumber_70 ?_
        rintro _ _ ⟨rfl, rfl⟩
        refine V.eqs (st' := [.int (oI (patA σ (snI σ)))]) rfl ?_
        refine V.bipush X (v := nI 48) dX6_scanNumber_73 (by decide) ?_
        refine V.icmp_ne X 80 dX6_scanNumber_75 (by decide) (fun c75 => ?_) (fun c75 => ?_)
        · have hx : isFg (patA σ (snI σ)) = true ∧ ¬ (snM σ = true ∧ patA σ (snI σ) = some 48) := ⟨c55, fun q => c75 ((oI_inj (patA_lt hr2 _) (by decide)).mpr q.2)⟩
          refine V.aload_n X 2 dX6_scanNumber_80 rfl rfl ?_
          refine V.callV X rfl (r_scanFigures (zl Z) (zG Z) a (sN σ 5 (snI σ)) ⟨hr1, hr2, by show snI σ ≤ 6001; omega⟩ hI) cv_X6_81 rfl 11 rfl rfl (len hRf (by decide)) (len hRl (by decide)) hk0 ht0 [] rfl (Nat.le_of_ble_eq_true rfl) dX6_scanNumber_81 ?_
          rintro _ _ ⟨rfl, rfl⟩
          refine V.eqs (st' := [.long (lN (fgW (sN σ 5 (snI σ)) (gN (sN σ 5 (snI σ)) 5)))]) rfl ?_
          refine V.topl (y := lN (fgW σ (snI σ))) (by show lN (fgW (sN σ 5 (snI σ)) (snI σ)) = _; rw [fgW_sN]) ?_
          refine V.eqw (ws' := cw (zG Z) a (sN (sN σ 5 (snI σ)) 5 (fgE σ (snI σ)))) (by show cw (zG Z) a (sN (sN σ 5 (snI σ)) 5 (fgE (sN σ 5 (snI σ)) (snI σ))) = _; rw [fgE_sN]) ?_
          refine V.lstore_n X (lv' := [(3, .long (lN (fgW σ (snI σ)))), (2, .int (bI (snM σ))), (1, .int (nI (gN σ 5))), (0, .ref (a 11))]) dX6_scanNumber_84 rfl (ltn hn (by decide)) rfl ?_
          refine V.iload_n X 1 dX6_scanNumber_85 rfl rfl ?_
          refine V.if_eqB X 94 dX6_scanNumber_86 (by decide) (fun c86 => ?_) (fun c86 => ?_)
          · refine V.lload_n X 0 dX6_scanNumber_94 rfl rfl ?_
            refine V.lstore X (lv' := [(5, .long (lN (fgW σ (snI σ)))), (3, .long (lN (fgW σ (snI σ)))), (2, .int (bI (snM σ))), (1, .int (nI (gN σ 5))), (0, .ref (a 11))]) dX6_scanNumber_95 (ltn hn (by decide)) rfl ?_
            refine V.eql (lv' := [(5, .long (sgL (snM σ) (fgW σ (snI σ)))), (3, .long (lN (fgW σ (snI σ)))), (2, .int (bI (snM σ))), (1, .int (nI (gN σ 5))), (0, .ref (a 11))]) (by rw [sgL, if_neg (by rw [c86]; decide)]) ?_
            exact V.sub [0, 1, 2, 3, 4] rfl (J97 hx)
          · refine V.lload_n X 0 dX6_scanNumber_89 rfl rfl ?_
            refine V.lneg X dX6_scanNumber_90 ?_
            refine V.goto X 95 dX6_scanNumber_91 (by decide) ?_
            refine V.lstore X (lv' := [(5, .long (-(lN (fgW σ (snI σ))))), (3, .long (lN (fgW σ (snI σ)))), (2, .int (bI (snM σ))), (1, .int (nI (gN σ 5))), (0, .ref (a 11))]) dX6_scanNumber_95 (ltn hn (by decide)) rfl ?_
            refine V.eql (lv' := [(5, .long (sgL (snM σ) (fgW σ (snI σ)))), (3, .long (lN (fgW σ (snI σ)))), (2, .int (bI (snM σ))), (1, .int (nI (gN σ 5))), (0, .ref (a 11))]) (by rw [sgL, if_pos c86]) ?_
            exact V.sub [0, 1, 2, 3, 4] rfl (J97 hx)
        · refine V.iconst X (v := nI 0) dX6_scanNumber_78 (by decide) ?_
          refine V.topi (y := bI false) rfl ?_
          exact V.zret X rfl hA hk ht hQ rfl (bI_01 _) dX6_scanNumber_79 (⟨by rw [snOK_x (fun q => q.2 ⟨c59, (oI_inj (patA_lt hr2 _) (by decide)).mp c75⟩)], by rw [snS_x (fun q => q.2 ⟨c59, (oI_inj (patA_lt hr2 _) (by decide)).mp c75⟩)]⟩)
  refine V.aload_n X 0 dX6_scanNumber_0 rfl rfl ?_
  refine Vg_c_11_at (x := gN σ 5) X tw_151 dX6_scanNumber_1 rfl ?_
  refine V.istore_n X (lv' := [(1, .int (nI (gN σ 5))), (0, .ref (a 11))]) dX6_scanNumber_4 rfl (ltn hn (by decide)) rfl ?_
  refine V.aload_n X 1 dX6_scanNumber_5 rfl rfl ?_
  refine Vg_c_11_paper X tw_146 dX6_scanNumber_6 ?_
  refine V.aload_n X 1 dX6_scanNumber_9 rfl rfl ?_
  refine Vg_c_11_at (x := gN σ 5) X tw_151 dX6_scanNumber_10 rfl ?_
  refine V.callV X rfl (c_atP (zl Z) (zG Z) a σ (gN σ 5) (by omega) hr1 hr2) cv_X6_50 rfl 7 rfl rfl (len hRf (by decide)) (len hRl (by decide)) hk0 ht0 [] rfl (Nat.le_of_ble_eq_true rfl) dX6_scanNumber_13 ?_
  rintro _ _ ⟨rfl, rfl⟩
  refine V.eqs (st' := [.int (oI (patA σ (gN σ 5)))]) rfl ?_
  refine V.bipush X (v := nI 45) dX6_scanNumber_16 (by decide) ?_
  refine V.icmp_ne X 25 dX6_scanNumber_18 (by decide) (fun c18 => ?_) (fun c18 => ?_)
  · refine V.iconst X (v := nI 0) dX6_scanNumber_25 (by decide) ?_
    refine V.istore_n X (lv' := [(2, .int (nI 0)), (1, .int (nI (gN σ 5))), (0, .ref (a 11))]) dX6_scanNumber_26 rfl (ltn hn (by decide)) rfl ?_
    refine V.iload_n X 0 dX6_scanNumber_27 rfl rfl ?_
    refine V.if_eqN X 41 dX6_scanNumber_28 (by decide) (by decide) (fun c28 => ?_) (fun c28 => by exfalso; omega)
    have hm : snM σ = false := decide_eq_false (fun q => c18 ((oI_inj (patA_lt hr2 _) (by decide)).mpr q))
    refine V.eqw (ws' := cw (zG Z) a (sN σ 5 (snI σ))) (by rw [snI, hm]; exact congrArg (cw (zG Z) a) (sN_self σ 5).symm) ?_
    refine V.eql (lv' := [(2, .int (bI (snM σ))), (1, .int (nI (gN σ 5))), (0, .ref (a 11))]) (by rw [hm]; rfl) ?_
    exact V.sub [0, 1, 2] rfl J41
  · refine V.iconst X (v := nI 1) dX6_scanNumber_21 (by decide) ?_
    refine V.goto X 26 dX6_scanNumber_22 (by decide) ?_
    refine V.istore_n X (lv' := [(2, .int (nI 1)), (1, .int (nI (gN σ 5))), (0, .ref (a 11))]) dX6_scanNumber_26 rfl (ltn hn (by decide)) rfl ?_
    refine V.iload_n X 0 dX6_scanNumber_27 rfl rfl ?_
    refine V.if_eqN X 41 dX6_scanNumber_28 (by decide) (by decide) (fun c28 => by exfalso; omega) (fun c28 => ?_)
    refine V.aload_n X 2 dX6_scanNumber_31 rfl rfl ?_
    refine V.dup X dX6_scanNumber_32 rfl ?_
    refine Vg_c_11_at (x := gN σ 5) X tw_151 dX6_scanNumber_33 rfl ?_
    refine V.iconst X (v := nI 1) dX6_scanNumber_36 (by decide) ?_
    refine V.iaddN X dX6_scanNumber_37 ?_
    refine Vp_c_11_at (x := (gN σ 5) + 1) X tw_151 dX6_scanNumber_38 ?_
    have hm : snM σ = true := decide_eq_true ((oI_inj (patA_lt hr2 _) (by decide)).mp c18)
    refine V.eqw (ws' := cw (zG Z) a (sN σ 5 (snI σ))) (by rw [snI, hm]; rfl) ?_
    refine V.eql (lv' := [(2, .int (bI (snM σ))), (1, .int (nI (gN σ 5))), (0, .ref (a 11))]) (by rw [hm]; rfl) ?_
    exact V.sub [0, 1, 2] rfl J41

def kI (σ : St) : Nat := (gI σ 0).toNatClampNeg
def odS (σ : St) : St := sN (sA (sJ (sA (sN σ 5 (gN σ 5 + 1)) 4 (va_up (gA σ 4) (gN σ 4) (kI σ))) 1 (va_up (gJ σ 1) (gN σ 4) (gI σ 1))) 5 (va_up (gA σ 5) (gN σ 4) 0)) 4 (gN σ 4 + 1)
/-- Reader.finishDeed ahead of the making -/
def fd1 (σ : St) : St := sA (sN σ 6 (gN σ 6 + 1)) 5 (if 0 < gN σ 4 then va_up (gA σ 5) (gN σ 4 - 1) (gA σ 5 (gN σ 4 - 1) + 1) else gA σ 5)
def fdS (σ : St) (k : Nat) (v : Int32) (n : Nat) : St := if gB σ 2 = true then dBind (fd1 σ) k v n else fd1 σ
def fdP (σ : St) (n : Nat) : Prop := gN σ 4 ≤ 2001 ∧ gN σ 6 < 2 ^ 30 ∧ (gB σ 2 = true → gN σ 1 < 1500 ∧ n ≤ gN σ 0 ∧ gN σ 0 ≤ 1500 ∧ gN σ 0 - n < 1500 ∧ gA σ 1 (gN σ 1) + n ≤ 4000)
def clN (σ : St) : St := sN (fdS (sN σ 4 (gN σ 4 - 1)) (gA σ 4 (gN σ 4 - 1)) (gJ σ 1 (gN σ 4 - 1)) (gA σ 5 (gN σ 4 - 1))) 5 (gN σ 5 + 1)
def clC (σ : St) : Prop := 0 < gN σ 4 ∧ patA σ (gN σ 5) = some 41
def clS : Nat → St → St
  | 0, σ => σ
  | f + 1, σ => if 0 < gN σ 4 ∧ patA σ (gN σ 5) = some 41 then clS f (clN σ) else σ
def clP : Nat → St → Prop
  | 0, σ => rdOK σ ∧ gN σ 4 = 0
  | f + 1, σ => rdOK σ ∧ gN σ 4 = f + 1 ∧ gN σ 4 ≤ 2001 ∧ (clC σ → fdP (sN σ 4 (gN σ 4 - 1)) (gA σ 5 (gN σ 4 - 1)) ∧ clP f (clN σ))
theorem fdS_5 (σ : St) (k : Nat) (v : Int32) (n : Nat) : gN (fdS σ k v n) 5 = gN σ 5 := by simp only [fdS]; split <;> rfl

set_option maxHeartbeats 4000000 in
set_option maxRecDepth 100000 in
theorem r_openDeed (l : Launch) (G : Gx) (a : Nat → Nat) (σ : St) (h4 : gN σ 4 < 2001) (hki : gI σ 0 = nI (kI σ)) : MM l G ⟨"NestedDeeds$Reader", "openDeed", "()V"⟩ prog_8_method_7_code 1 none 0 0 [.ref (a 11)] (cw G a σ) (fun rv w => rv = none ∧ w = cw G a (odS σ)) := by
  refine MM.of (lv := [(0, .ref (a 11))]) (by decide +kernel) rfl (Nat.le_of_ble_eq_true rfl) ?_
  intro Z hRf hRl hl hG hn hk ht hA hQ X
  subst hG hl
  have X : XC Z "NestedDeeds$Reader" prog_8_method_7_code none := X
  have hk0 : zk Z ≤ (zR Z).cells := hk ▸ Nat.zero_le _
  have ht0 : zt Z ≤ (zR Z).slots := ht ▸ Nat.zero_le _
  refine V.aload_n X 0 dX6_openDeed_0 rfl rfl ?_
  refine V.dup X dX6_openDeed_1 rfl ?_
  refine Vg_c_11_at (x := gN σ 5) X tw_151 dX6_openDeed_2 rfl ?_
  refine V.iconst X (v := nI 1) dX6_openDeed_5 (by decide) ?_
  refine V.iaddN X dX6_openDeed_6 ?_
  refine Vp_c_11_at (x := (gN σ 5) + 1) X tw_151 dX6_openDeed_7 ?_
  refine V.aload_n X 0 dX6_openDeed_10 rfl rfl ?_
  refine Vg_c_11_openKind X tw_147 dX6_openDeed_11 ?_
  refine V.aload_n X 0 dX6_openDeed_14 rfl rfl ?_
  refine Vg_c_11_open (x := gN σ 4) X tw_150 dX6_openDeed_15 rfl ?_
  refine V.aload_n X 0 dX6_openDeed_18 rfl rfl ?_
  refine Vg_c_11_kind (x := gI σ 0) X tw_152 dX6_openDeed_19 rfl ?_
  refine V.topi (y := nI (kI σ)) hki ?_
  refine Vs_c_openKind (f := gA σ 4) (i := gN σ 4) (x := kI σ) X (by omega) dX6_openDeed_22 rfl ?_
  refine V.aload_n X 0 dX6_openDeed_23 rfl rfl ?_
  refine Vg_c_11_openNumber X tw_148 dX6_openDeed_24 ?_
  refine V.aload_n X 0 dX6_openDeed_27 rfl rfl ?_
  refine Vg_c_11_open (x := gN σ 4) X tw_150 dX6_openDeed_28 rfl ?_
  refine V.aload_n X 0 dX6_openDeed_31 rfl rfl ?_
  refine Vg_c_11_number (x := gI σ 1) X tw_153 dX6_openDeed_32 rfl ?_
  refine Vs_c_openNumber (f := gJ σ 1) (i := gN σ 4) (x := gI σ 1) X (by omega) dX6_openDeed_35 rfl ?_
  refine V.aload_n X 0 dX6_openDeed_36 rfl rfl ?_
  refine Vg_c_11_openParts X tw_149 dX6_openDeed_37 ?_
  refine V.aload_n X 0 dX6_openDeed_40 rfl rfl ?_
  refine Vg_c_11_open (x := gN σ 4) X tw_150 dX6_openDeed_41 rfl ?_
  refine V.iconst X (v := nI 0) dX6_openDeed_44 (by decide) ?_
  refine Vs_c_openParts (f := gA σ 5) (i := gN σ 4) (x := 0) X (by omega) dX6_openDeed_45 rfl ?_
  refine V.aload_n X 0 dX6_openDeed_46 rfl rfl ?_
  refine V.dup X dX6_openDeed_47 rfl ?_
  refine Vg_c_11_open (x := gN σ 4) X tw_150 dX6_openDeed_48 rfl ?_
  refine V.iconst X (v := nI 1) dX6_openDeed_51 (by decide) ?_
  refine V.iaddN X dX6_openDeed_52 ?_
  refine Vp_c_11_open (x := (gN σ 4) + 1) X tw_150 dX6_openDeed_53 ?_
  exact V.vret X rfl hA hk ht hQ rfl dX6_openDeed_56 (⟨rfl, rfl⟩)

set_option maxHeartbeats 4000000 in
set_option maxRecDepth 100000 in
theorem r_finishDeed (l : Launch) (G : Gx) (a : Nat → Nat) (σ : St) (k : Nat) (v : Int32) (n : Nat) (hp : fdP σ n) : MM l G ⟨"NestedDeeds$Reader", "finishDeed", "(III)V"⟩ prog_8_method_9_code 4 none 2 85 [.ref (a 11), .int (nI k), .int v, .int (nI n)] (cw G a σ) (fun rv w => rv = none ∧ w = cw G a (fdS σ k v n)) := by
  refine MM.of (lv := [(0, .ref (a 11)), (1, .int (nI k)), (2, .int v), (3, .int (nI n))]) (by decide +kernel) rfl (Nat.le_of_ble_eq_true rfl) ?_
  intro Z hRf hRl hl hG hn hk ht hA hQ X
  subst hG hl
  have X : XC Z "NestedDeeds$Reader" prog_8_method_9_code none := X
  have hk0 : zk Z ≤ (zR Z).cells := hk ▸ Nat.zero_le _
  have ht0 : zt Z ≤ (zR Z).slots := ht ▸ Nat.zero_le _
  obtain ⟨hp1, hp2, hp3⟩ := hp
  have J32 : V Z (cw (zG Z) a (fd1 σ)) [(0, .ref (a 11)), (1, .int (nI k)), (2, .int v), (3, .int (nI n))] 32 [] := by
    refine V.aload_n X 0 dX6_finishDeed_32 rfl rfl ?_
    refine Vg_c_11_making (x := gB σ 2) X tw_154 dX6_finishDeed_33 rfl ?_
    refine V.if_eqB X 49 dX6_finishDeed_36 (by decide) (fun c36 => ?_) (fun c36 => ?_)
    · exact V.vret X rfl hA hk ht hQ rfl dX6_finishDeed_49 (⟨rfl, by rw [fdS, if_neg (show ¬ gB σ 2 = true by rw [c36]; decide)]⟩)
    · refine V.aload_n X 0 dX6_finishDeed_39 rfl rfl ?_
      refine Vg_c_11_deeds X tw_145 dX6_finishDeed_40 ?_
      refine V.iload_n X 1 dX6_finishDeed_43 rfl rfl ?_
      refine V.iload_n X 2 dX6_finishDeed_44 rfl rfl ?_
      refine V.iload_n X 3 dX6_finishDeed_45 rfl rfl ?_
      refine V.callV X rfl (c_bind (zl Z) (zG Z) a (fd1 σ) k v n (by exact (hp3 c36).1) (by exact (hp3 c36).2.1) (by exact (hp3 c36).2.2.1) (by exact (hp3 c36).2.2.2.1) (by exact (hp3 c36).2.2.2.2)) cv_X6_101 rfl 1 rfl rfl (len hRf (by decide)) (len hRl (by decide)) hk0 ht0 [] rfl (Nat.le_of_ble_eq_true rfl) dX6_finishDeed_46 ?_
      rintro _ _ ⟨rfl, rfl⟩
      refine V.eqs (st' := []) rfl ?_
      exact V.vret X rfl hA hk ht hQ rfl dX6_finishDeed_49 (⟨rfl, by rw [fdS, if_pos c36]⟩)
  refine V.aload_n X 0 dX6_finishDeed_0 rfl rfl ?_
  refine V.dup X dX6_finishDeed_1 rfl ?_
  refine Vg_c_11_whole (x := gN σ 6) X tw_155 dX6_finishDeed_2 rfl ?_
  refine V.iconst X (v := nI 1) dX6_finishDeed_5 (by decide) ?_
  refine V.iaddN X dX6_finishDeed_6 ?_
  refine Vp_c_11_whole (x := (gN σ 6) + 1) X tw_155 dX6_finishDeed_7 ?_
  refine V.aload_n X 0 dX6_finishDeed_10 rfl rfl ?_
  refine Vg_c_11_open (x := gN σ 4) X tw_150 dX6_finishDeed_11 rfl ?_
  refine V.if_leN X 32 dX6_finishDeed_14 (by decide) (by omega) (fun c14 => ?_) (fun c14 => ?_)
  · refine V.eqw (ws' := cw (zG Z) a (fd1 σ)) (by rw [fd1, if_neg (by omega)]; exact congrArg (cw (zG Z) a) (sA_self (sN σ 6 (gN σ 6 + 1)) 5).symm) ?_
    exact V.sub [0, 1, 2, 3] rfl J32
  · refine V.aload_n X 0 dX6_finishDeed_17 rfl rfl ?_
    refine Vg_c_11_openParts X tw_149 dX6_finishDeed_18 ?_
    refine V.aload_n X 0 dX6_finishDeed_21 rfl rfl ?_
    refine Vg_c_11_open (x := gN σ 4) X tw_150 dX6_finishDeed_22 rfl ?_
    refine V.iconst X (v := nI 1) dX6_finishDeed_25 (by decide) ?_
    refine V.isubN X dX6_finishDeed_26 (by omega) ?_
    refine V.dup2 X dX6_finishDeed_27 rfl rfl ?_
    refine Va_c_openParts (x := gA σ 5 ((gN σ 4) - 1)) X (by omega) dX6_finishDeed_28 rfl ?_
    refine V.iconst X (v := nI 1) dX6_finishDeed_29 (by decide) ?_
    refine V.iaddN X dX6_finishDeed_30 ?_
    refine Vs_c_openParts (f := gA σ 5) (i := (gN σ 4) - 1) (x := (gA σ 5 ((gN σ 4) - 1)) + 1) X (by omega) dX6_finishDeed_31 rfl ?_
    refine V.eqw (ws' := cw (zG Z) a (fd1 σ)) (by rw [fd1, if_pos c14]) ?_
    exact V.sub [0, 1, 2, 3] rfl J32

set_option maxHeartbeats 4000000 in
set_option maxRecDepth 100000 in
theorem r_closeDeeds (l : Launch) (G : Gx) (a : Nat → Nat) (σ : St) (hcl : clP (gN σ 4) σ) : MM l G ⟨"NestedDeeds$Reader", "closeDeeds", "()V"⟩ prog_8_method_8_code 1 none 3 108 [.ref (a 11)] (cw G a σ) (fun rv w => rv = none ∧ w = cw G a (clS (gN σ 4) σ)) := by
  refine MM.of (lv := [(0, .ref (a 11))]) (by decide +kernel) rfl (Nat.le_of_ble_eq_true rfl) ?_
  intro Z hRf hRl hl hG hn hk ht hA hQ X
  subst hG hl
  have X : XC Z "NestedDeeds$Reader" prog_8_method_8_code none := X
  have hk0 : zk Z ≤ (zR Z).cells := hk ▸ Nat.zero_le _
  have ht0 : zt Z ≤ (zR Z).slots := ht ▸ Nat.zero_le _
  have LP : ∀ (f : Nat) (τ : St), clP f τ → clS f τ = clS (gN σ 4) σ → V Z (cw (zG Z) a τ) [(0, .ref (a 11))] 0 [] := by
    intro f
    induction f with
    | zero =>
      intro τ h1 h2
      obtain ⟨⟨hr1, hr2, hr3⟩, h4⟩ := h1
      refine V.aload_n X 0 dX6_closeDeeds_0 rfl rfl ?_
      refine Vg_c_11_open (x := gN (τ) 4) X tw_150 dX6_closeDeeds_1 rfl ?_
      refine V.if_leN X 77 dX6_closeDeeds_4 (by decide) (by omega) (fun c4 => ?_) (fun c4 => by exfalso; omega)
      exact V.vret X rfl hA hk ht hQ rfl dX6_closeDeeds_77 (⟨rfl, by rw [← h2]; rfl⟩)
    | succ f ih =>
      intro τ h1 h2
      obtain ⟨⟨hr1, hr2, hr3⟩, h4, h5, h6⟩ := h1
      refine V.aload_n X 0 dX6_closeDeeds_0 rfl rfl ?_
      refine Vg_c_11_open (x := gN (τ) 4) X tw_150 dX6_closeDeeds_1 rfl ?_
      refine V.if_leN X 77 dX6_closeDeeds_4 (by decide) (by omega) (fun c4 => by exfalso; omega) (fun c4 => ?_)
      refine V.aload_n X 0 dX6_closeDeeds_7 rfl rfl ?_
      refine Vg_c_11_paper X tw_146 dX6_closeDeeds_8 ?_
      refine V.aload_n X 0 dX6_closeDeeds_11 rfl rfl ?_
      refine Vg_c_11_at (x := gN (τ) 5) X tw_151 dX6_closeDeeds_12 rfl ?_
      refine V.callV X rfl (c_atP (zl Z) (zG Z) a τ (gN τ 5) (by omega) hr1 hr2) cv_X6_50 rfl 7 rfl rfl (len hRf (by decide)) (len hRl (by decide)) hk0 ht0 [] rfl (Nat.le_of_ble_eq_true rfl) dX6_closeDeeds_15 ?_
      rintro _ _ ⟨rfl, rfl⟩
      refine V.eqs (st' := [.int (oI (patA τ (gN τ 5)))]) rfl ?_
      refine V.bipush X (v := nI 41) dX6_closeDeeds_18 (by decide) ?_
      refine V.icmp_ne X 77 dX6_closeDeeds_20 (by decide) (fun c20 => ?_) (fun c20 => ?_)
      · exact V.vret X rfl hA hk ht hQ rfl dX6_closeDeeds_77 (⟨rfl, by rw [← h2, clS, if_neg (fun q => c20 ((oI_inj (patA_lt hr2 _) (by decide)).mpr q.2))]⟩)
      · have hc : clC τ := ⟨by omega, (oI_inj (patA_lt hr2 _) (by decide)).mp c20⟩
        refine V.aload_n X 0 dX6_closeDeeds_23 rfl rfl ?_
        refine V.dup X dX6_closeDeeds_24 rfl ?_
        refine Vg_c_11_open (x := gN (τ) 4) X tw_150 dX6_closeDeeds_25 rfl ?_
        refine V.iconst X (v := nI 1) dX6_closeDeeds_28 (by decide) ?_
        refine V.isubN X dX6_closeDeeds_29 (by omega) ?_
        refine Vp_c_11_open (x := (gN (τ) 4) - 1) X tw_150 dX6_closeDeeds_30 ?_
        refine V.aload_n X 0 dX6_closeDeeds_33 rfl rfl ?_
        refine V.aload_n X 0 dX6_closeDeeds_34 rfl rfl ?_
        refine Vg_c_11_openKind X tw_147 dX6_closeDeeds_35 ?_
        refine V.aload_n X 0 dX6_closeDeeds_38 rfl rfl ?_
        refine Vg_c_11_open (x := (gN (τ) 4) - 1) X tw_150 dX6_closeDeeds_39 rfl ?_
        refine Va_c_openKind (x := gA (τ) 4 ((gN (τ) 4) - 1)) X (by omega) dX6_closeDeeds_42 rfl ?_
        refine V.aload_n X 0 dX6_closeDeeds_43 rfl rfl ?_
        refine Vg_c_11_openNumber X tw_148 dX6_closeDeeds_44 ?_
        refine V.aload_n X 0 dX6_closeDeeds_47 rfl rfl ?_
        refine Vg_c_11_open (x := (gN (τ) 4) - 1) X tw_150 dX6_closeDeeds_48 rfl ?_
        refine Va_c_openNumber (x := gJ (τ) 1 ((gN (τ) 4) - 1)) X (by omega) dX6_closeDeeds_51 rfl ?_
        refine V.aload_n X 0 dX6_closeDeeds_52 rfl rfl ?_
        refine Vg_c_11_openParts X tw_149 dX6_closeDeeds_53 ?_
        refine V.aload_n X 0 dX6_closeDeeds_56 rfl rfl ?_
        refine Vg_c_11_open (x := (gN (τ) 4) - 1) X tw_150 dX6_closeDeeds_57 rfl ?_
        refine Va_c_openParts (x := gA (τ) 5 ((gN (τ) 4) - 1)) X (by omega) dX6_closeDeeds_60 rfl ?_
        refine V.callV X rfl (r_finishDeed (zl Z) (zG Z) a (sN (τ) 4 ((gN (τ) 4) - 1)) (gA (τ) 4 ((gN (τ) 4) - 1)) (gJ (τ) 1 ((gN (τ) 4) - 1)) (gA (τ) 5 ((gN (τ) 4) - 1)) ((h6 hc).1)) cv_X6_64 rfl 11 rfl rfl (len hRf (by decide)) (len hRl (by decide)) hk0 ht0 [] rfl (Nat.le_of_ble_eq_true rfl) dX6_closeDeeds_61 ?_
        rintro _ _ ⟨rfl, rfl⟩
        refine V.eqs (st' := []) rfl ?_
        refine V.aload_n X 0 dX6_closeDeeds_64 rfl rfl ?_
        refine V.dup X dX6_closeDeeds_65 rfl ?_
        refine Vg_c_11_at (x := gN (fdS (sN (τ) 4 ((gN (τ) 4) - 1)) (gA (τ) 4 ((gN (τ) 4) - 1)) (gJ (τ) 1 ((gN (τ) 4) - 1)) (gA (τ) 5 ((gN (τ) 4) - 1))) 5) X tw_151 dX6_closeDeeds_66 rfl ?_
        refine V.iconst X (v := nI 1) dX6_closeDeeds_69 (by decide) ?_
        refine V.iaddN X dX6_closeDeeds_70 ?_
        refine V.topi (y := nI (gN τ 5 + 1)) (by rw [fdS_5]; rfl) ?_
        refine Vp_c_11_at (x := gN τ 5 + 1) X tw_151 dX6_closeDeeds_71 ?_
        refine V.goto X 0 dX6_closeDeeds_74 (by decide) ?_
        exact ih (clN τ) (h6 hc).2 (by rw [← h2, clS, if_pos (show 0 < gN τ 4 ∧ patA τ (gN τ 5) = some 41 from hc)])
  exact LP (gN σ 4) σ hcl rfl

