set_option maxHeartbeats 4000000 in
set_option maxRecDepth 100000 in
theorem w_byStack (l : Launch) (G : Gx) (a : Nat → Nat) (σ : St) (top : Nat) (htop : 1 ≤ top) (hok : OKr top 0 σ) (hv : gN σ 9 ≤ 20000) : MM l G ⟨"NestedDeeds$Walker", "byStack", "(I)V"⟩ prog_10_method_9_code 5 none 4 130 [.ref (a 15), .int (nI top)] (cw G a σ) (fun rv w => rv = none ∧ w = cw G a (resS top 0 σ)) := by
  refine MM.of (lv := [(0, .ref (a 15)), (1, .int (nI top))]) (by decide +kernel) rfl (Nat.le_of_ble_eq_true rfl) ?_
  intro Z hRf hRl hl hG hn hk ht hA hQ X
  subst hG hl
  have X : XC Z "NestedDeeds$Walker" prog_10_method_9_code none := X
  have hk0 : zk Z ≤ (zR Z).cells := hk ▸ Nat.zero_le _
  have ht0 : zt Z ≤ (zR Z).slots := ht ▸ Nat.zero_le _
  have hkt := hok.w.1.base.2.1
  have LE : ∀ (s dep : Nat) (τ : St), s ≤ 60000 → dep < 2000 → (ovr τ = true ∨ dep < top) → isT (gN τ 12) → τ = resS top 0 σ → V Z (cw (zG Z) a τ) [(2, .int (nI dep)), (3, .int (nI s)), (0, .ref (a 15)), (1, .int (nI top))] 4 [] := by
    intro s dep τ h1 h2 h3 htk h5
    refine V.iload_n X 1 dX8_byStack_4 rfl rfl ?_
    refine V.ldc X dX8_byStack_5 tw_553 ?_
    refine V.topi (y := nI 200000) (by decide) ?_
    refine V.icmp_geN X 102 dX8_byStack_7 (by decide) (by omega) (by decide) (fun c7 => by exfalso; omega) (fun c7 => ?_)
    refine V.iload_n X 0 dX8_byStack_10 rfl rfl ?_
    refine V.iload_n X 3 dX8_byStack_11 rfl rfl ?_
    refine V.icmp_ltN X 102 dX8_byStack_12 (by decide) (by omega) (by omega) (fun c12 => ?_) (fun c12 => ?_)
    · exact V.vret X rfl hA hk ht hQ rfl dX8_byStack_102 (⟨rfl, by rw [h5]⟩)
    · refine V.aload_n X 2 dX8_byStack_15 rfl rfl ?_
      refine Vg_c_15_task (x := gN (τ) 12) X tw_338 dX8_byStack_16 rfl ?_
      refine Vg_over (x := gB (τ) (gN (τ) 12)) X tw_201 dX8_byStack_19 rfl htk ?_
      refine V.if_neB X 102 dX8_byStack_22 (by decide) (fun c22 => ?_) (fun c22 => by exfalso; rcases h3 with h3 | h3; (rw [show gB τ (gN τ 12) = true from h3] at c22; cases c22); omega)
      exact V.vret X rfl hA hk ht hQ rfl dX8_byStack_102 (⟨rfl, by rw [h5]⟩)
  have LP : ∀ (m s n : Nat) (τ : St), s + m = 200000 → s + n ≤ 2 * gN τ 9 → gN τ 9 ≤ 20000 → OKr top n τ → resS top n τ = resS top 0 σ → V Z (cw (zG Z) a τ) [(2, .int (nI (top + n))), (3, .int (nI s)), (0, .ref (a 15)), (1, .int (nI top))] 4 [] := by
    intro m
    induction m with
    | zero => intro s n τ h1 h2 h3; exfalso; omega
    | succ m ih =>
      intro s n τ h1 h2 h3 h4 h5
      obtain ⟨htk, hkb, hkd, hk6, hk7, hov⟩ := h4.w.1.base
      have hpn := h4.w.1.preN h4.w.2
      rcases hnx : nxtR τ (top + n) with _ | p
      · obtain ⟨g1, g2, g3, g4, g5, -⟩ := st_none h4 hnx
        have htk3 : isT (gN (nxtS τ (top + n)) 12) := by rw [g3]; exact htk
        have hW9 : gN (wlk (top + n) (gA τ 6 (top + n)) (gA τ 7 (top + n)) τ) 9 = gN τ 9 := by rw [← g1, tLeave_9, g4]
        have hWT : isT (gN (wlk (top + n) (gA τ 6 (top + n)) (gA τ 7 (top + n)) τ) 12) := by rw [wlk_12]; exact htk
        cases n with
        | zero =>
          refine V.iload_n X 1 dX8_byStack_4 rfl rfl ?_
          refine V.ldc X dX8_byStack_5 tw_553 ?_
          refine V.topi (y := nI 200000) (by decide) ?_
          refine V.icmp_geN X 102 dX8_byStack_7 (by decide) (by omega) (by decide) (fun c7 => by exfalso; omega) (fun c7 => ?_)
          refine V.iload_n X 0 dX8_byStack_10 rfl rfl ?_
          refine V.iload_n X 3 dX8_byStack_11 rfl rfl ?_
          refine V.icmp_ltN X 102 dX8_byStack_12 (by decide) (by omega) (by omega) (fun c12 => by exfalso; omega) (fun c12 => ?_)
          refine V.aload_n X 2 dX8_byStack_15 rfl rfl ?_
          refine Vg_c_15_task (x := gN (τ) 12) X tw_338 dX8_byStack_16 rfl ?_
          refine Vg_over (x := gB (τ) (gN (τ) 12)) X tw_201 dX8_byStack_19 rfl htk ?_
          refine V.if_neB X 102 dX8_byStack_22 (by decide) (fun c22 => by exfalso; rw [show gB τ (gN τ 12) = false from hov] at c22; cases c22) (fun c22 => ?_)
          refine V.aload_n X 2 dX8_byStack_25 rfl rfl ?_
          refine V.iload_n X 0 dX8_byStack_26 rfl rfl ?_
          refine V.callV X rfl (w_nextPart (zl Z) (zG Z) a (τ) (top + 0) (hpn)) cv_X8_102 rfl 15 rfl rfl (len hRf (by decide)) (len hRl (by decide)) hk0 ht0 [] rfl (Nat.le_of_ble_eq_true rfl) dX8_byStack_27 ?_
          rintro _ _ ⟨rfl, rfl⟩
          refine V.eqs (st' := [.int (oI (nxtR (τ) (top + 0)))]) rfl ?_
          refine V.topi (y := -1) (by rw [hnx]; rfl) ?_
          refine V.istore X (lv' := [(4, .int (-1)), (2, .int (nI (top + 0))), (3, .int (nI s)), (0, .ref (a 15)), (1, .int (nI top))]) dX8_byStack_30 (ltn hn (by decide)) rfl ?_
          refine V.iload X 0 dX8_byStack_32 rfl ?_
          refine V.iconst X (v := -1) dX8_byStack_34 (by decide) ?_
          refine V.icmp_eq X 52 dX8_byStack_35 (by decide) (fun c35 => ?_) (fun c35 => by exfalso; exact absurd rfl c35)
          refine V.aload_n X 3 dX8_byStack_52 rfl rfl ?_
          refine Vg_c_15_task (x := gN (nxtS (τ) (top + 0)) 12) X tw_338 dX8_byStack_53 rfl ?_
          refine V.iload_n X 1 dX8_byStack_56 rfl rfl ?_
          refine V.aload_n X 3 dX8_byStack_57 rfl rfl ?_
          refine Vg_c_15_deedAt X tw_322 dX8_byStack_58 ?_
          refine V.iload_n X 1 dX8_byStack_61 rfl rfl ?_
          refine Va_c_deedAt (x := gA (nxtS (τ) (top + 0)) 6 (top + 0)) X (by omega) dX8_byStack_62 rfl ?_
          refine Wk_leave (σ := (nxtS (τ) (top + 0))) X htk3 g2 (len hRf (by decide)) (len hRl (by decide)) hk0 ht0 (Nat.le_of_ble_eq_true rfl) dX8_byStack_63 ?_
          refine V.eqw (ws' := cw (zG Z) a (wlk (top + 0) (gA τ 6 (top + 0)) (gA τ 7 (top + 0)) τ)) (by rw [g1]) ?_
          refine V.iinc X (v := nI ((top + 0) - 1)) (lv' := [(2, .int (nI ((top + 0) - 1))), (4, .int (-1)), (3, .int (nI s)), (0, .ref (a 15)), (1, .int (nI top))]) (k0 := 1) dX8_byStack_66 rfl (dec_1 (by omega)) (ltn hn (by decide)) rfl ?_
          refine V.iload_n X 0 dX8_byStack_69 rfl rfl ?_
          refine V.iload_n X 4 dX8_byStack_70 rfl rfl ?_
          refine V.icmp_ltN X 96 dX8_byStack_71 (by decide) (by omega) (by omega) (fun c71 => ?_) (fun c71 => by exfalso; omega)
          refine V.iinc X (v := nI (s + 1)) (lv' := [(3, .int (nI (s + 1))), (2, .int (nI ((top + 0) - 1))), (4, .int (-1)), (0, .ref (a 15)), (1, .int (nI top))]) (k0 := 2) dX8_byStack_96 rfl (inc_1 _) (ltn hn (by decide)) rfl ?_
          refine V.goto X 4 dX8_byStack_99 (by decide) ?_
          exact V.sub [1, 0, 3, 4] rfl (LE (s + 1) _ (wlk (top + 0) (gA τ 6 (top + 0)) (gA τ 7 (top + 0)) τ) (by omega) (by omega) (Or.inr (by omega)) hWT h5)
        | succ n =>
          have hpd : pend (top + n) (wlk (top + (n + 1)) (gA τ 6 (top + (n + 1))) (gA τ 7 (top + (n + 1))) τ) := h4.2.2.1
          refine V.iload_n X 1 dX8_byStack_4 rfl rfl ?_
          refine V.ldc X dX8_byStack_5 tw_553 ?_
          refine V.topi (y := nI 200000) (by decide) ?_
          refine V.icmp_geN X 102 dX8_byStack_7 (by decide) (by omega) (by decide) (fun c7 => by exfalso; omega) (fun c7 => ?_)
          refine V.iload_n X 0 dX8_byStack_10 rfl rfl ?_
          refine V.iload_n X 3 dX8_byStack_11 rfl rfl ?_
          refine V.icmp_ltN X 102 dX8_byStack_12 (by decide) (by omega) (by omega) (fun c12 => by exfalso; omega) (fun c12 => ?_)
          refine V.aload_n X 2 dX8_byStack_15 rfl rfl ?_
          refine Vg_c_15_task (x := gN (τ) 12) X tw_338 dX8_byStack_16 rfl ?_
          refine Vg_over (x := gB (τ) (gN (τ) 12)) X tw_201 dX8_byStack_19 rfl htk ?_
          refine V.if_neB X 102 dX8_byStack_22 (by decide) (fun c22 => by exfalso; rw [show gB τ (gN τ 12) = false from hov] at c22; cases c22) (fun c22 => ?_)
          refine V.aload_n X 2 dX8_byStack_25 rfl rfl ?_
          refine V.iload_n X 0 dX8_byStack_26 rfl rfl ?_
          refine V.callV X rfl (w_nextPart (zl Z) (zG Z) a (τ) (top + (n + 1)) (hpn)) cv_X8_102 rfl 15 rfl rfl (len hRf (by decide)) (len hRl (by decide)) hk0 ht0 [] rfl (Nat.le_of_ble_eq_true rfl) dX8_byStack_27 ?_
          rintro _ _ ⟨rfl, rfl⟩
          refine V.eqs (st' := [.int (oI (nxtR (τ) (top + (n + 1))))]) rfl ?_
          refine V.topi (y := -1) (by rw [hnx]; rfl) ?_
          refine V.istore X (lv' := [(4, .int (-1)), (2, .int (nI (top + (n + 1)))), (3, .int (nI s)), (0, .ref (a 15)), (1, .int (nI top))]) dX8_byStack_30 (ltn hn (by decide)) rfl ?_
          refine V.iload X 0 dX8_byStack_32 rfl ?_
          refine V.iconst X (v := -1) dX8_byStack_34 (by decide) ?_
          refine V.icmp_eq X 52 dX8_byStack_35 (by decide) (fun c35 => ?_) (fun c35 => by exfalso; exact absurd rfl c35)
          refine V.aload_n X 3 dX8_byStack_52 rfl rfl ?_
          refine Vg_c_15_task (x := gN (nxtS (τ) (top + (n + 1))) 12) X tw_338 dX8_byStack_53 rfl ?_
          refine V.iload_n X 1 dX8_byStack_56 rfl rfl ?_
          refine V.aload_n X 3 dX8_byStack_57 rfl rfl ?_
          refine Vg_c_15_deedAt X tw_322 dX8_byStack_58 ?_
          refine V.iload_n X 1 dX8_byStack_61 rfl rfl ?_
          refine Va_c_deedAt (x := gA (nxtS (τ) (top + (n + 1))) 6 (top + (n + 1))) X (by omega) dX8_byStack_62 rfl ?_
          refine Wk_leave (σ := (nxtS (τ) (top + (n + 1)))) X htk3 g2 (len hRf (by decide)) (len hRl (by decide)) hk0 ht0 (Nat.le_of_ble_eq_true rfl) dX8_byStack_63 ?_
          refine V.eqw (ws' := cw (zG Z) a (wlk (top + (n + 1)) (gA τ 6 (top + (n + 1))) (gA τ 7 (top + (n + 1))) τ)) (by rw [g1]) ?_
          refine V.iinc X (v := nI ((top + (n + 1)) - 1)) (lv' := [(2, .int (nI ((top + (n + 1)) - 1))), (4, .int (-1)), (3, .int (nI s)), (0, .ref (a 15)), (1, .int (nI top))]) (k0 := 1) dX8_byStack_66 rfl (dec_1 (by omega)) (ltn hn (by decide)) rfl ?_
          refine V.eql (lv' := [(2, .int (nI (top + n))), (4, .int (-1)), (3, .int (nI s)), (0, .ref (a 15)), (1, .int (nI top))]) (by rw [show top + (n + 1) - 1 = top + n by omega]) ?_
          refine V.iload_n X 0 dX8_byStack_69 rfl rfl ?_
          refine V.iload_n X 4 dX8_byStack_70 rfl rfl ?_
          refine V.icmp_ltN X 96 dX8_byStack_71 (by decide) (by omega) (by omega) (fun c71 => by exfalso; omega) (fun c71 => ?_)
          refine V.aload_n X 3 dX8_byStack_74 rfl rfl ?_
          refine Vg_c_15_task (x := gN (wlk (top + (n + 1)) (gA τ 6 (top + (n + 1))) (gA τ 7 (top + (n + 1))) τ) 12) X tw_338 dX8_byStack_75 rfl ?_
          refine V.iload_n X 0 dX8_byStack_78 rfl rfl ?_
          refine V.aload_n X 3 dX8_byStack_79 rfl rfl ?_
          refine Vg_c_15_deedAt X tw_322 dX8_byStack_80 ?_
          refine V.iload_n X 0 dX8_byStack_83 rfl rfl ?_
          refine Va_c_deedAt (x := gA (wlk (top + (n + 1)) (gA τ 6 (top + (n + 1))) (gA τ 7 (top + (n + 1))) τ) 6 (top + n)) X (by omega) dX8_byStack_84 rfl ?_
          refine V.aload_n X 3 dX8_byStack_85 rfl rfl ?_
          refine Vg_c_15_turnAt X tw_323 dX8_byStack_86 ?_
          refine V.iload_n X 0 dX8_byStack_89 rfl rfl ?_
          refine Va_c_turnAt (x := gA (wlk (top + (n + 1)) (gA τ 6 (top + (n + 1))) (gA τ 7 (top + (n + 1))) τ) 7 (top + n)) X (by omega) dX8_byStack_90 rfl ?_
          refine V.iconst X (v := nI 1) dX8_byStack_91 (by decide) ?_
          refine V.isubN X dX8_byStack_92 (by exact hpd.2.1) ?_
          refine Wk_takeUp (σ := (wlk (top + (n + 1)) (gA τ 6 (top + (n + 1))) (gA τ 7 (top + (n + 1))) τ)) X hWT hpd.1 (len hRf (by decide)) (len hRl (by decide)) hk0 ht0 (Nat.le_of_ble_eq_true rfl) dX8_byStack_93 ?_
          refine V.iinc X (v := nI (s + 1)) (lv' := [(3, .int (nI (s + 1))), (2, .int (nI (top + n))), (4, .int (-1)), (0, .ref (a 15)), (1, .int (nI top))]) (k0 := 2) dX8_byStack_96 rfl (inc_1 _) (ltn hn (by decide)) rfl ?_
          refine V.goto X 4 dX8_byStack_99 (by decide) ?_
          by_cases ho : ovr (wlk (top + (n + 1)) (gA τ 6 (top + (n + 1))) (gA τ 7 (top + (n + 1))) τ) = true
          · refine V.eqw (ws' := cw (zG Z) a (wlk (top + (n + 1)) (gA τ 6 (top + (n + 1))) (gA τ 7 (top + (n + 1))) τ)) (by rw [tTake26 (by rw [wlk_12]; exact g5 ho)]) ?_
            exact V.sub [1, 0, 3, 4] rfl (LE (s + 1) _ (wlk (top + (n + 1)) (gA τ 6 (top + (n + 1))) (gA τ 7 (top + (n + 1))) τ) (by omega) (by omega) (Or.inl ho) hWT (by rw [← h5]; exact (if_pos ho).symm))
          · have ho2 : ovr (wlk (top + (n + 1)) (gA τ 6 (top + (n + 1))) (gA τ 7 (top + (n + 1))) τ) = false := by simpa using ho
            exact V.sub [1, 0, 3, 4] rfl (ih (s + 1) n _ (by omega) (by rw [tTake_9, hW9]; omega) (by rw [tTake_9, hW9]; exact h3) (h4.2.2.2 ho2) (by rw [← h5]; exact (if_neg ho).symm))
      · obtain ⟨g1, g2, g3, g4, g5, g6⟩ := st_some h4 hnx
        refine V.iload_n X 1 dX8_byStack_4 rfl rfl ?_
        refine V.ldc X dX8_byStack_5 tw_553 ?_
        refine V.topi (y := nI 200000) (by decide) ?_
        refine V.icmp_geN X 102 dX8_byStack_7 (by decide) (by omega) (by decide) (fun c7 => by exfalso; omega) (fun c7 => ?_)
        refine V.iload_n X 0 dX8_byStack_10 rfl rfl ?_
        refine V.iload_n X 3 dX8_byStack_11 rfl rfl ?_
        refine V.icmp_ltN X 102 dX8_byStack_12 (by decide) (by omega) (by omega) (fun c12 => by exfalso; omega) (fun c12 => ?_)
        refine V.aload_n X 2 dX8_byStack_15 rfl rfl ?_
        refine Vg_c_15_task (x := gN (τ) 12) X tw_338 dX8_byStack_16 rfl ?_
        refine Vg_over (x := gB (τ) (gN (τ) 12)) X tw_201 dX8_byStack_19 rfl htk ?_
        refine V.if_neB X 102 dX8_byStack_22 (by decide) (fun c22 => by exfalso; rw [show gB τ (gN τ 12) = false from hov] at c22; cases c22) (fun c22 => ?_)
        refine V.aload_n X 2 dX8_byStack_25 rfl rfl ?_
        refine V.iload_n X 0 dX8_byStack_26 rfl rfl ?_
        refine V.callV X rfl (w_nextPart (zl Z) (zG Z) a (τ) (top + n) (hpn)) cv_X8_102 rfl 15 rfl rfl (len hRf (by decide)) (len hRl (by decide)) hk0 ht0 [] rfl (Nat.le_of_ble_eq_true rfl) dX8_byStack_27 ?_
        rintro _ _ ⟨rfl, rfl⟩
        refine V.eqs (st' := [.int (oI (nxtR (τ) (top + n)))]) rfl ?_
        refine V.topi (y := nI p) (by rw [hnx]; rfl) ?_
        refine V.istore X (lv' := [(4, .int (nI p)), (2, .int (nI (top + n))), (3, .int (nI s)), (0, .ref (a 15)), (1, .int (nI top))]) dX8_byStack_30 (ltn hn (by decide)) rfl ?_
        refine V.iload X 0 dX8_byStack_32 rfl ?_
        refine V.iconst X (v := -1) dX8_byStack_34 (by decide) ?_
        refine V.icmp_eq X 52 dX8_byStack_35 (by decide) (fun c35 => by exfalso; exact nI_nm1 (by omega) c35) (fun c35 => ?_)
        refine V.iinc X (v := nI ((top + n) + 1)) (lv' := [(2, .int (nI ((top + n) + 1))), (4, .int (nI p)), (3, .int (nI s)), (0, .ref (a 15)), (1, .int (nI top))]) (k0 := 1) dX8_byStack_38 rfl (inc_1 _) (ltn hn (by decide)) rfl ?_
        refine V.aload_n X 3 dX8_byStack_41 rfl rfl ?_
        refine V.iload_n X 0 dX8_byStack_42 rfl rfl ?_
        refine V.iload X 1 dX8_byStack_43 rfl ?_
        refine V.callV X rfl (w_visit (zl Z) (zG Z) a (nxtS (τ) (top + n)) ((top + n) + 1) p (g1)) cv_X8_64 rfl 15 rfl rfl (len hRf (by decide)) (len hRl (by decide)) hk0 ht0 [] rfl (Nat.le_of_ble_eq_true rfl) dX8_byStack_45 ?_
        rintro _ _ ⟨rfl, rfl⟩
        refine V.eqs (st' := [.int (bI (!ovr (visS (nxtS (τ) (top + n)) ((top + n) + 1) p)))]) rfl ?_
        refine V.pop X dX8_byStack_48 rfl ?_
        refine V.goto X 96 dX8_byStack_49 (by decide) ?_
        refine V.iinc X (v := nI (s + 1)) (lv' := [(3, .int (nI (s + 1))), (2, .int (nI ((top + n) + 1))), (4, .int (nI p)), (0, .ref (a 15)), (1, .int (nI top))]) (k0 := 2) dX8_byStack_96 rfl (inc_1 _) (ltn hn (by decide)) rfl ?_
        refine V.goto X 4 dX8_byStack_99 (by decide) ?_
        rcases ho : ovr (visS (nxtS τ (top + n)) (top + n + 1) p) with _ | _
        · exact V.sub [1, 0, 3, 4] rfl (ih (s + 1) (n + 1) (visS (nxtS τ (top + n)) (top + n + 1) p) (by omega) (by have := visS_9 ho; omega) (by have := visS_9 ho; omega) (g6 ho).2 (by rw [← h5]; exact (g6 ho).1.symm))
        · exact V.sub [1, 0, 3, 4] rfl (LE (s + 1) _ (visS (nxtS τ (top + n)) (top + n + 1) p) (by omega) (by omega) (Or.inl ho) (by rw [visS_12, g4]; exact htk) (by rw [← h5]; exact (g5 ho).symm))
  refine V.iload_n X 1 dX8_byStack_0 rfl rfl ?_
  refine V.istore_n X (lv' := [(2, .int (nI top)), (0, .ref (a 15)), (1, .int (nI top))]) dX8_byStack_1 rfl (ltn hn (by decide)) rfl ?_
  refine V.iconst X (v := nI 0) dX8_byStack_2 (by decide) ?_
  refine V.istore_n X (lv' := [(3, .int (nI 0)), (2, .int (nI top)), (0, .ref (a 15)), (1, .int (nI top))]) dX8_byStack_3 rfl (ltn hn (by decide)) rfl ?_
  exact V.sub [1, 0, 2, 3] rfl (LP 200000 0 0 σ (by omega) (by omega) hv hok rfl)

