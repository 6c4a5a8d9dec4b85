theorem visS_9le {σ : St} {k d : Nat} (h : gN σ 9 ≤ 20000) : gN (visS σ k d) 9 ≤ 20000 := by
  simp only [visS]
  by_cases h1 : gN σ 9 = 20000
  · rw [if_pos h1]; exact h
  · rw [if_neg h1]
    by_cases h2 : gN σ 13 < k
    · rw [if_pos h2]; exact h
    · rw [if_neg h2, tEnter_9]; show gN σ 9 + 1 ≤ 20000; omega
theorem wlk_9le : ∀ (k d t : Nat) (σ : St), gN σ 9 ≤ 20000 → gN (wlk k d t σ) 9 ≤ 20000 := by
  intro k d t σ
  induction k, d, t, σ using wlk.induct with
  | case1 k d t σ ht hc => intro h; rw [wlk_none ht hc, tLeave_9, tChS_9]; exact h
  | case2 k d t σ ht p hc hp h1 => intro h; rw [wlk_some ht hc hp, if_pos h1]; exact visS_9le (by rw [tChS_9]; exact h)
  | case3 k d t σ ht p hc hp h1 h2 ih => intro h; rw [wlk_some ht hc hp, if_neg h1, if_pos h2]; exact ih (visS_9le (by rw [tChS_9]; exact h))
  | case4 k d t σ ht p hc hp h1 h2 ih1 ih2 => intro h; rw [wlk_some ht hc hp, if_neg h1, if_neg h2]; exact ih2 (by rw [tTake_9]; exact ih1 (visS_9le (by rw [tChS_9]; exact h)))
  | case5 k d t σ ht p hc hp => intro h; rw [wlk, dif_pos ht, hc]; simp only [dif_neg hp]; exact h
  | case6 k d t σ ht => intro h; rw [wlk_end ht, tLeave_9]; exact h

set_option maxHeartbeats 4000000 in
set_option maxRecDepth 100000 in
theorem w_byCalls (l : Launch) (G : Gx) (a : Nat → Nat) (lo : Nat) (hlo : lo ≤ 1000) : ∀ (j k d : Nat) (σ : St), k + j = lo → 1 ≤ k → OKw k d 0 σ → gN σ 9 ≤ 20000 → MM l G ⟨"NestedDeeds$Walker", "byCalls", "(II)V"⟩ prog_10_method_8_code 5 none (5 + j) (154 + 24 * j) [.ref (a 15), .int (nI k), .int (nI lo)] (cw G a σ) (fun rv w => rv = none ∧ w = cw G a (wlk k d 0 σ)) := by
  intro j
  induction j with
  | zero =>
    intro k d σ hkj hk1 hok hv
    refine MM.of (lv := [(0, .ref (a 15)), (1, .int (nI k)), (2, .int (nI lo))]) (by decide +kernel) rfl (Nat.le_of_ble_eq_true rfl) ?_
    intro Z hRf hRl hl hG hn hk ht hA hQ X
    subst hG hl
    have X : XC Z "NestedDeeds$Walker" prog_10_method_8_code none := X
    have hk0 : zk Z ≤ (zR Z).cells := hk ▸ Nat.zero_le _
    have ht0 : zt Z ≤ (zR Z).slots := ht ▸ Nat.zero_le _
    have hk6s := hok.base.2.2.2.1
    have LP : ∀ (m t : Nat) (τ : St), t + m = 4000 → OKw k d t τ → gN τ 9 ≤ 20000 → wlk k d t τ = wlk k d 0 σ → V Z (cw (zG Z) a τ) [(3, .int (nI t)), (0, .ref (a 15)), (1, .int (nI k)), (2, .int (nI lo))] 2 [] := by
      intro m
      induction m with
      | zero =>
        intro t τ h1 h4 h3 h5
        obtain ⟨htk, hkb, hkd, hk6, hk7, hov⟩ := h4.base
        have hend : ¬ (t < npt τ d ∧ t < 4000) := by omega
        refine V.iload_n X 0 dX8_byCalls_2 rfl rfl ?_
        refine V.sipush X (v := nI 4000) dX8_byCalls_3 (by decide) ?_
        refine V.icmp_geN X 100 dX8_byCalls_6 (by decide) (by omega) (by decide) (fun c6 => ?_) (fun c6 => by exfalso; omega)
        refine V.aload_n X 1 dX8_byCalls_100 rfl rfl ?_
        refine Vg_c_15_task (x := gN (τ) 12) X tw_338 dX8_byCalls_101 rfl ?_
        refine V.iload_n X 2 dX8_byCalls_104 rfl rfl ?_
        refine V.aload_n X 1 dX8_byCalls_105 rfl rfl ?_
        refine Vg_c_15_deedAt X tw_322 dX8_byCalls_106 ?_
        refine V.iload_n X 2 dX8_byCalls_109 rfl rfl ?_
        refine Va_c_deedAt (x := gA (τ) 6 k) X (by omega) dX8_byCalls_110 rfl ?_
        refine V.topi (y := nI d) (by rw [hk6]) ?_
        refine Wk_leave (σ := τ) X htk (h4.last hend).1 (len hRf (by omega)) (len hRl (by omega)) hk0 ht0 (Nat.le_of_ble_eq_true rfl) dX8_byCalls_111 ?_
        exact V.vret X rfl hA hk ht hQ rfl dX8_byCalls_114 (⟨rfl, by rw [← h5, wlk_end hend]⟩)
      | succ m ih =>
        intro t τ h1 h4 h3 h5
        obtain ⟨htk, hkb, hkd, hk6, hk7, hov⟩ := h4.base
        have hpn := h4.preN (by omega)
        have hd15 := hkd.1
        rcases hnx : nxtR τ k with _ | p
        · have hq : tLeave (nxtS τ k) k (gA (nxtS τ k) 6 k) = wlk k d t τ ∧ pL (nxtS τ k) k (gA (nxtS τ k) 6 k) ∧ gN (nxtS τ k) 12 = gN τ 12 := by
            have hr : OKr k 0 τ := ⟨by rw [hk6, hk7]; exact h4, by omega⟩
            have := st_none hr hnx
            rw [Nat.add_zero, hk6, hk7] at this
            exact ⟨this.1, this.2.1, this.2.2.1⟩
          obtain ⟨g1, g2, g3⟩ := hq
          have htk3 : isT (gN (nxtS τ k) 12) := by rw [g3]; exact htk
          refine V.iload_n X 0 dX8_byCalls_2 rfl rfl ?_
          refine V.sipush X (v := nI 4000) dX8_byCalls_3 (by decide) ?_
          refine V.icmp_geN X 100 dX8_byCalls_6 (by decide) (by omega) (by decide) (fun c6 => by exfalso; omega) (fun c6 => ?_)
          refine V.aload_n X 1 dX8_byCalls_9 rfl rfl ?_
          refine V.iload_n X 2 dX8_byCalls_10 rfl rfl ?_
          refine V.callV X rfl (w_nextPart (zl Z) (zG Z) a (τ) k (hpn)) cv_X8_102 rfl 15 rfl rfl (len hRf (by omega)) (len hRl (by omega)) hk0 ht0 [] rfl (Nat.le_of_ble_eq_true rfl) dX8_byCalls_11 ?_
          rintro _ _ ⟨rfl, rfl⟩
          refine V.eqs (st' := [.int (oI (nxtR (τ) k))]) rfl ?_
          refine V.topi (y := -1) (by rw [hnx]; rfl) ?_
          refine V.istore X (lv' := [(4, .int (-1)), (3, .int (nI t)), (0, .ref (a 15)), (1, .int (nI k)), (2, .int (nI lo))]) dX8_byCalls_14 (ltn hn (by decide)) rfl ?_
          refine V.iload X 0 dX8_byCalls_16 rfl ?_
          refine V.iconst X (v := -1) dX8_byCalls_18 (by decide) ?_
          refine V.icmp_ne X 25 dX8_byCalls_19 (by decide) (fun c19 => by exfalso; exact c19 rfl) (fun c19 => ?_)
          refine V.goto X 100 dX8_byCalls_22 (by decide) ?_
          refine V.aload_n X 2 dX8_byCalls_100 rfl rfl ?_
          refine Vg_c_15_task (x := gN (nxtS (τ) k) 12) X tw_338 dX8_byCalls_101 rfl ?_
          refine V.iload_n X 3 dX8_byCalls_104 rfl rfl ?_
          refine V.aload_n X 2 dX8_byCalls_105 rfl rfl ?_
          refine Vg_c_15_deedAt X tw_322 dX8_byCalls_106 ?_
          refine V.iload_n X 3 dX8_byCalls_109 rfl rfl ?_
          refine Va_c_deedAt (x := gA (nxtS (τ) k) 6 k) X (by omega) dX8_byCalls_110 rfl ?_
          refine Wk_leave (σ := (nxtS (τ) k)) X htk3 g2 (len hRf (by omega)) (len hRl (by omega)) hk0 ht0 (Nat.le_of_ble_eq_true rfl) dX8_byCalls_111 ?_
          exact V.vret X rfl hA hk ht hQ rfl dX8_byCalls_114 (⟨rfl, by rw [g1, h5]⟩)
        · have hlt : t < npt τ d ∧ t < 4000 := by
            refine ⟨?_, by omega⟩
            rcases Nat.lt_or_ge t (npt τ d) with q | q
            · exact q
            · rw [(nxt_end hk6 hk7 (Nat.not_lt.mpr q)).2] at hnx; cases hnx
          obtain ⟨e1, e2⟩ := nxt_eq hk6 hk7 hlt.1
          rw [e2] at hnx
          obtain ⟨hp, a1, a2, a3⟩ := h4.some hlt hnx
          have hws := wlk_some hlt hnx hp
          have hnx2 : nxtR τ k = some p := by rw [e2]; exact hnx
          rw [← e1] at a1 a2 a3 hws
          have h39 : gN (visS (nxtS τ k) (k + 1) p) 9 ≤ 20000 := visS_9le (by rw [e1, tChS_9]; exact h3)
          refine V.iload_n X 0 dX8_byCalls_2 rfl rfl ?_
          refine V.sipush X (v := nI 4000) dX8_byCalls_3 (by decide) ?_
          refine V.icmp_geN X 100 dX8_byCalls_6 (by decide) (by omega) (by decide) (fun c6 => by exfalso; omega) (fun c6 => ?_)
          refine V.aload_n X 1 dX8_byCalls_9 rfl rfl ?_
          refine V.iload_n X 2 dX8_byCalls_10 rfl rfl ?_
          refine V.callV X rfl (w_nextPart (zl Z) (zG Z) a (τ) k (hpn)) cv_X8_102 rfl 15 rfl rfl (len hRf (by omega)) (len hRl (by omega)) hk0 ht0 [] rfl (Nat.le_of_ble_eq_true rfl) dX8_byCalls_11 ?_
          rintro _ _ ⟨rfl, rfl⟩
          refine V.eqs (st' := [.int (oI (nxtR (τ) k))]) rfl ?_
          refine V.topi (y := nI p) (by rw [hnx2]; rfl) ?_
          refine V.istore X (lv' := [(4, .int (nI p)), (3, .int (nI t)), (0, .ref (a 15)), (1, .int (nI k)), (2, .int (nI lo))]) dX8_byCalls_14 (ltn hn (by decide)) rfl ?_
          refine V.iload X 0 dX8_byCalls_16 rfl ?_
          refine V.iconst X (v := -1) dX8_byCalls_18 (by decide) ?_
          refine V.icmp_ne X 25 dX8_byCalls_19 (by decide) (fun c19 => ?_) (fun c19 => by exfalso; exact nI_nm1 (by omega) c19)
          refine V.aload_n X 2 dX8_byCalls_25 rfl rfl ?_
          refine V.iload_n X 3 dX8_byCalls_26 rfl rfl ?_
          refine V.iconst X (v := nI 1) dX8_byCalls_27 (by decide) ?_
          refine V.iaddN X dX8_byCalls_28 ?_
          refine V.iload X 0 dX8_byCalls_29 rfl ?_
          refine V.callV X rfl (w_visit (zl Z) (zG Z) a (nxtS (τ) k) (k + 1) p (a1)) cv_X8_64 rfl 15 rfl rfl (len hRf (by omega)) (len hRl (by omega)) hk0 ht0 [] rfl (Nat.le_of_ble_eq_true rfl) dX8_byCalls_31 ?_
          rintro _ _ ⟨rfl, rfl⟩
          refine V.eqs (st' := [.int (bI (!ovr (visS (nxtS (τ) k) (k + 1) p)))]) rfl ?_
          refine V.if_neB X 38 dX8_byCalls_34 (by decide) (fun c34 => ?_) (fun c34 => ?_)
          · have ho3 : ovr (visS (nxtS τ k) (k + 1) p) = false := by simpa using c34
            obtain ⟨b1, b2, b3, b4, b5⟩ := a3 ho3
            obtain ⟨q1, q2, q3, q4, q5, q6⟩ := b1.base
            rw [if_neg (by rw [ho3]; decide)] at hws
            have hw12 : isT (gN (wlk (k + 1) p 0 (visS (nxtS τ k) (k + 1) p)) 12) := by rw [wlk_12]; exact q1
            refine V.iload_n X 3 dX8_byCalls_38 rfl rfl ?_
            refine V.iload_n X 4 dX8_byCalls_39 rfl rfl ?_
            refine V.icmp_geN X 54 dX8_byCalls_40 (by decide) (by omega) (by omega) (fun c40 => ?_) (fun c40 => by exfalso; omega)
            refine V.aload_n X 2 dX8_byCalls_54 rfl rfl ?_
            refine V.iload_n X 3 dX8_byCalls_55 rfl rfl ?_
            refine V.iconst X (v := nI 1) dX8_byCalls_56 (by decide) ?_
            refine V.iaddN X dX8_byCalls_57 ?_
            refine V.callV X rfl (w_byStack (zl Z) (zG Z) a (visS (nxtS τ k) (k + 1) p) (k + 1) (by omega) ⟨by rw [q4, q5]; exact b1, by rw [q5]; omega⟩ h39) cv_X8_68 rfl 15 rfl rfl (len hRf (by omega)) (len hRl (by omega)) hk0 ht0 [] rfl (Nat.le_of_ble_eq_true rfl) dX8_byCalls_58 ?_
            rintro _ _ ⟨rfl, rfl⟩
            refine V.eqs (st' := []) rfl ?_
            refine V.eqw (ws' := cw (zG Z) a (wlk (k + 1) p 0 (visS (nxtS τ k) (k + 1) p))) (by show cw (zG Z) a (wlk (k + 1) _ _ _) = _; rw [q4, q5]) ?_
            refine V.aload_n X 2 dX8_byCalls_61 rfl rfl ?_
            refine Vg_c_15_task (x := gN (wlk (k + 1) p 0 (visS (nxtS τ k) (k + 1) p)) 12) X tw_338 dX8_byCalls_62 rfl ?_
            refine Vg_over (x := gB (wlk (k + 1) p 0 (visS (nxtS τ k) (k + 1) p)) (gN (wlk (k + 1) p 0 (visS (nxtS τ k) (k + 1) p)) 12)) X tw_201 dX8_byCalls_65 rfl hw12 ?_
            refine V.if_eqB X 72 dX8_byCalls_68 (by decide) (fun c68 => ?_) (fun c68 => ?_)
            · rw [if_neg (by rw [show ovr (wlk (k + 1) p 0 (visS (nxtS τ k) (k + 1) p)) = false from c68]; decide)] at hws
              refine V.aload_n X 2 dX8_byCalls_72 rfl rfl ?_
              refine Vg_c_15_task (x := gN (wlk (k + 1) p 0 (visS (nxtS τ k) (k + 1) p)) 12) X tw_338 dX8_byCalls_73 rfl ?_
              refine V.iload_n X 3 dX8_byCalls_76 rfl rfl ?_
              refine V.aload_n X 2 dX8_byCalls_77 rfl rfl ?_
              refine Vg_c_15_deedAt X tw_322 dX8_byCalls_78 ?_
              refine V.iload_n X 3 dX8_byCalls_81 rfl rfl ?_
              refine Va_c_deedAt (x := gA (wlk (k + 1) p 0 (visS (nxtS τ k) (k + 1) p)) 6 k) X (by omega) dX8_byCalls_82 rfl ?_
              refine V.topi (y := nI d) (by rw [b3]) ?_
              refine V.aload_n X 2 dX8_byCalls_83 rfl rfl ?_
              refine Vg_c_15_turnAt X tw_323 dX8_byCalls_84 ?_
              refine V.iload_n X 3 dX8_byCalls_87 rfl rfl ?_
              refine Va_c_turnAt (x := gA (wlk (k + 1) p 0 (visS (nxtS τ k) (k + 1) p)) 7 k) X (by omega) dX8_byCalls_88 rfl ?_
              refine V.topi (y := nI (t + 1)) (by rw [b4]) ?_
              refine V.iconst X (v := nI 1) dX8_byCalls_89 (by decide) ?_
              refine V.isubN X dX8_byCalls_90 (by omega) ?_
              refine V.topi (y := nI t) (by rw [Nat.add_sub_cancel]) ?_
              refine Wk_takeUp (σ := (wlk (k + 1) p 0 (visS (nxtS τ k) (k + 1) p))) X hw12 b2 (len hRf (by omega)) (len hRl (by omega)) hk0 ht0 (Nat.le_of_ble_eq_true rfl) dX8_byCalls_91 ?_
              refine V.iinc X (v := nI (t + 1)) (lv' := [(3, .int (nI (t + 1))), (4, .int (nI p)), (0, .ref (a 15)), (1, .int (nI k)), (2, .int (nI lo))]) (k0 := 1) dX8_byCalls_94 rfl (inc_1 _) (ltn hn (by decide)) rfl ?_
              refine V.goto X 2 dX8_byCalls_97 (by decide) ?_
              exact V.sub [0, 2, 3, 4] rfl (ih (t + 1) _ (by omega) (b5 c68) (by rw [tTake_9]; exact wlk_9le _ _ _ _ h39) (by rw [← h5, hws]))
            · exact V.vret X rfl hA hk ht hQ rfl dX8_byCalls_71 (⟨rfl, by rw [← h5, hws, if_pos (show ovr (wlk (k + 1) p 0 (visS (nxtS τ k) (k + 1) p)) = true from c68)]⟩)
          · exact V.vret X rfl hA hk ht hQ rfl dX8_byCalls_37 (⟨rfl, by rw [← h5, hws, if_pos (by simpa using c34)]⟩)
    refine V.iconst X (v := nI 0) dX8_byCalls_0 (by decide) ?_
    refine V.istore_n X (lv' := [(3, .int (nI 0)), (0, .ref (a 15)), (1, .int (nI k)), (2, .int (nI lo))]) dX8_byCalls_1 rfl (ltn hn (by decide)) rfl ?_
    exact V.sub [0, 1, 2, 3] rfl (LP 4000 0 σ (by omega) hok hv rfl)
  | succ j ihj =>
    intro k d σ hkj hk1 hok hv
    refine MM.of (lv := [(0, .ref (a 15)), (1, .int (nI k)), (2, .int (nI lo))]) (by decide +kernel) rfl (Nat.le_of_ble_eq_true rfl) ?_
    intro Z hRf hRl hl hG hn hk ht hA hQ X
    subst hG hl
    have X : XC Z "NestedDeeds$Walker" prog_10_method_8_code none := X
    have hk0 : zk Z ≤ (zR Z).cells := hk ▸ Nat.zero_le _
    have ht0 : zt Z ≤ (zR Z).slots := ht ▸ Nat.zero_le _
    have hk6s := hok.base.2.2.2.1
    have LP : ∀ (m t : Nat) (τ : St), t + m = 4000 → OKw k d t τ → gN τ 9 ≤ 20000 → wlk k d t τ = wlk k d 0 σ → V Z (cw (zG Z) a τ) [(3, .int (nI t)), (0, .ref (a 15)), (1, .int (nI k)), (2, .int (nI lo))] 2 [] := by
      intro m
      induction m with
      | zero =>
        intro t τ h1 h4 h3 h5
        obtain ⟨htk, hkb, hkd, hk6, hk7, hov⟩ := h4.base
        have hend : ¬ (t < npt τ d ∧ t < 4000) := by omega
        refine V.iload_n X 0 dX8_byCalls_2 rfl rfl ?_
        refine V.sipush X (v := nI 4000) dX8_byCalls_3 (by decide) ?_
        refine V.icmp_geN X 100 dX8_byCalls_6 (by decide) (by omega) (by decide) (fun c6 => ?_) (fun c6 => by exfalso; omega)
        refine V.aload_n X 1 dX8_byCalls_100 rfl rfl ?_
        refine Vg_c_15_task (x := gN (τ) 12) X tw_338 dX8_byCalls_101 rfl ?_
        refine V.iload_n X 2 dX8_byCalls_104 rfl rfl ?_
        refine V.aload_n X 1 dX8_byCalls_105 rfl rfl ?_
        refine Vg_c_15_deedAt X tw_322 dX8_byCalls_106 ?_
        refine V.iload_n X 2 dX8_byCalls_109 rfl rfl ?_
        refine Va_c_deedAt (x := gA (τ) 6 k) X (by omega) dX8_byCalls_110 rfl ?_
        refine V.topi (y := nI d) (by rw [hk6]) ?_
        refine Wk_leave (σ := τ) X htk (h4.last hend).1 (len hRf (by omega)) (len hRl (by omega)) hk0 ht0 (Nat.le_of_ble_eq_true rfl) dX8_byCalls_111 ?_
        exact V.vret X rfl hA hk ht hQ rfl dX8_byCalls_114 (⟨rfl, by rw [← h5, wlk_end hend]⟩)
      | succ m ih =>
        intro t τ h1 h4 h3 h5
        obtain ⟨htk, hkb, hkd, hk6, hk7, hov⟩ := h4.base
        have hpn := h4.preN (by omega)
        have hd15 := hkd.1
        rcases hnx : nxtR τ k with _ | p
        · have hq : tLeave (nxtS τ k) k (gA (nxtS τ k) 6 k) = wlk k d t τ ∧ pL (nxtS τ k) k (gA (nxtS τ k) 6 k) ∧ gN (nxtS τ k) 12 = gN τ 12 := by
            have hr : OKr k 0 τ := ⟨by rw [hk6, hk7]; exact h4, by omega⟩
            have := st_none hr hnx
            rw [Nat.add_zero, hk6, hk7] at this
            exact ⟨this.1, this.2.1, this.2.2.1⟩
          obtain ⟨g1, g2, g3⟩ := hq
          have htk3 : isT (gN (nxtS τ k) 12) := by rw [g3]; exact htk
          refine V.iload_n X 0 dX8_byCalls_2 rfl rfl ?_
          refine V.sipush X (v := nI 4000) dX8_byCalls_3 (by decide) ?_
          refine V.icmp_geN X 100 dX8_byCalls_6 (by decide) (by omega) (by decide) (fun c6 => by exfalso; omega) (fun c6 => ?_)
          refine V.aload_n X 1 dX8_byCalls_9 rfl rfl ?_
          refine V.iload_n X 2 dX8_byCalls_10 rfl rfl ?_
          refine V.callV X rfl (w_nextPart (zl Z) (zG Z) a (τ) k (hpn)) cv_X8_102 rfl 15 rfl rfl (len hRf (by omega)) (len hRl (by omega)) hk0 ht0 [] rfl (Nat.le_of_ble_eq_true rfl) dX8_byCalls_11 ?_
          rintro _ _ ⟨rfl, rfl⟩
          refine V.eqs (st' := [.int (oI (nxtR (τ) k))]) rfl ?_
          refine V.topi (y := -1) (by rw [hnx]; rfl) ?_
          refine V.istore X (lv' := [(4, .int (-1)), (3, .int (nI t)), (0, .ref (a 15)), (1, .int (nI k)), (2, .int (nI lo))]) dX8_byCalls_14 (ltn hn (by decide)) rfl ?_
          refine V.iload X 0 dX8_byCalls_16 rfl ?_
          refine V.iconst X (v := -1) dX8_byCalls_18 (by decide) ?_
          refine V.icmp_ne X 25 dX8_byCalls_19 (by decide) (fun c19 => by exfalso; exact c19 rfl) (fun c19 => ?_)
          refine V.goto X 100 dX8_byCalls_22 (by decide) ?_
          refine V.aload_n X 2 dX8_byCalls_100 rfl rfl ?_
          refine Vg_c_15_task (x := gN (nxtS (τ) k) 12) X tw_338 dX8_byCalls_101 rfl ?_
          refine V.iload_n X 3 dX8_byCalls_104 rfl rfl ?_
          refine V.aload_n X 2 dX8_byCalls_105 rfl rfl ?_
          refine Vg_c_15_deedAt X tw_322 dX8_byCalls_106 ?_
          refine V.iload_n X 3 dX8_byCalls_109 rfl rfl ?_
          refine Va_c_deedAt (x := gA (nxtS (τ) k) 6 k) X (by omega) dX8_byCalls_110 rfl ?_
          refine Wk_leave (σ := (nxtS (τ) k)) X htk3 g2 (len hRf (by omega)) (len hRl (by omega)) hk0 ht0 (Nat.le_of_ble_eq_true rfl) dX8_byCalls_111 ?_
          exact V.vret X rfl hA hk ht hQ rfl dX8_byCalls_114 (⟨rfl, by rw [g1, h5]⟩)
        · have hlt : t < npt τ d ∧ t < 4000 := by
            refine ⟨?_, by omega⟩
            rcases Nat.lt_or_ge t (npt τ d) with q | q
            · exact q
            · rw [(nxt_end hk6 hk7 (Nat.not_lt.mpr q)).2] at hnx; cases hnx
          obtain ⟨e1, e2⟩ := nxt_eq hk6 hk7 hlt.1
          rw [e2] at hnx
          obtain ⟨hp, a1, a2, a3⟩ := h4.some hlt hnx
          have hws := wlk_some hlt hnx hp
          have hnx2 : nxtR τ k = some p := by rw [e2]; exact hnx
          rw [← e1] at a1 a2 a3 hws
          have h39 : gN (visS (nxtS τ k) (k + 1) p) 9 ≤ 20000 := visS_9le (by rw [e1, tChS_9]; exact h3)
          refine V.iload_n X 0 dX8_byCalls_2 rfl rfl ?_
          refine V.sipush X (v := nI 4000) dX8_byCalls_3 (by decide) ?_
          refine V.icmp_geN X 100 dX8_byCalls_6 (by decide) (by omega) (by decide) (fun c6 => by exfalso; omega) (fun c6 => ?_)
          refine V.aload_n X 1 dX8_byCalls_9 rfl rfl ?_
          refine V.iload_n X 2 dX8_byCalls_10 rfl rfl ?_
          refine V.callV X rfl (w_nextPart (zl Z) (zG Z) a (τ) k (hpn)) cv_X8_102 rfl 15 rfl rfl (len hRf (by omega)) (len hRl (by omega)) hk0 ht0 [] rfl (Nat.le_of_ble_eq_true rfl) dX8_byCalls_11 ?_
          rintro _ _ ⟨rfl, rfl⟩
          refine V.eqs (st' := [.int (oI (nxtR (τ) k))]) rfl ?_
          refine V.topi (y := nI p) (by rw [hnx2]; rfl) ?_
          refine V.istore X (lv' := [(4, .int (nI p)), (3, .int (nI t)), (0, .ref (a 15)), (1, .int (nI k)), (2, .int (nI lo))]) dX8_byCalls_14 (ltn hn (by decide)) rfl ?_
          refine V.iload X 0 dX8_byCalls_16 rfl ?_
          refine V.iconst X (v := -1) dX8_byCalls_18 (by decide) ?_
          refine V.icmp_ne X 25 dX8_byCalls_19 (by decide) (fun c19 => ?_) (fun c19 => by exfalso; exact nI_nm1 (by omega) c19)
          refine V.aload_n X 2 dX8_byCalls_25 rfl rfl ?_
          refine V.iload_n X 3 dX8_byCalls_26 rfl rfl ?_
          refine V.iconst X (v := nI 1) dX8_byCalls_27 (by decide) ?_
          refine V.iaddN X dX8_byCalls_28 ?_
          refine V.iload X 0 dX8_byCalls_29 rfl ?_
          refine V.callV X rfl (w_visit (zl Z) (zG Z) a (nxtS (τ) k) (k + 1) p (a1)) cv_X8_64 rfl 15 rfl rfl (len hRf (by omega)) (len hRl (by omega)) hk0 ht0 [] rfl (Nat.le_of_ble_eq_true rfl) dX8_byCalls_31 ?_
          rintro _ _ ⟨rfl, rfl⟩
          refine V.eqs (st' := [.int (bI (!ovr (visS (nxtS (τ) k) (k + 1) p)))]) rfl ?_
          refine V.if_neB X 38 dX8_byCalls_34 (by decide) (fun c34 => ?_) (fun c34 => ?_)
          · have ho3 : ovr (visS (nxtS τ k) (k + 1) p) = false := by simpa using c34
            obtain ⟨b1, b2, b3, b4, b5⟩ := a3 ho3
            obtain ⟨q1, q2, q3, q4, q5, q6⟩ := b1.base
            rw [if_neg (by rw [ho3]; decide)] at hws
            have hw12 : isT (gN (wlk (k + 1) p 0 (visS (nxtS τ k) (k + 1) p)) 12) := by rw [wlk_12]; exact q1
            refine V.iload_n X 3 dX8_byCalls_38 rfl rfl ?_
            refine V.iload_n X 4 dX8_byCalls_39 rfl rfl ?_
            refine V.icmp_geN X 54 dX8_byCalls_40 (by decide) (by omega) (by omega) (fun c40 => by exfalso; omega) (fun c40 => ?_)
            refine V.aload_n X 2 dX8_byCalls_43 rfl rfl ?_
            refine V.iload_n X 3 dX8_byCalls_44 rfl rfl ?_
            refine V.iconst X (v := nI 1) dX8_byCalls_45 (by decide) ?_
            refine V.iaddN X dX8_byCalls_46 ?_
            refine V.iload_n X 4 dX8_byCalls_47 rfl rfl ?_
            refine V.callV X rfl (ihj (k + 1) p (visS (nxtS τ k) (k + 1) p) (by omega) (by omega) b1 h39) cv_X8_81 rfl 15 rfl rfl (len hRf (by omega)) (len hRl (by omega)) hk0 ht0 [] rfl (Nat.le_of_ble_eq_true rfl) dX8_byCalls_48 ?_
            rintro _ _ ⟨rfl, rfl⟩
            refine V.eqs (st' := []) rfl ?_
            refine V.goto X 61 dX8_byCalls_51 (by decide) ?_
            refine V.aload_n X 2 dX8_byCalls_61 rfl rfl ?_
            refine Vg_c_15_task (x := gN (wlk (k + 1) p 0 (visS (nxtS τ k) (k + 1) p)) 12) X tw_338 dX8_byCalls_62 rfl ?_
            refine Vg_over (x := gB (wlk (k + 1) p 0 (visS (nxtS τ k) (k + 1) p)) (gN (wlk (k + 1) p 0 (visS (nxtS τ k) (k + 1) p)) 12)) X tw_201 dX8_byCalls_65 rfl hw12 ?_
            refine V.if_eqB X 72 dX8_byCalls_68 (by decide) (fun c68 => ?_) (fun c68 => ?_)
            · rw [if_neg (by rw [show ovr (wlk (k + 1) p 0 (visS (nxtS τ k) (k + 1) p)) = false from c68]; decide)] at hws
              refine V.aload_n X 2 dX8_byCalls_72 rfl rfl ?_
              refine Vg_c_15_task (x := gN (wlk (k + 1) p 0 (visS (nxtS τ k) (k + 1) p)) 12) X tw_338 dX8_byCalls_73 rfl ?_
              refine V.iload_n X 3 dX8_byCalls_76 rfl rfl ?_
              refine V.aload_n X 2 dX8_byCalls_77 rfl rfl ?_
              refine Vg_c_15_deedAt X tw_322 dX8_byCalls_78 ?_
              refine V.iload_n X 3 dX8_byCalls_81 rfl rfl ?_
              refine Va_c_deedAt (x := gA (wlk (k + 1) p 0 (visS (nxtS τ k) (k + 1) p)) 6 k) X (by omega) dX8_byCalls_82 rfl ?_
              refine V.topi (y := nI d) (by rw [b3]) ?_
              refine V.aload_n X 2 dX8_byCalls_83 rfl rfl ?_
              refine Vg_c_15_turnAt X tw_323 dX8_byCalls_84 ?_
              refine V.iload_n X 3 dX8_byCalls_87 rfl rfl ?_
              refine Va_c_turnAt (x := gA (wlk (k + 1) p 0 (visS (nxtS τ k) (k + 1) p)) 7 k) X (by omega) dX8_byCalls_88 rfl ?_
              refine V.topi (y := nI (t + 1)) (by rw [b4]) ?_
              refine V.iconst X (v := nI 1) dX8_byCalls_89 (by decide) ?_
              refine V.isubN X dX8_byCalls_90 (by omega) ?_
              refine V.topi (y := nI t) (by rw [Nat.add_sub_cancel]) ?_
              refine Wk_takeUp (σ := (wlk (k + 1) p 0 (visS (nxtS τ k) (k + 1) p))) X hw12 b2 (len hRf (by omega)) (len hRl (by omega)) hk0 ht0 (Nat.le_of_ble_eq_true rfl) dX8_byCalls_91 ?_
              refine V.iinc X (v := nI (t + 1)) (lv' := [(3, .int (nI (t + 1))), (4, .int (nI p)), (0, .ref (a 15)), (1, .int (nI k)), (2, .int (nI lo))]) (k0 := 1) dX8_byCalls_94 rfl (inc_1 _) (ltn hn (by decide)) rfl ?_
              refine V.goto X 2 dX8_byCalls_97 (by decide) ?_
              exact V.sub [0, 2, 3, 4] rfl (ih (t + 1) _ (by omega) (b5 c68) (by rw [tTake_9]; exact wlk_9le _ _ _ _ h39) (by rw [← h5, hws]))
            · exact V.vret X rfl hA hk ht hQ rfl dX8_byCalls_71 (⟨rfl, by rw [← h5, hws, if_pos (show ovr (wlk (k + 1) p 0 (visS (nxtS τ k) (k + 1) p)) = true from c68)]⟩)
          · exact V.vret X rfl hA hk ht hQ rfl dX8_byCalls_37 (⟨rfl, by rw [← h5, hws, if_pos (by simpa using c34)]⟩)
    refine V.iconst X (v := nI 0) dX8_byCalls_0 (by decide) ?_
    refine V.istore_n X (lv' := [(3, .int (nI 0)), (0, .ref (a 15)), (1, .int (nI k)), (2, .int (nI lo))]) dX8_byCalls_1 rfl (ltn hn (by decide)) rfl ?_
    exact V.sub [0, 1, 2, 3] rfl (LP 4000 0 σ (by omega) hok hv rfl)

