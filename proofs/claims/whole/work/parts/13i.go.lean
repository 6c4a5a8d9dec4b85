theorem tEnter_7 (σ : St) (k d : Nat) : gN (tEnter σ k d) 7 = gN σ 7 := by simp only [tEnter]; (repeat' split) <;> rfl
theorem tChS_7 (σ : St) (k d t : Nat) : gN (tChS σ k d t) 7 = gN σ 7 := by
  simp only [tChS]; split
  · simp only [tC24]; split <;> rfl
  · split <;> rfl
theorem tTake_7 (σ : St) (k d t : Nat) : gN (tTake σ k d t) 7 = gN σ 7 := by
  simp only [tTake]; split
  · simp only [tT21]; (repeat' split) <;> rfl
  · (repeat' split) <;> rfl
theorem tLeave_7 (σ : St) (k d : Nat) : gN (tLeave σ k d) 7 = gN σ 7 := by
  simp only [tLeave]; split
  · rfl
  · split
    · rfl
    · split
      · simp only [tL28]; split <;> rfl
      · rfl
theorem visS_7 (σ : St) (k d : Nat) : gN (visS σ k d) 7 = gN σ 7 := by
  simp only [visS]; split
  · rfl
  · split
    · rfl
    · rw [tEnter_7]; rfl
theorem wlk_7 : ∀ (k d t : Nat) (σ : St), gN (wlk k d t σ) 7 = gN σ 7 := by
  intro k d t σ
  induction k, d, t, σ using wlk.induct with
  | case1 k d t σ ht hc => rw [wlk_none ht hc, tLeave_7, tChS_7]; rfl
  | case2 k d t σ ht p hc hp h1 => rw [wlk_some ht hc hp, if_pos h1, visS_7, tChS_7]; rfl
  | case3 k d t σ ht p hc hp h1 h2 ih => rw [wlk_some ht hc hp, if_neg h1, if_pos h2, ih, visS_7, tChS_7]; rfl
  | case4 k d t σ ht p hc hp h1 h2 ih1 ih2 => rw [wlk_some ht hc hp, if_neg h1, if_neg h2, ih2, tTake_7, ih1, visS_7, tChS_7]; rfl
  | case5 k d t σ ht p hc hp => rw [wlk, dif_pos ht, hc]; simp only [dif_neg hp]
  | case6 k d t σ ht => rw [wlk_end ht, tLeave_7]

theorem tEnter_8 (σ : St) (k d : Nat) : gN (tEnter σ k d) 8 = gN σ 8 := by simp only [tEnter]; (repeat' split) <;> rfl
theorem tChS_8 (σ : St) (k d t : Nat) : gN (tChS σ k d t) 8 = gN σ 8 := by
  simp only [tChS]; split
  · simp only [tC24]; split <;> rfl
  · split <;> rfl
theorem tTake_8 (σ : St) (k d t : Nat) : gN (tTake σ k d t) 8 = gN σ 8 := by
  simp only [tTake]; split
  · simp only [tT21]; (repeat' split) <;> rfl
  · (repeat' split) <;> rfl
theorem tLeave_8 (σ : St) (k d : Nat) : gN (tLeave σ k d) 8 = gN σ 8 := by
  simp only [tLeave]; split
  · rfl
  · split
    · rfl
    · split
      · simp only [tL28]; split <;> rfl
      · rfl
theorem visS_8 (σ : St) (k d : Nat) : gN (visS σ k d) 8 = gN σ 8 := by
  simp only [visS]; split
  · rfl
  · split
    · rfl
    · rw [tEnter_8]; rfl
theorem wlk_8 : ∀ (k d t : Nat) (σ : St), gN (wlk k d t σ) 8 = gN σ 8 := by
  intro k d t σ
  induction k, d, t, σ using wlk.induct with
  | case1 k d t σ ht hc => rw [wlk_none ht hc, tLeave_8, tChS_8]; rfl
  | case2 k d t σ ht p hc hp h1 => rw [wlk_some ht hc hp, if_pos h1, visS_8, tChS_8]; rfl
  | case3 k d t σ ht p hc hp h1 h2 ih => rw [wlk_some ht hc hp, if_neg h1, if_pos h2, ih, visS_8, tChS_8]; rfl
  | case4 k d t σ ht p hc hp h1 h2 ih1 ih2 => rw [wlk_some ht hc hp, if_neg h1, if_neg h2, ih2, tTake_8, ih1, visS_8, tChS_8]; rfl
  | case5 k d t σ ht p hc hp => rw [wlk, dif_pos ht, hc]; simp only [dif_neg hp]
  | case6 k d t σ ht => rw [wlk_end ht, tLeave_8]

theorem tEnter_13 (σ : St) (k d : Nat) : gN (tEnter σ k d) 13 = gN σ 13 := by simp only [tEnter]; (repeat' split) <;> rfl
theorem tChS_13 (σ : St) (k d t : Nat) : gN (tChS σ k d t) 13 = gN σ 13 := by
  simp only [tChS]; split
  · simp only [tC24]; split <;> rfl
  · split <;> rfl
theorem tTake_13 (σ : St) (k d t : Nat) : gN (tTake σ k d t) 13 = gN σ 13 := by
  simp only [tTake]; split
  · simp only [tT21]; (repeat' split) <;> rfl
  · (repeat' split) <;> rfl
theorem tLeave_13 (σ : St) (k d : Nat) : gN (tLeave σ k d) 13 = gN σ 13 := by
  simp only [tLeave]; split
  · rfl
  · split
    · rfl
    · split
      · simp only [tL28]; split <;> rfl
      · rfl
theorem visS_13 (σ : St) (k d : Nat) : gN (visS σ k d) 13 = gN σ 13 := by
  simp only [visS]; split
  · rfl
  · split
    · rfl
    · rw [tEnter_13]; rfl
theorem wlk_13 : ∀ (k d t : Nat) (σ : St), gN (wlk k d t σ) 13 = gN σ 13 := by
  intro k d t σ
  induction k, d, t, σ using wlk.induct with
  | case1 k d t σ ht hc => rw [wlk_none ht hc, tLeave_13, tChS_13]; rfl
  | case2 k d t σ ht p hc hp h1 => rw [wlk_some ht hc hp, if_pos h1, visS_13, tChS_13]; rfl
  | case3 k d t σ ht p hc hp h1 h2 ih => rw [wlk_some ht hc hp, if_neg h1, if_pos h2, ih, visS_13, tChS_13]; rfl
  | case4 k d t σ ht p hc hp h1 h2 ih1 ih2 => rw [wlk_some ht hc hp, if_neg h1, if_neg h2, ih2, tTake_13, ih1, visS_13, tChS_13]; rfl
  | case5 k d t σ ht p hc hp => rw [wlk, dif_pos ht, hc]; simp only [dif_neg hp]
  | case6 k d t σ ht => rw [wlk_end ht, tLeave_13]

/-- a walk's start -/
def goS (σ : St) (tk : Nat) : St := sN (sN (sN (sI (sB (sN σ 12 tk) tk false) 2 0) 9 0) 10 0) 13 (if gN σ 7 = 0 then gN σ 8 else 1500)
def goW (σ : St) (tk j : Nat) : St := if ovr (visS (goS σ tk) 1 j) = true then visS (goS σ tk) 1 j else wlk 1 j 0 (visS (goS σ tk) 1 j)
def goC (σ : St) (W : St) : Nat := if gN σ 7 = 0 ∨ gN σ 7 = 3 then min (gN W 10) (gN σ 8) else 0
def goF (σ : St) (tk j : Nat) : St := sN (goW σ tk j) 11 (goC σ (goW σ tk j))
/-- what a walk asks -/
def preG (σ : St) (tk j : Nat) : Prop := isT tk ∧ gN σ 7 ≤ 3 ∧ 1 ≤ gN σ 8 ∧ gN σ 8 ≤ 300 ∧ preV (goS σ tk) 1 j ∧ (ovr (visS (goS σ tk) 1 j) = false → OKw 1 j 0 (visS (goS σ tk) 1 j)) ∧ gN (goW σ tk j) 10 < 2 ^ 30
theorem goW_7 (σ : St) (tk j : Nat) : gN (goW σ tk j) 7 = gN σ 7 := by
  simp only [goW]; split
  · rw [visS_7]; rfl
  · rw [wlk_7, visS_7]; rfl
theorem goW_8 (σ : St) (tk j : Nat) : gN (goW σ tk j) 8 = gN σ 8 := by
  simp only [goW]; split
  · rw [visS_8]; rfl
  · rw [wlk_8, visS_8]; rfl

theorem ee_id (σ : St) : ee σ (gN σ 14) (gI σ 3) = σ := by rw [← ee_self, sN_self]

set_option maxHeartbeats 4000000 in
set_option maxRecDepth 100000 in
theorem w_go (l : Launch) (G : Gx) (a : Nat → Nat) (σ : St) (tk : Nat) (d : Int32) (h1 : gN σ 1 ≤ 1500) (hgo : ∀ j, j < gN σ 1 → d = nI j → preG σ tk j) : MM l G ⟨"NestedDeeds$Walker", "go", "(LNestedDeeds$Task;I)I"⟩ prog_10_method_3_code 4 (some .int) 256 6254 [.ref (a 15), .ref (a tk), .int d] (cw G a σ) (fun rv w => if hasD (gN σ 1) d = true then ∃ j, j < gN σ 1 ∧ d = nI j ∧ ∃ x y, rv = some (.int (gI (goF σ tk j) 2)) ∧ w = cw G a (ee (goF σ tk j) x y) else rv = some (.int (-2)) ∧ w = cw G a (sI σ 2 (-2))) := by
  refine MM.of (lv := [(0, .ref (a 15)), (1, .ref (a tk)), (2, .int d)]) (by decide +kernel) rfl (Nat.le_of_ble_eq_true rfl) ?_
  intro Z hRf hRl hl hG hn hk ht hA hQ X
  subst hG hl
  have X : XC Z "NestedDeeds$Walker" prog_10_method_3_code (some .int) := X
  have hk0 : zk Z ≤ (zR Z).cells := hk ▸ Nat.zero_le _
  have ht0 : zt Z ≤ (zR Z).slots := ht ▸ Nat.zero_le _
  refine V.aload_n X 0 dX8_go_0 rfl rfl ?_
  refine Vg_c_15_deeds X tw_321 dX8_go_1 ?_
  refine V.iload_n X 2 dX8_go_4 rfl rfl ?_
  refine V.callV X rfl (c_has (zl Z) (zG Z) a σ d) cv_X8_39 rfl 1 rfl rfl (len hRf (by omega)) (len hRl (by omega)) hk0 ht0 [] rfl (Nat.le_of_ble_eq_true rfl) dX8_go_5 ?_
  rintro _ _ ⟨rfl, rfl⟩
  refine V.eqs (st' := [.int (bI (hasD (gN σ 1) d))]) rfl ?_
  refine V.if_neB X 16 dX8_go_8 (by decide) (fun c8 => ?_) (fun c8 => ?_)
  · obtain ⟨j, hj, rfl⟩ := hasD_t (n := gN σ 1) (by omega) c8
    obtain ⟨htk, hv2, hv3, hv4, hv5, hv6, hv7⟩ := hgo j hj rfl
    have J120 : ∀ (x : Nat) (y : Int32), V Z (cw (zG Z) a (ee (goW σ tk j) x y)) [(0, .ref (a 15)), (1, .ref (a tk)), (2, .int (nI j))] 120 [] := by
      intro x y
      have e7 : gN (ee (goW σ tk j) x y) 7 = gN σ 7 := goW_7 σ tk j
      have e8 : gN (ee (goW σ tk j) x y) 8 = gN σ 8 := goW_8 σ tk j
      have e10 : gN (ee (goW σ tk j) x y) 10 < 2 ^ 30 := hv7
      have J140 : ∀ (b : Bool), b = decide (gN σ 7 = 0 ∨ gN σ 7 = 3) → V Z (cw (zG Z) a (ee (goW σ tk j) x y)) [(0, .ref (a 15)), (1, .ref (a tk)), (2, .int (nI j))] 140 [.int (bI b)] := by
        intro b hb
        refine V.istore_n X (lv' := [(3, .int (bI b)), (0, .ref (a 15)), (1, .ref (a tk)), (2, .int (nI j))]) dX8_go_140 rfl (ltn hn (by decide)) rfl ?_
        refine V.aload_n X 1 dX8_go_141 rfl rfl ?_
        refine V.iload_n X 0 dX8_go_142 rfl rfl ?_
        refine V.if_eqB X 160 dX8_go_143 (by decide) (fun c143 => ?_) (fun c143 => ?_)
        · refine V.iconst X (v := nI 0) dX8_go_160 (by decide) ?_
          refine Vp_c_15_calls (x := 0) X tw_336 dX8_go_161 ?_
          refine V.aload_n X 1 dX8_go_164 rfl rfl ?_
          refine Vg_c_15_outcome (x := gI (ee (goW σ tk j) x y) 2) X tw_330 dX8_go_165 rfl ?_
          exact V.iret X rfl hA hk ht hQ rfl dX8_go_168 (by rw [if_pos c8]; exact ⟨j, hj, rfl, x, y, rfl, by show cw (zG Z) a (sN (ee (goW σ tk j) x y) 11 _) = _; rw [ee_sN (by decide), goF, goC, if_neg (by rw [hb] at c143; simpa using c143)]; try rfl⟩)
        · refine V.aload_n X 1 dX8_go_146 rfl rfl ?_
          refine Vg_c_15_deepest (x := gN (ee (goW σ tk j) x y) 10) X tw_334 dX8_go_147 rfl ?_
          refine V.aload_n X 1 dX8_go_150 rfl rfl ?_
          refine Vg_c_15_meter (x := gN σ 8) X tw_328 dX8_go_151 e8 ?_
          refine V.callS X rfl (k_jmin (zl Z) (zG Z) (cw (zG Z) a (ee (goW σ tk j) x y)) (gN (ee (goW σ tk j) x y) 10) (gN σ 8) (by omega) (by omega)) cs_X8_75 rfl (len hRf (by omega)) (len hRl (by omega)) hk0 ht0 [.ref (a 15)] rfl (Nat.le_of_ble_eq_true rfl) dX8_go_154 ?_
          rintro _ _ ⟨rfl, rfl⟩
          refine V.eqs (st' := [.int (nI (min (gN (ee (goW σ tk j) x y) 10) (gN σ 8))), .ref (a 15)]) rfl ?_
          refine V.goto X 161 dX8_go_157 (by decide) ?_
          refine Vp_c_15_calls (x := min (gN (ee (goW σ tk j) x y) 10) (gN σ 8)) X tw_336 dX8_go_161 ?_
          refine V.aload_n X 1 dX8_go_164 rfl rfl ?_
          refine Vg_c_15_outcome (x := gI (ee (goW σ tk j) x y) 2) X tw_330 dX8_go_165 rfl ?_
          exact V.iret X rfl hA hk ht hQ rfl dX8_go_168 (by rw [if_pos c8]; exact ⟨j, hj, rfl, x, y, rfl, by show cw (zG Z) a (sN (ee (goW σ tk j) x y) 11 _) = _; rw [ee_sN (by decide), goF, goC, if_pos (by rw [hb] at c143; simpa using c143)]; try rfl⟩)
      refine V.aload_n X 0 dX8_go_120 rfl rfl ?_
      refine Vg_c_15_way (x := gN σ 7) X tw_326 dX8_go_121 e7 ?_
      refine V.if_eqN X 135 dX8_go_124 (by decide) (by omega) (fun c124 => ?_) (fun c124 => ?_)
      · refine V.iconst X (v := nI 1) dX8_go_135 (by decide) ?_
        refine V.goto X 140 dX8_go_136 (by decide) ?_
        refine V.topi (y := bI true) rfl ?_
        exact V.sub [0, 1, 2] rfl (J140 true (by simp [c124]))
      · refine V.aload_n X 0 dX8_go_127 rfl rfl ?_
        refine Vg_c_15_way (x := gN σ 7) X tw_326 dX8_go_128 e7 ?_
        refine V.iconst X (v := nI 3) dX8_go_131 (by decide) ?_
        refine V.icmp_neN X 139 dX8_go_132 (by decide) (by omega) (by decide) (fun c132 => ?_) (fun c132 => ?_)
        · refine V.iconst X (v := nI 0) dX8_go_139 (by decide) ?_
          refine V.topi (y := bI false) rfl ?_
          exact V.sub [0, 1, 2] rfl (J140 false (by simp [c124, c132]))
        · refine V.iconst X (v := nI 1) dX8_go_135 (by decide) ?_
          refine V.goto X 140 dX8_go_136 (by decide) ?_
          refine V.topi (y := bI true) rfl ?_
          exact V.sub [0, 1, 2] rfl (J140 true (by simp [c132]))
    have J65 : V Z (cw (zG Z) a (goS σ tk)) [(0, .ref (a 15)), (1, .ref (a tk)), (2, .int (nI j))] 65 [] := by
      have e7 : gN (visS (goS σ tk) 1 j) 7 = gN σ 7 := by rw [visS_7]; rfl
      have e8 : gN (visS (goS σ tk) 1 j) 8 = gN σ 8 := by rw [visS_8]; rfl
      refine V.aload_n X 0 dX8_go_65 rfl rfl ?_
      refine V.iconst X (v := nI 1) dX8_go_66 (by decide) ?_
      refine V.iload_n X 2 dX8_go_67 rfl rfl ?_
      refine V.callV X rfl (w_visit (zl Z) (zG Z) a (goS σ tk) 1 j (hv5)) cv_X8_64 rfl 15 rfl rfl (len hRf (by omega)) (len hRl (by omega)) hk0 ht0 [] rfl (Nat.le_of_ble_eq_true rfl) dX8_go_68 ?_
      rintro _ _ ⟨rfl, rfl⟩
      refine V.eqs (st' := [.int (bI (!ovr (visS (goS σ tk) 1 j)))]) rfl ?_
      refine V.if_eqB X 120 dX8_go_71 (by decide) (fun c71 => ?_) (fun c71 => ?_)
      · refine V.eqw (ws' := cw (zG Z) a (ee (goW σ tk j) (gN (goW σ tk j) 14) (gI (goW σ tk j) 3))) (by rw [ee_id, goW, if_pos (by simpa using c71)]) ?_
        exact V.sub [0, 1, 2] rfl (J120 _ _)
      · have ho : ovr (visS (goS σ tk) 1 j) = false := by simpa using c71
        have hok := hv6 ho
        obtain ⟨q1, q2, q3, q4, q5, q6⟩ := hok.base
        have h9 : gN (visS (goS σ tk) 1 j) 9 ≤ 20000 := visS_9le (by show (0 : Nat) ≤ 20000; omega)
        have hW : (goW σ tk j) = wlk 1 j 0 (visS (goS σ tk) 1 j) := by rw [goW, if_neg (by rw [ho]; decide)]
        refine V.aload_n X 0 dX8_go_74 rfl rfl ?_
        refine Vg_c_15_way (x := gN σ 7) X tw_326 dX8_go_75 e7 ?_
        refine V.iconst X (v := nI 1) dX8_go_78 (by decide) ?_
        refine V.icmp_neN X 90 dX8_go_79 (by decide) (by omega) (by decide) (fun c79 => ?_) (fun c79 => ?_)
        · refine V.aload_n X 0 dX8_go_90 rfl rfl ?_
          refine Vg_c_15_way (x := gN σ 7) X tw_326 dX8_go_91 e7 ?_
          refine V.iconst X (v := nI 2) dX8_go_94 (by decide) ?_
          refine V.icmp_neN X 105 dX8_go_95 (by decide) (by omega) (by decide) (fun c95 => ?_) (fun c95 => ?_)
          · refine V.aload_n X 0 dX8_go_105 rfl rfl ?_
            refine V.iconst X (v := nI 1) dX8_go_106 (by decide) ?_
            refine V.aload_n X 0 dX8_go_107 rfl rfl ?_
            refine Vg_c_15_meter (x := gN σ 8) X tw_328 dX8_go_108 e8 ?_
            refine V.sipush X (v := nI 250) dX8_go_111 (by decide) ?_
            refine V.callS X rfl (k_jmin (zl Z) (zG Z) (cw (zG Z) a (visS (goS σ tk) 1 j)) (gN σ 8) 250 (by omega) (by omega)) cs_X8_75 rfl (len hRf (by omega)) (len hRl (by omega)) hk0 ht0 [.int (nI 1), .ref (a 15)] rfl (Nat.le_of_ble_eq_true rfl) dX8_go_114 ?_
            rintro _ _ ⟨rfl, rfl⟩
            refine V.eqs (st' := [.int (nI (min (gN σ 8) 250)), .int (nI 1), .ref (a 15)]) rfl ?_
            refine V.callV X rfl (w_byCalls (zl Z) (zG Z) a (min (gN σ 8) 250) (by omega) (min (gN σ 8) 250 - 1) 1 j (visS (goS σ tk) 1 j) (by omega) (by omega) hok h9) cv_X8_81 rfl 15 rfl rfl (len hRf (by omega)) (len hRl (by omega)) hk0 ht0 [] rfl (Nat.le_of_ble_eq_true rfl) dX8_go_117 ?_
            rintro _ _ ⟨rfl, rfl⟩
            refine V.eqs (st' := []) rfl ?_
            refine V.eqw (ws' := cw (zG Z) a (ee (goW σ tk j) (gN (goW σ tk j) 14) (gI (goW σ tk j) 3))) (by rw [← hW, ee_id]) ?_
            exact V.sub [0, 1, 2] rfl (J120 _ _)
          · refine V.aload_n X 0 dX8_go_98 rfl rfl ?_
            refine V.callV X rfl (w_bySteps (zl Z) (zG Z) a (visS (goS σ tk) 1 j) ⟨by rw [q4, q5]; exact hok, by rw [q5]; omega⟩ h9) cv_X8_72 rfl 15 rfl rfl (len hRf (by omega)) (len hRl (by omega)) hk0 ht0 [] rfl (Nat.le_of_ble_eq_true rfl) dX8_go_99 ?_
            rintro _ _ ⟨rfl, x, y, rfl⟩
            refine V.eqs (st' := []) rfl ?_
            refine V.eqw (ws' := cw (zG Z) a (ee (goW σ tk j) x y)) (by show cw (zG Z) a (ee (wlk 1 (gA (visS (goS σ tk) 1 j) 6 1) (gA (visS (goS σ tk) 1 j) 7 1) (visS (goS σ tk) 1 j)) x y) = _; rw [q4, q5, ← hW]) ?_
            refine V.goto X 120 dX8_go_102 (by decide) ?_
            exact V.sub [0, 1, 2] rfl (J120 _ _)
        · refine V.aload_n X 0 dX8_go_82 rfl rfl ?_
          refine V.iconst X (v := nI 1) dX8_go_83 (by decide) ?_
          refine V.callV X rfl (w_byStack (zl Z) (zG Z) a (visS (goS σ tk) 1 j) 1 (by omega) ⟨by rw [q4, q5]; exact hok, by rw [q5]; omega⟩ h9) cv_X8_68 rfl 15 rfl rfl (len hRf (by omega)) (len hRl (by omega)) hk0 ht0 [] rfl (Nat.le_of_ble_eq_true rfl) dX8_go_84 ?_
          rintro _ _ ⟨rfl, rfl⟩
          refine V.eqs (st' := []) rfl ?_
          refine V.eqw (ws' := cw (zG Z) a (ee (goW σ tk j) (gN (goW σ tk j) 14) (gI (goW σ tk j) 3))) (by show cw (zG Z) a (wlk 1 (gA (visS (goS σ tk) 1 j) 6 1) (gA (visS (goS σ tk) 1 j) 7 1) (visS (goS σ tk) 1 j)) = _; rw [q4, q5, ← hW, ee_id]) ?_
          refine V.goto X 120 dX8_go_87 (by decide) ?_
          exact V.sub [0, 1, 2] rfl (J120 _ _)
    refine V.aload_n X 0 dX8_go_16 rfl rfl ?_
    refine V.aload_n X 1 dX8_go_17 rfl rfl ?_
    refine Vp_c_15_task (x := tk) X tw_338 dX8_go_18 ?_
    refine V.aload_n X 0 dX8_go_21 rfl rfl ?_
    refine Vg_c_15_task (x := tk) X tw_338 dX8_go_22 rfl ?_
    refine V.iconst X (v := nI 0) dX8_go_25 (by decide) ?_
    refine V.topi (y := bI false) rfl ?_
    refine Vp_over X tw_201 dX8_go_26 htk ?_
    refine V.aload_n X 0 dX8_go_29 rfl rfl ?_
    refine V.iconst X (v := nI 0) dX8_go_30 (by decide) ?_
    refine Vp_c_15_outcome (x := nI 0) X tw_330 dX8_go_31 ?_
    refine V.aload_n X 0 dX8_go_34 rfl rfl ?_
    refine V.iconst X (v := nI 0) dX8_go_35 (by decide) ?_
    refine Vp_c_15_visited (x := 0) X tw_332 dX8_go_36 ?_
    refine V.aload_n X 0 dX8_go_39 rfl rfl ?_
    refine V.iconst X (v := nI 0) dX8_go_40 (by decide) ?_
    refine Vp_c_15_deepest (x := 0) X tw_334 dX8_go_41 ?_
    refine V.aload_n X 0 dX8_go_44 rfl rfl ?_
    refine V.aload_n X 0 dX8_go_45 rfl rfl ?_
    refine Vg_c_15_way (x := gN σ 7) X tw_326 dX8_go_46 rfl ?_
    refine V.if_neN X 59 dX8_go_49 (by decide) (by omega) (fun c49 => ?_) (fun c49 => ?_)
    · refine V.sipush X (v := nI 1500) dX8_go_59 (by decide) ?_
      refine Vp_c_15_bottom (x := 1500) X tw_339 dX8_go_62 ?_
      refine V.eqw (ws' := cw (zG Z) a (goS σ tk)) (by rw [goS, if_neg c49]; rfl) ?_
      exact V.sub [0, 1, 2] rfl J65
    · refine V.aload_n X 0 dX8_go_52 rfl rfl ?_
      refine Vg_c_15_meter (x := gN σ 8) X tw_328 dX8_go_53 rfl ?_
      refine V.goto X 62 dX8_go_56 (by decide) ?_
      refine Vp_c_15_bottom (x := gN σ 8) X tw_339 dX8_go_62 ?_
      refine V.eqw (ws' := cw (zG Z) a (goS σ tk)) (by rw [goS, if_pos c49]; rfl) ?_
      exact V.sub [0, 1, 2] rfl J65
  · refine V.aload_n X 0 dX8_go_11 rfl rfl ?_
    refine V.callV X rfl (w_refuse (zl Z) (zG Z) a σ) cv_X8_45 rfl 15 rfl rfl (len hRf (by omega)) (len hRl (by omega)) hk0 ht0 [] rfl (Nat.le_of_ble_eq_true rfl) dX8_go_12 ?_
    rintro _ _ ⟨rfl, rfl⟩
    refine V.eqs (st' := [.int (-2)]) rfl ?_
    exact V.iret X rfl hA hk ht hQ rfl dX8_go_15 (by rw [if_neg (by rw [c8]; decide)]; exact ⟨rfl, rfl⟩)

