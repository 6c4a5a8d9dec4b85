def sc1 (σ : St) : St := snS (skS σ)
def sc2 (σ : St) : St := fdS (sc1 σ) (kI (sc1 σ)) (gI (sc1 σ) 1) 0
def sc3 (σ : St) : St := clS (gN (sc2 σ) 4) (sc2 σ)
/-- Reader.scan's turns -/
def scn : Nat → St → St × Option Nat
  | 0, σ => (σ, some (gN σ 5))
  | f + 1, σ => if skB σ = false then (skS σ, some (gN (skS σ) 5)) else if snOK (skS σ) = false then (sc1 σ, some (gN (sc1 σ) 5))
    else if patA (sc1 σ) (gN (sc1 σ) 5) = some 40 ∧ gN (sc1 σ) 4 < 2001 then scn f (odS (sc1 σ))
    else if gN (sc3 σ) 4 = 0 then (sc3 σ, if gN (sc3 σ) 5 = gN (sc3 σ) 2 then none else some (gN (sc3 σ) 5))
    else if patA (sc3 σ) (gN (sc3 σ) 5) = some 44 then scn f (sN (sc3 σ) 5 (gN (sc3 σ) 5 + 1)) else (sc3 σ, some (gN (sc3 σ) 5))
def scP : Nat → St → Prop
  | 0, _ => True
  | f + 1, σ => rdOK σ ∧ gN σ 4 < 2 ^ 30 ∧ (skB σ = true → rdOK (skS σ) ∧ gN (skS σ) 5 ≤ 6000 ∧ (snOK (skS σ) = true → rdOK (sc1 σ) ∧ gN (sc1 σ) 4 < 2 ^ 30 ∧ gI (sc1 σ) 0 = nI (kI (sc1 σ)) ∧
      (patA (sc1 σ) (gN (sc1 σ) 5) = some 40 ∧ gN (sc1 σ) 4 < 2001 → scP f (odS (sc1 σ))) ∧
      (¬ (patA (sc1 σ) (gN (sc1 σ) 5) = some 40 ∧ gN (sc1 σ) 4 < 2001) → fdP (sc1 σ) 0 ∧ clP (gN (sc2 σ) 4) (sc2 σ) ∧ rdOK (sc3 σ) ∧ gN (sc3 σ) 4 < 2 ^ 30 ∧
        (¬ gN (sc3 σ) 4 = 0 → patA (sc3 σ) (gN (sc3 σ) 5) = some 44 → scP f (sN (sc3 σ) 5 (gN (sc3 σ) 5 + 1))))))
def scI (σ : St) (b : Bool) : St := sN (sN (sN (sB σ 2 b) 4 0) 5 0) 6 0

set_option maxHeartbeats 4000000 in
set_option maxRecDepth 100000 in
theorem r_scan (l : Launch) (G : Gx) (a : Nat → Nat) (σ : St) (b : Bool) (hsc : scP 6001 (scI σ b)) : MM l G ⟨"NestedDeeds$Reader", "scan", "(Z)I"⟩ prog_8_method_2_code 3 (some .int) 4 128 [.ref (a 11), .int (bI b)] (cw G a σ) (fun rv w => rv = some (.int (oI (scn 6001 (scI σ b)).2)) ∧ w = cw G a (scn 6001 (scI σ b)).1) := by
  refine MM.of (lv := [(0, .ref (a 11)), (1, .int (bI b))]) (by decide +kernel) rfl (Nat.le_of_ble_eq_true rfl) ?_
  intro Z hRf hRl hl hG hn hk ht hA hQ X
  subst hG hl
  have X : XC Z "NestedDeeds$Reader" prog_8_method_2_code (some .int) := X
  have hk0 : zk Z ≤ (zR Z).cells := hk ▸ Nat.zero_le _
  have ht0 : zt Z ≤ (zR Z).slots := ht ▸ Nat.zero_le _
  have LP : ∀ (m t : Nat) (τ : St), t + m = 6001 → scP m τ → scn m τ = scn 6001 (scI σ b) → V Z (cw (zG Z) a τ) [(2, .int (nI t)), (0, .ref (a 11)), (1, .int (bI b))] 22 [] := by
    intro m
    induction m with
    | zero =>
      intro t τ h1 h2 h3
      refine V.iload_n X 0 dX6_scan_22 rfl rfl ?_
      refine V.sipush X (v := nI 6000) dX6_scan_23 (by decide) ?_
      refine V.icmp_gtN X 165 dX6_scan_26 (by decide) (by omega) (by decide) (fun c26 => ?_) (fun c26 => by exfalso; omega)
      refine V.aload_n X 1 dX6_scan_165 rfl rfl ?_
      refine Vg_c_11_at (x := gN (τ) 5) X tw_151 dX6_scan_166 rfl ?_
      exact V.iret X rfl hA hk ht hQ rfl dX6_scan_169 (⟨by rw [← h3]; rfl, by rw [← h3]; rfl⟩)
    | succ m ih =>
      intro t τ h1 h2 h3
      obtain ⟨hr, h4, h5⟩ := h2
      have hr5 := hr.2.2
      refine V.iload_n X 0 dX6_scan_22 rfl rfl ?_
      refine V.sipush X (v := nI 6000) dX6_scan_23 (by decide) ?_
      refine V.icmp_gtN X 165 dX6_scan_26 (by decide) (by omega) (by decide) (fun c26 => by exfalso; omega) (fun c26 => ?_)
      refine V.aload_n X 1 dX6_scan_29 rfl rfl ?_
      refine V.callV X rfl (r_scanKind (zl Z) (zG Z) a τ hr) cv_X6_43 rfl 11 rfl rfl (len hRf (by decide)) (len hRl (by decide)) hk0 ht0 [] rfl (Nat.le_of_ble_eq_true rfl) dX6_scan_30 ?_
      rintro _ _ ⟨rfl, rfl⟩
      refine V.eqs (st' := [.int (bI (skB τ))]) rfl ?_
      refine V.if_eqB X 43 dX6_scan_33 (by decide) (fun c33 => ?_) (fun c33 => ?_)
      · refine V.aload_n X 1 dX6_scan_43 rfl rfl ?_
        refine Vg_c_11_at (x := gN (skS τ) 5) X tw_151 dX6_scan_44 rfl ?_
        exact V.iret X rfl hA hk ht hQ rfl dX6_scan_47 (⟨by rw [← h3, scn, if_pos c33]; rfl, by rw [← h3, scn, if_pos c33]; try rfl⟩)
      · obtain ⟨k1, k2, k3⟩ := h5 c33
        refine V.aload_n X 1 dX6_scan_36 rfl rfl ?_
        refine V.callV X rfl (r_scanNumber (zl Z) (zG Z) a (skS τ) k1 k2) cv_X6_47 rfl 11 rfl rfl (len hRf (by decide)) (len hRl (by decide)) hk0 ht0 [] rfl (Nat.le_of_ble_eq_true rfl) dX6_scan_37 ?_
        rintro _ _ ⟨rfl, rfl⟩
        refine V.eqs (st' := [.int (bI (snOK (skS τ)))]) rfl ?_
        refine V.if_neB X 48 dX6_scan_40 (by decide) (fun c40 => ?_) (fun c40 => ?_)
        · obtain ⟨n1, n2, n3, n4, n5⟩ := k3 c40
          have n15 := n1.2.2
          refine V.aload_n X 1 dX6_scan_48 rfl rfl ?_
          refine Vg_c_11_paper X tw_146 dX6_scan_49 ?_
          refine V.aload_n X 1 dX6_scan_52 rfl rfl ?_
          refine Vg_c_11_at (x := gN (sc1 τ) 5) X tw_151 dX6_scan_53 rfl ?_
          refine V.callV X rfl (c_atP (zl Z) (zG Z) a (sc1 τ) (gN (sc1 τ) 5) (by omega) n1.1 n1.2.1) cv_X6_50 rfl 7 rfl rfl (len hRf (by decide)) (len hRl (by decide)) hk0 ht0 [] rfl (Nat.le_of_ble_eq_true rfl) dX6_scan_56 ?_
          rintro _ _ ⟨rfl, rfl⟩
          refine V.eqs (st' := [.int (oI (patA (sc1 τ) (gN (sc1 τ) 5)))]) rfl ?_
          refine V.bipush X (v := nI 40) dX6_scan_59 (by decide) ?_
          refine V.icmp_ne X 81 dX6_scan_61 (by decide) (fun c61 => ?_) (fun c61 => ?_)
          · have hno : ¬ (patA (sc1 τ) (gN (sc1 τ) 5) = some 40 ∧ gN (sc1 τ) 4 < 2001) := fun q => c61 ((oI_inj (patA_lt n1.2.1 _) (by decide)).mpr q.1)
            obtain ⟨g1, g2, g3, g4, g5⟩ := n5 hno
            have g35 := g3.2.2
            refine V.aload_n X 1 dX6_scan_81 rfl rfl ?_
            refine V.aload_n X 1 dX6_scan_82 rfl rfl ?_
            refine Vg_c_11_kind (x := gI (sc1 τ) 0) X tw_152 dX6_scan_83 rfl ?_
            refine V.aload_n X 1 dX6_scan_86 rfl rfl ?_
            refine Vg_c_11_number (x := gI (sc1 τ) 1) X tw_153 dX6_scan_87 rfl ?_
            refine V.iconst X (v := nI 0) dX6_scan_90 (by decide) ?_
            refine V.eqs (st' := [.int (nI 0), .int (gI (sc1 τ) 1), .int (nI (kI (sc1 τ))), .ref (a 11)]) (by rw [← n3]) ?_
            refine V.callV X rfl (r_finishDeed (zl Z) (zG Z) a (sc1 τ) (kI (sc1 τ)) (gI (sc1 τ) 1) 0 g1) cv_X6_64 rfl 11 rfl rfl (len hRf (by decide)) (len hRl (by decide)) hk0 ht0 [] rfl (Nat.le_of_ble_eq_true rfl) dX6_scan_91 ?_
            rintro _ _ ⟨rfl, rfl⟩
            refine V.eqs (st' := []) rfl ?_
            refine V.aload_n X 1 dX6_scan_94 rfl rfl ?_
            refine V.callV X rfl (r_closeDeeds (zl Z) (zG Z) a (sc2 τ) g2) cv_X6_68 rfl 11 rfl rfl (len hRf (by decide)) (len hRl (by decide)) hk0 ht0 [] rfl (Nat.le_of_ble_eq_true rfl) dX6_scan_95 ?_
            rintro _ _ ⟨rfl, rfl⟩
            refine V.eqs (st' := []) rfl ?_
            refine V.aload_n X 1 dX6_scan_98 rfl rfl ?_
            refine Vg_c_11_open (x := gN (sc3 τ) 4) X tw_150 dX6_scan_99 rfl ?_
            refine V.if_neN X 128 dX6_scan_102 (by decide) (by omega) (fun c102 => ?_) (fun c102 => ?_)
            · refine V.aload_n X 1 dX6_scan_128 rfl rfl ?_
              refine Vg_c_11_paper X tw_146 dX6_scan_129 ?_
              refine V.aload_n X 1 dX6_scan_132 rfl rfl ?_
              refine Vg_c_11_at (x := gN (sc3 τ) 5) X tw_151 dX6_scan_133 rfl ?_
              refine V.callV X rfl (c_atP (zl Z) (zG Z) a (sc3 τ) (gN (sc3 τ) 5) (by omega) g3.1 g3.2.1) cv_X6_50 rfl 7 rfl rfl (len hRf (by decide)) (len hRl (by decide)) hk0 ht0 [] rfl (Nat.le_of_ble_eq_true rfl) dX6_scan_136 ?_
              rintro _ _ ⟨rfl, rfl⟩
              refine V.eqs (st' := [.int (oI (patA (sc3 τ) (gN (sc3 τ) 5)))]) rfl ?_
              refine V.bipush X (v := nI 44) dX6_scan_139 (by decide) ?_
              refine V.icmp_eq X 149 dX6_scan_141 (by decide) (fun c141 => ?_) (fun c141 => ?_)
              · refine V.aload_n X 1 dX6_scan_149 rfl rfl ?_
                refine V.dup X dX6_scan_150 rfl ?_
                refine Vg_c_11_at (x := gN (sc3 τ) 5) X tw_151 dX6_scan_151 rfl ?_
                refine V.iconst X (v := nI 1) dX6_scan_154 (by decide) ?_
                refine V.iaddN X dX6_scan_155 ?_
                refine Vp_c_11_at (x := (gN (sc3 τ) 5) + 1) X tw_151 dX6_scan_156 ?_
                refine V.iinc X (v := nI (t + 1)) (lv' := [(2, .int (nI (t + 1))), (0, .ref (a 11)), (1, .int (bI b))]) (k0 := 0) dX6_scan_159 rfl (inc_1 _) (ltn hn (by decide)) rfl ?_
                refine V.goto X 22 dX6_scan_162 (by decide) ?_
                have hcm : patA (sc3 τ) (gN (sc3 τ) 5) = some 44 := (oI_inj (patA_lt g3.2.1 _) (by decide)).mp c141
                exact V.sub [0, 1, 2] rfl (ih (t + 1) (sN (sc3 τ) 5 (gN (sc3 τ) 5 + 1)) (by omega) (g5 c102 hcm) (by rw [← h3, scn, if_neg (show ¬ skB τ = false by rw [c33]; decide), if_neg (show ¬ snOK (skS τ) = false by rw [c40]; decide), if_neg hno, if_neg c102, if_pos hcm]))
              · refine V.aload_n X 1 dX6_scan_144 rfl rfl ?_
                refine Vg_c_11_at (x := gN (sc3 τ) 5) X tw_151 dX6_scan_145 rfl ?_
                exact V.iret X rfl hA hk ht hQ rfl dX6_scan_148 (⟨by rw [← h3, scn, if_neg (show ¬ skB τ = false by rw [c33]; decide), if_neg (show ¬ snOK (skS τ) = false by rw [c40]; decide), if_neg hno, if_neg c102, if_neg (show ¬ patA (sc3 τ) (gN (sc3 τ) 5) = some 44 from fun q => c141 ((oI_inj (patA_lt g3.2.1 _) (by decide)).mpr q))]; rfl, by rw [← h3, scn, if_neg (show ¬ skB τ = false by rw [c33]; decide), if_neg (show ¬ snOK (skS τ) = false by rw [c40]; decide), if_neg hno, if_neg c102, if_neg (show ¬ patA (sc3 τ) (gN (sc3 τ) 5) = some 44 from fun q => c141 ((oI_inj (patA_lt g3.2.1 _) (by decide)).mpr q))]⟩)
            · refine V.aload_n X 1 dX6_scan_105 rfl rfl ?_
              refine Vg_c_11_at (x := gN (sc3 τ) 5) X tw_151 dX6_scan_106 rfl ?_
              refine V.aload_n X 1 dX6_scan_109 rfl rfl ?_
              refine Vg_c_11_paper X tw_146 dX6_scan_110 ?_
              refine Vg_c_7_length (x := gN (sc3 τ) 2) X tw_126 dX6_scan_113 rfl ?_
              refine V.icmp_neN X 123 dX6_scan_116 (by decide) (by have := g3.1; omega) (by have := g3.1; omega) (fun c116 => ?_) (fun c116 => ?_)
              · refine V.aload_n X 1 dX6_scan_123 rfl rfl ?_
                refine Vg_c_11_at (x := gN (sc3 τ) 5) X tw_151 dX6_scan_124 rfl ?_
                exact V.iret X rfl hA hk ht hQ rfl dX6_scan_127 (⟨by rw [← h3, scn, if_neg (show ¬ skB τ = false by rw [c33]; decide), if_neg (show ¬ snOK (skS τ) = false by rw [c40]; decide), if_neg hno, if_pos c102]; show _ = some (Value.int (oI (if gN (sc3 τ) 5 = gN (sc3 τ) 2 then none else _))); rw [if_neg c116]; rfl, by rw [← h3, scn, if_neg (show ¬ skB τ = false by rw [c33]; decide), if_neg (show ¬ snOK (skS τ) = false by rw [c40]; decide), if_neg hno, if_pos c102]; rfl⟩)
              · refine V.iconst X (v := -1) dX6_scan_119 (by decide) ?_
                refine V.goto X 127 dX6_scan_120 (by decide) ?_
                exact V.iret X rfl hA hk ht hQ rfl dX6_scan_127 (⟨by rw [← h3, scn, if_neg (show ¬ skB τ = false by rw [c33]; decide), if_neg (show ¬ snOK (skS τ) = false by rw [c40]; decide), if_neg hno, if_pos c102]; show _ = some (Value.int (oI (if gN (sc3 τ) 5 = gN (sc3 τ) 2 then none else _))); rw [if_pos c116]; rfl, by rw [← h3, scn, if_neg (show ¬ skB τ = false by rw [c33]; decide), if_neg (show ¬ snOK (skS τ) = false by rw [c40]; decide), if_neg hno, if_pos c102]; rfl⟩)
          · refine V.aload_n X 1 dX6_scan_64 rfl rfl ?_
            refine Vg_c_11_open (x := gN (sc1 τ) 4) X tw_150 dX6_scan_65 rfl ?_
            refine V.sipush X (v := nI 2001) dX6_scan_68 (by decide) ?_
            refine V.icmp_geN X 81 dX6_scan_71 (by decide) (by omega) (by decide) (fun c71 => ?_) (fun c71 => ?_)
            · have hno : ¬ (patA (sc1 τ) (gN (sc1 τ) 5) = some 40 ∧ gN (sc1 τ) 4 < 2001) := fun q => absurd q.2 (by omega)
              obtain ⟨g1, g2, g3, g4, g5⟩ := n5 hno
              have g35 := g3.2.2
              refine V.aload_n X 1 dX6_scan_81 rfl rfl ?_
              refine V.aload_n X 1 dX6_scan_82 rfl rfl ?_
              refine Vg_c_11_kind (x := gI (sc1 τ) 0) X tw_152 dX6_scan_83 rfl ?_
              refine V.aload_n X 1 dX6_scan_86 rfl rfl ?_
              refine Vg_c_11_number (x := gI (sc1 τ) 1) X tw_153 dX6_scan_87 rfl ?_
              refine V.iconst X (v := nI 0) dX6_scan_90 (by decide) ?_
              refine V.eqs (st' := [.int (nI 0), .int (gI (sc1 τ) 1), .int (nI (kI (sc1 τ))), .ref (a 11)]) (by rw [← n3]) ?_
              refine V.callV X rfl (r_finishDeed (zl Z) (zG Z) a (sc1 τ) (kI (sc1 τ)) (gI (sc1 τ) 1) 0 g1) cv_X6_64 rfl 11 rfl rfl (len hRf (by decide)) (len hRl (by decide)) hk0 ht0 [] rfl (Nat.le_of_ble_eq_true rfl) dX6_scan_91 ?_
              rintro _ _ ⟨rfl, rfl⟩
              refine V.eqs (st' := []) rfl ?_
              refine V.aload_n X 1 dX6_scan_94 rfl rfl ?_
              refine V.callV X rfl (r_closeDeeds (zl Z) (zG Z) a (sc2 τ) g2) cv_X6_68 rfl 11 rfl rfl (len hRf (by decide)) (len hRl (by decide)) hk0 ht0 [] rfl (Nat.le_of_ble_eq_true rfl) dX6_scan_95 ?_
              rintro _ _ ⟨rfl, rfl⟩
              refine V.eqs (st' := []) rfl ?_
              refine V.aload_n X 1 dX6_scan_98 rfl rfl ?_
              refine Vg_c_11_open (x := gN (sc3 τ) 4) X tw_150 dX6_scan_99 rfl ?_
              refine V.if_neN X 128 dX6_scan_102 (by decide) (by omega) (fun c102 => ?_) (fun c102 => ?_)
              · refine V.aload_n X 1 dX6_scan_128 rfl rfl ?_
                refine Vg_c_11_paper X tw_146 dX6_scan_129 ?_
                refine V.aload_n X 1 dX6_scan_132 rfl rfl ?_
                refine Vg_c_11_at (x := gN (sc3 τ) 5) X tw_151 dX6_scan_133 rfl ?_
                refine V.callV X rfl (c_atP (zl Z) (zG Z) a (sc3 τ) (gN (sc3 τ) 5) (by omega) g3.1 g3.2.1) cv_X6_50 rfl 7 rfl rfl (len hRf (by decide)) (len hRl (by decide)) hk0 ht0 [] rfl (Nat.le_of_ble_eq_true rfl) dX6_scan_136 ?_
                rintro _ _ ⟨rfl, rfl⟩
                refine V.eqs (st' := [.int (oI (patA (sc3 τ) (gN (sc3 τ) 5)))]) rfl ?_
                refine V.bipush X (v := nI 44) dX6_scan_139 (by decide) ?_
                refine V.icmp_eq X 149 dX6_scan_141 (by decide) (fun c141 => ?_) (fun c141 => ?_)
                · refine V.aload_n X 1 dX6_scan_149 rfl rfl ?_
                  refine V.dup X dX6_scan_150 rfl ?_
                  refine Vg_c_11_at (x := gN (sc3 τ) 5) X tw_151 dX6_scan_151 rfl ?_
                  refine V.iconst X (v := nI 1) dX6_scan_154 (by decide) ?_
                  refine V.iaddN X dX6_scan_155 ?_
                  refine Vp_c_11_at (x := (gN (sc3 τ) 5) + 1) X tw_151 dX6_scan_156 ?_
                  refine V.iinc X (v := nI (t + 1)) (lv' := [(2, .int (nI (t + 1))), (0, .ref (a 11)), (1, .int (bI b))]) (k0 := 0) dX6_scan_159 rfl (inc_1 _) (ltn hn (by decide)) rfl ?_
                  refine V.goto X 22 dX6_scan_162 (by decide) ?_
                  have hcm : patA (sc3 τ) (gN (sc3 τ) 5) = some 44 := (oI_inj (patA_lt g3.2.1 _) (by decide)).mp c141
                  exact V.sub [0, 1, 2] rfl (ih (t + 1) (sN (sc3 τ) 5 (gN (sc3 τ) 5 + 1)) (by omega) (g5 c102 hcm) (by rw [← h3, scn, if_neg (show ¬ skB τ = false by rw [c33]; decide), if_neg (show ¬ snOK (skS τ) = false by rw [c40]; decide), if_neg hno, if_neg c102, if_pos hcm]))
                · refine V.aload_n X 1 dX6_scan_144 rfl rfl ?_
                  refine Vg_c_11_at (x := gN (sc3 τ) 5) X tw_151 dX6_scan_145 rfl ?_
                  exact V.iret X rfl hA hk ht hQ rfl dX6_scan_148 (⟨by rw [← h3, scn, if_neg (show ¬ skB τ = false by rw [c33]; decide), if_neg (show ¬ snOK (skS τ) = false by rw [c40]; decide), if_neg hno, if_neg c102, if_neg (show ¬ patA (sc3 τ) (gN (sc3 τ) 5) = some 44 from fun q => c141 ((oI_inj (patA_lt g3.2.1 _) (by decide)).mpr q))]; rfl, by rw [← h3, scn, if_neg (show ¬ skB τ = false by rw [c33]; decide), if_neg (show ¬ snOK (skS τ) = false by rw [c40]; decide), if_neg hno, if_neg c102, if_neg (show ¬ patA (sc3 τ) (gN (sc3 τ) 5) = some 44 from fun q => c141 ((oI_inj (patA_lt g3.2.1 _) (by decide)).mpr q))]⟩)
              · refine V.aload_n X 1 dX6_scan_105 rfl rfl ?_
                refine Vg_c_11_at (x := gN (sc3 τ) 5) X tw_151 dX6_scan_106 rfl ?_
                refine V.aload_n X 1 dX6_scan_109 rfl rfl ?_
                refine Vg_c_11_paper X tw_146 dX6_scan_110 ?_
                refine Vg_c_7_length (x := gN (sc3 τ) 2) X tw_126 dX6_scan_113 rfl ?_
                refine V.icmp_neN X 123 dX6_scan_116 (by decide) (by have := g3.1; omega) (by have := g3.1; omega) (fun c116 => ?_) (fun c116 => ?_)
                · refine V.aload_n X 1 dX6_scan_123 rfl rfl ?_
                  refine Vg_c_11_at (x := gN (sc3 τ) 5) X tw_151 dX6_scan_124 rfl ?_
                  exact V.iret X rfl hA hk ht hQ rfl dX6_scan_127 (⟨by rw [← h3, scn, if_neg (show ¬ skB τ = false by rw [c33]; decide), if_neg (show ¬ snOK (skS τ) = false by rw [c40]; decide), if_neg hno, if_pos c102]; show _ = some (Value.int (oI (if gN (sc3 τ) 5 = gN (sc3 τ) 2 then none else _))); rw [if_neg c116]; rfl, by rw [← h3, scn, if_neg (show ¬ skB τ = false by rw [c33]; decide), if_neg (show ¬ snOK (skS τ) = false by rw [c40]; decide), if_neg hno, if_pos c102]; rfl⟩)
                · refine V.iconst X (v := -1) dX6_scan_119 (by decide) ?_
                  refine V.goto X 127 dX6_scan_120 (by decide) ?_
                  exact V.iret X rfl hA hk ht hQ rfl dX6_scan_127 (⟨by rw [← h3, scn, if_neg (show ¬ skB τ = false by rw [c33]; decide), if_neg (show ¬ snOK (skS τ) = false by rw [c40]; decide), if_neg hno, if_pos c102]; show _ = some (Value.int (oI (if gN (sc3 τ) 5 = gN (sc3 τ) 2 then none else _))); rw [if_pos c116]; rfl, by rw [← h3, scn, if_neg (show ¬ skB τ = false by rw [c33]; decide), if_neg (show ¬ snOK (skS τ) = false by rw [c40]; decide), if_neg hno, if_pos c102]; rfl⟩)
            · refine V.aload_n X 1 dX6_scan_74 rfl rfl ?_
              refine V.callV X rfl (r_openDeed (zl Z) (zG Z) a (sc1 τ) (by omega) n3) cv_X6_55 rfl 11 rfl rfl (len hRf (by decide)) (len hRl (by decide)) hk0 ht0 [] rfl (Nat.le_of_ble_eq_true rfl) dX6_scan_75 ?_
              rintro _ _ ⟨rfl, rfl⟩
              refine V.eqs (st' := []) rfl ?_
              refine V.goto X 159 dX6_scan_78 (by decide) ?_
              refine V.iinc X (v := nI (t + 1)) (lv' := [(2, .int (nI (t + 1))), (0, .ref (a 11)), (1, .int (bI b))]) (k0 := 0) dX6_scan_159 rfl (inc_1 _) (ltn hn (by decide)) rfl ?_
              refine V.goto X 22 dX6_scan_162 (by decide) ?_
              have hop : patA (sc1 τ) (gN (sc1 τ) 5) = some 40 ∧ gN (sc1 τ) 4 < 2001 := ⟨(oI_inj (patA_lt n1.2.1 _) (by decide)).mp c61, by omega⟩
              exact V.sub [0, 1, 2] rfl (ih (t + 1) (odS (sc1 τ)) (by omega) (n4 hop) (by rw [← h3, scn, if_neg (show ¬ skB τ = false by rw [c33]; decide), if_neg (show ¬ snOK (skS τ) = false by rw [c40]; decide), if_pos hop]))
        · refine V.aload_n X 1 dX6_scan_43 rfl rfl ?_
          refine Vg_c_11_at (x := gN (sc1 τ) 5) X tw_151 dX6_scan_44 rfl ?_
          exact V.iret X rfl hA hk ht hQ rfl dX6_scan_47 (⟨by rw [← h3, scn, if_neg (show ¬ skB τ = false by rw [c33]; decide), if_pos c40]; rfl, by rw [← h3, scn, if_neg (show ¬ skB τ = false by rw [c33]; decide), if_pos c40]; try rfl⟩)
  refine V.aload_n X 0 dX6_scan_0 rfl rfl ?_
  refine V.iload_n X 1 dX6_scan_1 rfl rfl ?_
  refine Vp_c_11_making (x := b) X tw_154 dX6_scan_2 ?_
  refine V.aload_n X 0 dX6_scan_5 rfl rfl ?_
  refine V.iconst X (v := nI 0) dX6_scan_6 (by decide) ?_
  refine Vp_c_11_open (x := 0) X tw_150 dX6_scan_7 ?_
  refine V.aload_n X 0 dX6_scan_10 rfl rfl ?_
  refine V.iconst X (v := nI 0) dX6_scan_11 (by decide) ?_
  refine Vp_c_11_at (x := 0) X tw_151 dX6_scan_12 ?_
  refine V.aload_n X 0 dX6_scan_15 rfl rfl ?_
  refine V.iconst X (v := nI 0) dX6_scan_16 (by decide) ?_
  refine Vp_c_11_whole (x := 0) X tw_155 dX6_scan_17 ?_
  refine V.iconst X (v := nI 0) dX6_scan_20 (by decide) ?_
  refine V.istore_n X (lv' := [(2, .int (nI 0)), (0, .ref (a 11)), (1, .int (bI b))]) dX6_scan_21 rfl (ltn hn (by decide)) rfl ?_
  exact V.sub [0, 1, 2] rfl (LP 6001 0 (scI σ b) (by omega) hsc rfl)

