def PWa (G : Gx) (a : Nat → Nat) (σ : St) (F : List (Nat × Nat) × Int32 × Bool) (rv : Option Value) (w : va_W) : Prop := rv = some (.int F.2.1) ∧ ∃ τ, w = rw G a τ ∧ xW τ σ ∧ RV id F τ ∧ gN τ 5 = F.1.length ∧ gN τ 6 = rCal σ (mxD F.1)
theorem RR.told {X : Type} {π : X → Nat} {S : AS} {σ τ : St} {F : List (X × Nat) × Int32 × Bool} (h : RR S σ) (hx : xW τ σ) (hv : RV π F τ) (h5 : gN τ 5 = F.1.length) (h6 : gN τ 6 = rCal σ (mxD F.1)) (hm : mxD F.1 ≤ botS S) : RR (tld S F) τ := by
  obtain ⟨⟨o1, o2, o3, o4, o5, o6, o7, o8⟩, r1, r2, r3, r4, r5, r6, r7, r8⟩ := h
  have hc : calS S (mxD F.1) = rCal σ (mxD F.1) := by
    simp only [calS, rCal, r2, r3, botS] at *
    by_cases q : yW S = 0
    · rw [if_pos q] at hm; rw [if_pos (Or.inl q), if_pos q]; exact Nat.min_eq_left hm
    · rw [if_neg q]
      by_cases q3 : yW S = 3
      · rw [if_pos (Or.inr q3), if_pos q3]
      · rw [if_neg (fun z => z.elim q q3), if_neg q3]
  refine ⟨⟨o1, o2, o3, o4, o5, o6, hv.2.1, ?_⟩, r1.ofa hx.1, hx.2.1.trans r2, hx.2.2.1.trans r3, hx.2.2.2.1.trans r4, fun i hi => (congrFun hx.2.2.2.2.1 i).trans (r5 i hi), hv.2.2.2.1, h5, h6.trans hc.symm⟩
  show calS S (mxD F.1) ≤ 20000
  simp only [calS]; split <;> omega
theorem RR.bad {S : AS} {σ : St} (h : RR S σ) : RR (bad S) (sI σ 0 (-2)) := by
  obtain ⟨o, r1, r2, r3, r4, r5, r6, r7, r8⟩ := h
  exact ⟨o, r1.ofa rfl, r2, r3, r4, r5, rfl, r7, r8⟩
theorem RR.xl {S : AS} {σ τ : St} (h : RR S σ) (hx : xL τ σ) : RR S τ := by
  obtain ⟨o, r1, r2, r3, r4, r5, r6, r7, r8⟩ := h
  have ha := xL_ars hx
  obtain ⟨x1, x2, x3, x4, x5, x6, x7⟩ := hx
  exact ⟨o, r1.ofa ha, by rw [x1]; exact r2, by rw [x1]; exact r3, by rw [x1]; exact r4, fun i hi => by rw [x2]; exact r5 i hi, by rw [x3]; exact r6, by rw [x1]; exact r7, by rw [x1]; exact r8⟩
theorem RR.hb {S : AS} {σ : St} (h : RR S σ) : botS S = if gN σ 2 = 0 then gN σ 3 else 1500 := by rw [botS, h.2.2.1, h.2.2.2.1]
theorem fAll_mx (S : AS) (j : Nat) : mxD (fAll S j).1 ≤ botS S := runW_mx _ (by simp [mxD])
theorem fWo_mx (S : AS) (j : Nat) : mxD (fWo S j).1 ≤ botS S := runW_mx _ (by simp [mxD])
theorem fFn_mx (S : AS) (k v : Int32) (j : Nat) : mxD (fFn S k v j).1 ≤ botS S := runW_mx _ (by simp [mxD])
theorem fAk_mx (S : AS) (i j : Nat) : mxD (fAk S i j).1 ≤ botS S := runW_mx _ (by simp [mxD])
theorem st7_f (A : Ar) (k v : Int32) : st7 A false k v = fun _ => false := rfl
theorem st7_t (A : Ar) (k v : Int32) : st7 A true k v = fst7 A k v := by funext p; simp [st7]
theorem chf_f (A : Ar) : chf A false = aP A := by funext p; simp [chf]
theorem chf_t (A : Ar) : chf A true = wl A := by funext p; simp [chf]

set_option maxHeartbeats 4000000 in
set_option maxRecDepth 100000 in
theorem r_walkAll (l : Launch) (G : Gx) (a : Nat → Nat) (σ : St) {A : Ar} (d : Nat) (hx : RRd A σ) (hW : WA A) (hd : d < aN A) (h2 : gN σ 2 ≤ 3) (h3a : 1 ≤ gN σ 3) (h3b : gN σ 3 ≤ 300) {bot : Nat} (hbot : bot = if gN σ 2 = 0 then gN σ 3 else 1500) {F : List (Nat × Nat) × Int32 × Bool} (hF : runW bot (fun _ => false) (vis (aP A) id d 1) ([], 0, false) = F) : MM l G ⟨"NestedDeedsModel", "walkAll", "(I)I"⟩ prog_14_method_27_code 2 (some .int) 3 78 [.ref (a 0), .int (nI d)] (rw G a σ) (PWa G a σ F) := by
  refine MM.of (lv := [(0, .ref (a 0)), (1, .int (nI d))]) (by decide +kernel) rfl (Nat.le_of_ble_eq_true rfl) ?_
  intro Z hRf hRl hl hG hn hk ht hA hQ X
  subst hG hl
  have X : XC Z "NestedDeedsModel" prog_14_method_27_code (some .int) := X
  have hk0 : zk Z ≤ (zR Z).cells := hk ▸ Nat.zero_le _
  have ht0 : zt Z ≤ (zR Z).slots := ht ▸ Nat.zero_le _
  refine V.aload_n X 0 dX12_walkAll_0 rfl rfl ?_
  refine V.iload_n X 1 dX12_walkAll_1 rfl rfl ?_
  refine V.iconst X (v := nI 0) dX12_walkAll_2 (by decide) ?_
  refine V.iconst X (v := nI 0) dX12_walkAll_3 (by decide) ?_
  refine V.iconst X (v := nI 0) dX12_walkAll_4 (by decide) ?_
  refine V.iconst X (v := nI 0) dX12_walkAll_5 (by decide) ?_
  refine V.eqs (st' := [.int (nI 0), .int (nI 0), .int (bI false), .int (bI false), .int (nI d), .ref (a 0)]) rfl ?_
  refine V.callV X rfl (r_walk (zl Z) (zG Z) a σ (A := A) d false false (nI 0) (nI 0) hx hW hd (fun z => by cases z) h2 h3a h3b hbot (F := F) (by rw [st7_f, chf_f]; exact hF)) cv_X12_178 rfl 0 rfl rfl (len hRf (by decide)) (len hRl (by decide)) hk0 ht0 [] rfl (Nat.le_of_ble_eq_true rfl) dX12_walkAll_6 ?_
  rintro _ _ ⟨rfl, τ, rfl, b1, b2, b3, b4⟩
  refine V.eqs (st' := [.int (wkR F)]) rfl ?_
  refine V.pop X dX12_walkAll_9 rfl ?_
  refine V.aload_n X 0 dX12_walkAll_10 rfl rfl ?_
  refine Vg_r_0_answer (x := gI (τ) 0) X tw_841 dX12_walkAll_11 rfl ?_
  exact V.iret X rfl hA hk ht hQ rfl dX12_walkAll_14 (⟨by rw [b2.2.2.2.1], τ, rfl, b1, b2, b3, b4⟩)

set_option maxHeartbeats 4000000 in
set_option maxRecDepth 100000 in
theorem rf_size (l : Launch) (G : Gx) (a : Nat → Nat) (σ : St) {S : AS} (d : Int32) (h : RR S σ) : MM l G ⟨"NestedDeedsModel", "size", "(I)I"⟩ prog_14_method_28_code 2 (some .int) 4 99 [.ref (a 0), .int d] (rw G a σ) (PR G a (sp_size S d).2 (.int (sp_size S d).1)) := by
  refine MM.of (lv := [(0, .ref (a 0)), (1, .int d)]) (by decide +kernel) rfl (Nat.le_of_ble_eq_true rfl) ?_
  intro Z hRf hRl hl hG hn hk ht hA hQ X
  subst hG hl
  have X : XC Z "NestedDeedsModel" prog_14_method_28_code (some .int) := X
  have hk0 : zk Z ≤ (zR Z).cells := hk ▸ Nat.zero_le _
  have ht0 : zt Z ≤ (zR Z).slots := ht ▸ Nat.zero_le _
  have hW := h.1.1
  have hN := hW.1
  have hT := hW.2.1
  have hx := h.2.1
  obtain ⟨ix, hX⟩ := h.2.1
  obtain ⟨g0, g1, g2, g3⟩ := hX
  obtain ⟨o1, o2, o3, o4, o5, o6, o7, o8⟩ := h.1
  have e2 : gN σ 2 = yW S := h.2.2.1
  have e3 : gN σ 3 = yM S := h.2.2.2.1
  refine V.aload_n X 0 dX12_size_0 rfl rfl ?_
  refine V.iload_n X 1 dX12_size_1 rfl rfl ?_
  refine V.callV X rfl (r_isDeed (zl Z) (zG Z) a σ d (by omega)) cv_X12_104 rfl 0 rfl rfl (len hRf (by decide)) (len hRl (by decide)) hk0 ht0 [] rfl (Nat.le_of_ble_eq_true rfl) dX12_size_2 ?_
  rintro _ _ ⟨rfl, rfl⟩
  refine V.eqs (st' := [.int (bI (hasD (gN σ 0) d))]) rfl ?_
  refine V.if_neB X 13 dX12_size_5 (by decide) (fun c5 => ?_) (fun c5 => ?_)
  · rw [g0] at c5
    obtain ⟨d2, hd2, rfl⟩ := hasD_t (by omega) c5
    have hdn : dN (nI d2) = d2 := dN_nI (by omega)
    refine V.aload_n X 0 dX12_size_13 rfl rfl ?_
    refine V.iload_n X 1 dX12_size_14 rfl rfl ?_
    refine V.callV X rfl (r_walkAll (zl Z) (zG Z) a σ (A := yA S) d2 hx hW hd2 (by omega) (by omega) (by omega) (h.hb) (F := (fAll S d2)) rfl) cv_X12_185 rfl 0 rfl rfl (len hRf (by decide)) (len hRl (by decide)) hk0 ht0 [] rfl (Nat.le_of_ble_eq_true rfl) dX12_size_15 ?_
    rintro _ _ ⟨rfl, τ, rfl, b1, b2, b3, b4⟩
    refine V.eqs (st' := [.int ((fAll S d2).2.1)]) rfl ?_
    refine V.if_eq X 28 dX12_size_18 (by decide) (fun c18 => ?_) (fun c18 => ?_)
    · refine V.aload_n X 0 dX12_size_28 rfl rfl ?_
      refine Vg_r_0_visited (x := gN (τ) 8) X tw_847 dX12_size_29 rfl ?_
      exact V.iret X rfl hA hk ht hQ rfl dX12_size_32 (⟨by rw [sp_size, if_pos c5, hdn]; rw [if_pos c18, b2.1], τ, rfl, by rw [sp_size, if_pos c5, hdn]; exact h.told b1 b2 b3 b4 (fAll_mx S d2)⟩)
    · refine V.aload_n X 0 dX12_size_21 rfl rfl ?_
      refine Vg_r_0_answer (x := gI (τ) 0) X tw_841 dX12_size_22 rfl ?_
      refine V.goto X 32 dX12_size_25 (by decide) ?_
      exact V.iret X rfl hA hk ht hQ rfl dX12_size_32 (⟨by rw [sp_size, if_pos c5, hdn]; rw [if_neg c18, b2.2.2.2.1], τ, rfl, by rw [sp_size, if_pos c5, hdn]; exact h.told b1 b2 b3 b4 (fAll_mx S d2)⟩)
  · refine V.aload_n X 0 dX12_size_8 rfl rfl ?_
    refine V.callV X rfl (r_bad (zl Z) (zG Z) a σ) cv_X12_182 rfl 0 rfl rfl (len hRf (by decide)) (len hRl (by decide)) hk0 ht0 [] rfl (Nat.le_of_ble_eq_true rfl) dX12_size_9 ?_
    rintro _ _ ⟨rfl, rfl⟩
    refine V.eqs (st' := [.int (-2)]) rfl ?_
    exact V.iret X rfl hA hk ht hQ rfl dX12_size_12 (⟨by rw [sp_size, if_neg (fun z => by rw [g0, z] at c5; cases c5)], _, rfl, by rw [sp_size, if_neg (fun z => by rw [g0, z] at c5; cases c5)]; exact h.bad⟩)

set_option maxHeartbeats 4000000 in
set_option maxRecDepth 100000 in
theorem rf_depth (l : Launch) (G : Gx) (a : Nat → Nat) (σ : St) {S : AS} (d : Int32) (h : RR S σ) : MM l G ⟨"NestedDeedsModel", "depth", "(I)I"⟩ prog_14_method_29_code 2 (some .int) 4 99 [.ref (a 0), .int d] (rw G a σ) (PR G a (sp_depth S d).2 (.int (sp_depth S d).1)) := by
  refine MM.of (lv := [(0, .ref (a 0)), (1, .int d)]) (by decide +kernel) rfl (Nat.le_of_ble_eq_true rfl) ?_
  intro Z hRf hRl hl hG hn hk ht hA hQ X
  subst hG hl
  have X : XC Z "NestedDeedsModel" prog_14_method_29_code (some .int) := X
  have hk0 : zk Z ≤ (zR Z).cells := hk ▸ Nat.zero_le _
  have ht0 : zt Z ≤ (zR Z).slots := ht ▸ Nat.zero_le _
  have hW := h.1.1
  have hN := hW.1
  have hT := hW.2.1
  have hx := h.2.1
  obtain ⟨ix, hX⟩ := h.2.1
  obtain ⟨g0, g1, g2, g3⟩ := hX
  obtain ⟨o1, o2, o3, o4, o5, o6, o7, o8⟩ := h.1
  have e2 : gN σ 2 = yW S := h.2.2.1
  have e3 : gN σ 3 = yM S := h.2.2.2.1
  refine V.aload_n X 0 dX12_depth_0 rfl rfl ?_
  refine V.iload_n X 1 dX12_depth_1 rfl rfl ?_
  refine V.callV X rfl (r_isDeed (zl Z) (zG Z) a σ d (by omega)) cv_X12_104 rfl 0 rfl rfl (len hRf (by decide)) (len hRl (by decide)) hk0 ht0 [] rfl (Nat.le_of_ble_eq_true rfl) dX12_depth_2 ?_
  rintro _ _ ⟨rfl, rfl⟩
  refine V.eqs (st' := [.int (bI (hasD (gN σ 0) d))]) rfl ?_
  refine V.if_neB X 13 dX12_depth_5 (by decide) (fun c5 => ?_) (fun c5 => ?_)
  · rw [g0] at c5
    obtain ⟨d2, hd2, rfl⟩ := hasD_t (by omega) c5
    have hdn : dN (nI d2) = d2 := dN_nI (by omega)
    refine V.aload_n X 0 dX12_depth_13 rfl rfl ?_
    refine V.iload_n X 1 dX12_depth_14 rfl rfl ?_
    refine V.callV X rfl (r_walkAll (zl Z) (zG Z) a σ (A := yA S) d2 hx hW hd2 (by omega) (by omega) (by omega) (h.hb) (F := (fAll S d2)) rfl) cv_X12_185 rfl 0 rfl rfl (len hRf (by decide)) (len hRl (by decide)) hk0 ht0 [] rfl (Nat.le_of_ble_eq_true rfl) dX12_depth_15 ?_
    rintro _ _ ⟨rfl, τ, rfl, b1, b2, b3, b4⟩
    refine V.eqs (st' := [.int ((fAll S d2).2.1)]) rfl ?_
    refine V.if_eq X 28 dX12_depth_18 (by decide) (fun c18 => ?_) (fun c18 => ?_)
    · refine V.aload_n X 0 dX12_depth_28 rfl rfl ?_
      refine Vg_r_0_deepest (x := gN (τ) 9) X tw_848 dX12_depth_29 rfl ?_
      exact V.iret X rfl hA hk ht hQ rfl dX12_depth_32 (⟨by rw [sp_depth, if_pos c5, hdn]; rw [if_pos c18, b2.2.2.1], τ, rfl, by rw [sp_depth, if_pos c5, hdn]; exact h.told b1 b2 b3 b4 (fAll_mx S d2)⟩)
    · refine V.aload_n X 0 dX12_depth_21 rfl rfl ?_
      refine Vg_r_0_answer (x := gI (τ) 0) X tw_841 dX12_depth_22 rfl ?_
      refine V.goto X 32 dX12_depth_25 (by decide) ?_
      exact V.iret X rfl hA hk ht hQ rfl dX12_depth_32 (⟨by rw [sp_depth, if_pos c5, hdn]; rw [if_neg c18, b2.2.2.2.1], τ, rfl, by rw [sp_depth, if_pos c5, hdn]; exact h.told b1 b2 b3 b4 (fAll_mx S d2)⟩)
  · refine V.aload_n X 0 dX12_depth_8 rfl rfl ?_
    refine V.callV X rfl (r_bad (zl Z) (zG Z) a σ) cv_X12_182 rfl 0 rfl rfl (len hRf (by decide)) (len hRl (by decide)) hk0 ht0 [] rfl (Nat.le_of_ble_eq_true rfl) dX12_depth_9 ?_
    rintro _ _ ⟨rfl, rfl⟩
    refine V.eqs (st' := [.int (-2)]) rfl ?_
    exact V.iret X rfl hA hk ht hQ rfl dX12_depth_12 (⟨by rw [sp_depth, if_neg (fun z => by rw [g0, z] at c5; cases c5)], _, rfl, by rw [sp_depth, if_neg (fun z => by rw [g0, z] at c5; cases c5)]; exact h.bad⟩)

set_option maxHeartbeats 4000000 in
set_option maxRecDepth 100000 in
theorem rf_mark (l : Launch) (G : Gx) (a : Nat → Nat) (σ : St) {S : AS} (d : Int32) (h : RR S σ) : MM l G ⟨"NestedDeedsModel", "mark", "(I)J"⟩ prog_14_method_31_code 2 (some .long) 4 99 [.ref (a 0), .int d] (rw G a σ) (PR G a (sp_mark S d).2 (.long (sp_mark S d).1)) := by
  refine MM.of (lv := [(0, .ref (a 0)), (1, .int d)]) (by decide +kernel) rfl (Nat.le_of_ble_eq_true rfl) ?_
  intro Z hRf hRl hl hG hn hk ht hA hQ X
  subst hG hl
  have X : XC Z "NestedDeedsModel" prog_14_method_31_code (some .long) := X
  have hk0 : zk Z ≤ (zR Z).cells := hk ▸ Nat.zero_le _
  have ht0 : zt Z ≤ (zR Z).slots := ht ▸ Nat.zero_le _
  have hW := h.1.1
  have hN := hW.1
  have hT := hW.2.1
  have hx := h.2.1
  obtain ⟨ix, hX⟩ := h.2.1
  obtain ⟨g0, g1, g2, g3⟩ := hX
  obtain ⟨o1, o2, o3, o4, o5, o6, o7, o8⟩ := h.1
  have e2 : gN σ 2 = yW S := h.2.2.1
  have e3 : gN σ 3 = yM S := h.2.2.2.1
  refine V.aload_n X 0 dX12_mark_0 rfl rfl ?_
  refine V.iload_n X 1 dX12_mark_1 rfl rfl ?_
  refine V.callV X rfl (r_isDeed (zl Z) (zG Z) a σ d (by omega)) cv_X12_104 rfl 0 rfl rfl (len hRf (by decide)) (len hRl (by decide)) hk0 ht0 [] rfl (Nat.le_of_ble_eq_true rfl) dX12_mark_2 ?_
  rintro _ _ ⟨rfl, rfl⟩
  refine V.eqs (st' := [.int (bI (hasD (gN σ 0) d))]) rfl ?_
  refine V.if_neB X 15 dX12_mark_5 (by decide) (fun c5 => ?_) (fun c5 => ?_)
  · rw [g0] at c5
    obtain ⟨d2, hd2, rfl⟩ := hasD_t (by omega) c5
    have hdn : dN (nI d2) = d2 := dN_nI (by omega)
    refine V.aload_n X 0 dX12_mark_15 rfl rfl ?_
    refine V.iload_n X 1 dX12_mark_16 rfl rfl ?_
    refine V.callV X rfl (r_workOut (zl Z) (zG Z) a σ (A := yA S) d2 hx hW hd2) cv_X12_188 rfl 0 rfl rfl (len hRf (by decide)) (len hRl (by decide)) hk0 ht0 [] rfl (Nat.le_of_ble_eq_true rfl) dX12_mark_17 ?_
    rintro _ _ ⟨rfl, σ2, rfl, y1, y2⟩
    refine V.eqs (st' := []) rfl ?_
    have h2 := h.xl y1
    have q2 : gN σ2 2 = yW S := h2.2.2.1
    have q3 : gN σ2 3 = yM S := h2.2.2.2.1
    refine V.aload_n X 0 dX12_mark_20 rfl rfl ?_
    refine V.iload_n X 1 dX12_mark_21 rfl rfl ?_
    refine V.callV X rfl (r_walkAll (zl Z) (zG Z) a σ2 (A := yA S) d2 h2.2.1 hW hd2 (by omega) (by omega) (by omega) (h2.hb) (F := (fAll S d2)) rfl) cv_X12_185 rfl 0 rfl rfl (len hRf (by decide)) (len hRl (by decide)) hk0 ht0 [] rfl (Nat.le_of_ble_eq_true rfl) dX12_mark_22 ?_
    rintro _ _ ⟨rfl, τ, rfl, b1, b2, b3, b4⟩
    refine V.eqs (st' := [.int ((fAll S d2).2.1)]) rfl ?_
    refine V.if_eq X 32 dX12_mark_25 (by decide) (fun c25 => ?_) (fun c25 => ?_)
    · refine V.aload_n X 0 dX12_mark_32 rfl rfl ?_
      refine Vg_r_0_marks X tw_845 dX12_mark_33 ?_
      refine V.iload_n X 1 dX12_mark_36 rfl rfl ?_
      refine Va_r_marks (x := gL (τ) 1 d2) X (by omega) dX12_mark_37 rfl ?_
      exact V.lret X rfl hA hk ht hQ rfl dX12_mark_38 (⟨by rw [sp_mark, if_pos c5, hdn]; rw [if_pos c25, congrFun (congrFun b1.2.2.2.2.2 1) d2, (y2 d2 (Nat.le_refl _)).2], τ, rfl, by rw [sp_mark, if_pos c5, hdn]; exact h2.told b1 b2 b3 b4 (fAll_mx S d2)⟩)
    · refine V.lconst X (v := lN 0) dX12_mark_28 (by decide) ?_
      refine V.goto X 38 dX12_mark_29 (by decide) ?_
      exact V.lret X rfl hA hk ht hQ rfl dX12_mark_38 (⟨by rw [sp_mark, if_pos c5, hdn]; rw [if_neg c25], τ, rfl, by rw [sp_mark, if_pos c5, hdn]; exact h2.told b1 b2 b3 b4 (fAll_mx S d2)⟩)
  · refine V.aload_n X 0 dX12_mark_8 rfl rfl ?_
    refine V.callV X rfl (r_bad (zl Z) (zG Z) a σ) cv_X12_182 rfl 0 rfl rfl (len hRf (by decide)) (len hRl (by decide)) hk0 ht0 [] rfl (Nat.le_of_ble_eq_true rfl) dX12_mark_9 ?_
    rintro _ _ ⟨rfl, rfl⟩
    refine V.eqs (st' := [.int (-2)]) rfl ?_
    refine V.pop X dX12_mark_12 rfl ?_
    refine V.lconst X (v := lN 0) dX12_mark_13 (by decide) ?_
    exact V.lret X rfl hA hk ht hQ rfl dX12_mark_14 (⟨by rw [sp_mark, if_neg (fun z => by rw [g0, z] at c5; cases c5)], _, rfl, by rw [sp_mark, if_neg (fun z => by rw [g0, z] at c5; cases c5)]; exact h.bad⟩)

set_option maxHeartbeats 4000000 in
set_option maxRecDepth 100000 in
theorem rf_worth (l : Launch) (G : Gx) (a : Nat → Nat) (σ : St) {S : AS} (d : Int32) (h : RR S σ) : MM l G ⟨"NestedDeedsModel", "worth", "(I)J"⟩ prog_14_method_30_code 2 (some .long) 4 97 [.ref (a 0), .int d] (rw G a σ) (PR G a (sp_worth S d).2 (.long (sp_worth S d).1)) := by
  refine MM.of (lv := [(0, .ref (a 0)), (1, .int d)]) (by decide +kernel) rfl (Nat.le_of_ble_eq_true rfl) ?_
  intro Z hRf hRl hl hG hn hk ht hA hQ X
  subst hG hl
  have X : XC Z "NestedDeedsModel" prog_14_method_30_code (some .long) := X
  have hk0 : zk Z ≤ (zR Z).cells := hk ▸ Nat.zero_le _
  have ht0 : zt Z ≤ (zR Z).slots := ht ▸ Nat.zero_le _
  have hW := h.1.1
  have hN := hW.1
  have hT := hW.2.1
  have hx := h.2.1
  obtain ⟨ix, hX⟩ := h.2.1
  obtain ⟨g0, g1, g2, g3⟩ := hX
  obtain ⟨o1, o2, o3, o4, o5, o6, o7, o8⟩ := h.1
  have e2 : gN σ 2 = yW S := h.2.2.1
  have e3 : gN σ 3 = yM S := h.2.2.2.1
  refine V.aload_n X 0 dX12_worth_0 rfl rfl ?_
  refine V.iload_n X 1 dX12_worth_1 rfl rfl ?_
  refine V.callV X rfl (r_isDeed (zl Z) (zG Z) a σ d (by omega)) cv_X12_104 rfl 0 rfl rfl (len hRf (by decide)) (len hRl (by decide)) hk0 ht0 [] rfl (Nat.le_of_ble_eq_true rfl) dX12_worth_2 ?_
  rintro _ _ ⟨rfl, rfl⟩
  refine V.eqs (st' := [.int (bI (hasD (gN σ 0) d))]) rfl ?_
  refine V.if_neB X 15 dX12_worth_5 (by decide) (fun c5 => ?_) (fun c5 => ?_)
  · rw [g0] at c5
    obtain ⟨d2, hd2, rfl⟩ := hasD_t (by omega) c5
    have hdn : dN (nI d2) = d2 := dN_nI (by omega)
    refine V.aload_n X 0 dX12_worth_15 rfl rfl ?_
    refine V.iload_n X 1 dX12_worth_16 rfl rfl ?_
    refine V.callV X rfl (r_workOut (zl Z) (zG Z) a σ (A := yA S) d2 hx hW hd2) cv_X12_188 rfl 0 rfl rfl (len hRf (by decide)) (len hRl (by decide)) hk0 ht0 [] rfl (Nat.le_of_ble_eq_true rfl) dX12_worth_17 ?_
    rintro _ _ ⟨rfl, σ2, rfl, y1, y2⟩
    refine V.eqs (st' := []) rfl ?_
    have h2 := h.xl y1
    have q2 : gN σ2 2 = yW S := h2.2.2.1
    have q3 : gN σ2 3 = yM S := h2.2.2.2.1
    refine V.aload_n X 0 dX12_worth_20 rfl rfl ?_
    refine V.iload_n X 1 dX12_worth_21 rfl rfl ?_
    refine V.iconst X (v := nI 1) dX12_worth_22 (by decide) ?_
    refine V.iconst X (v := nI 0) dX12_worth_23 (by decide) ?_
    refine V.iconst X (v := nI 0) dX12_worth_24 (by decide) ?_
    refine V.iconst X (v := nI 0) dX12_worth_25 (by decide) ?_
    refine V.eqs (st' := [.int (nI 0), .int (nI 0), .int (bI false), .int (bI true), .int (nI d2), .ref (a 0)]) rfl ?_
    refine V.callV X rfl (r_walk (zl Z) (zG Z) a σ2 (A := yA S) d2 true false (nI 0) (nI 0) h2.2.1 hW hd2 (fun _ p hp => (y2 p (by omega)).1) (by omega) (by omega) (by omega) h2.hb (F := fWo S d2) (by rw [st7_f, chf_t]; rfl)) cv_X12_178 rfl 0 rfl rfl (len hRf (by decide)) (len hRl (by decide)) hk0 ht0 [] rfl (Nat.le_of_ble_eq_true rfl) dX12_worth_26 ?_
    rintro _ _ ⟨rfl, τ, rfl, b1, b2, b3, b4⟩
    refine V.eqs (st' := [.int (wkR (fWo S d2))]) rfl ?_
    refine V.pop X dX12_worth_29 rfl ?_
    refine V.aload_n X 0 dX12_worth_30 rfl rfl ?_
    refine Vg_r_0_answer (x := gI (τ) 0) X tw_841 dX12_worth_31 rfl ?_
    refine V.if_eq X 41 dX12_worth_34 (by decide) (fun c34 => ?_) (fun c34 => ?_)
    · refine V.aload_n X 0 dX12_worth_41 rfl rfl ?_
      refine Vg_r_0_worths X tw_844 dX12_worth_42 ?_
      refine V.iload_n X 1 dX12_worth_45 rfl rfl ?_
      refine Va_r_worths (x := gL (τ) 0 d2) X (by omega) dX12_worth_46 rfl ?_
      exact V.lret X rfl hA hk ht hQ rfl dX12_worth_47 (⟨by rw [sp_worth, if_pos c5, hdn]; rw [b2.2.2.2.1] at c34; rw [if_pos c34, congrFun (congrFun b1.2.2.2.2.2 0) d2, (y2 d2 (Nat.le_refl _)).1], τ, rfl, by rw [sp_worth, if_pos c5, hdn]; exact h2.told b1 b2 b3 b4 (fWo_mx S d2)⟩)
    · refine V.lconst X (v := lN 0) dX12_worth_37 (by decide) ?_
      refine V.goto X 47 dX12_worth_38 (by decide) ?_
      exact V.lret X rfl hA hk ht hQ rfl dX12_worth_47 (⟨by rw [sp_worth, if_pos c5, hdn]; rw [b2.2.2.2.1] at c34; rw [if_neg c34], τ, rfl, by rw [sp_worth, if_pos c5, hdn]; exact h2.told b1 b2 b3 b4 (fWo_mx S d2)⟩)
  · refine V.aload_n X 0 dX12_worth_8 rfl rfl ?_
    refine V.callV X rfl (r_bad (zl Z) (zG Z) a σ) cv_X12_182 rfl 0 rfl rfl (len hRf (by decide)) (len hRl (by decide)) hk0 ht0 [] rfl (Nat.le_of_ble_eq_true rfl) dX12_worth_9 ?_
    rintro _ _ ⟨rfl, rfl⟩
    refine V.eqs (st' := [.int (-2)]) rfl ?_
    refine V.pop X dX12_worth_12 rfl ?_
    refine V.lconst X (v := lN 0) dX12_worth_13 (by decide) ?_
    exact V.lret X rfl hA hk ht hQ rfl dX12_worth_14 (⟨by rw [sp_worth, if_neg (fun z => by rw [g0, z] at c5; cases c5)], _, rfl, by rw [sp_worth, if_neg (fun z => by rw [g0, z] at c5; cases c5)]; exact h.bad⟩)

set_option maxHeartbeats 4000000 in
set_option maxRecDepth 100000 in
theorem rf_find (l : Launch) (G : Gx) (a : Nat → Nat) (σ : St) {S : AS} (d k v : Int32) (h : RR S σ) : MM l G ⟨"NestedDeedsModel", "find", "(III)I"⟩ prog_14_method_37_code 4 (some .int) 3 78 [.ref (a 0), .int d, .int k, .int v] (rw G a σ) (PR G a (sp_find S d k v).2 (.int (sp_find S d k v).1)) := by
  refine MM.of (lv := [(0, .ref (a 0)), (1, .int d), (2, .int k), (3, .int v)]) (by decide +kernel) rfl (Nat.le_of_ble_eq_true rfl) ?_
  intro Z hRf hRl hl hG hn hk ht hA hQ X
  subst hG hl
  have X : XC Z "NestedDeedsModel" prog_14_method_37_code (some .int) := X
  have hk0 : zk Z ≤ (zR Z).cells := hk ▸ Nat.zero_le _
  have ht0 : zt Z ≤ (zR Z).slots := ht ▸ Nat.zero_le _
  have hW := h.1.1
  have hN := hW.1
  have hT := hW.2.1
  have hx := h.2.1
  obtain ⟨ix, hX⟩ := h.2.1
  obtain ⟨g0, g1, g2, g3⟩ := hX
  obtain ⟨o1, o2, o3, o4, o5, o6, o7, o8⟩ := h.1
  have e2 : gN σ 2 = yW S := h.2.2.1
  have e3 : gN σ 3 = yM S := h.2.2.2.1
  refine V.aload_n X 0 dX12_find_0 rfl rfl ?_
  refine V.iload_n X 1 dX12_find_1 rfl rfl ?_
  refine V.callV X rfl (r_isDeed (zl Z) (zG Z) a σ d (by omega)) cv_X12_104 rfl 0 rfl rfl (len hRf (by decide)) (len hRl (by decide)) hk0 ht0 [] rfl (Nat.le_of_ble_eq_true rfl) dX12_find_2 ?_
  rintro _ _ ⟨rfl, rfl⟩
  refine V.eqs (st' := [.int (bI (hasD (gN σ 0) d))]) rfl ?_
  refine V.if_eqB X 18 dX12_find_5 (by decide) (fun c5 => ?_) (fun c5 => ?_)
  · refine V.aload_n X 0 dX12_find_18 rfl rfl ?_
    refine V.callV X rfl (r_bad (zl Z) (zG Z) a σ) cv_X12_182 rfl 0 rfl rfl (len hRf (by decide)) (len hRl (by decide)) hk0 ht0 [] rfl (Nat.le_of_ble_eq_true rfl) dX12_find_19 ?_
    rintro _ _ ⟨rfl, rfl⟩
    refine V.eqs (st' := [.int (-2)]) rfl ?_
    exact V.iret X rfl hA hk ht hQ rfl dX12_find_22 (⟨by rw [sp_find, if_neg (fun z => by rw [g0, z.1] at c5; cases c5)], _, rfl, by rw [sp_find, if_neg (fun z => by rw [g0, z.1] at c5; cases c5)]; exact h.bad⟩)
  · refine V.iload_n X 2 dX12_find_8 rfl rfl ?_
    refine V.iconst X (v := nI 0) dX12_find_9 (by decide) ?_
    refine V.bipush X (v := nI 11) dX12_find_10 (by decide) ?_
    refine V.callS X rfl (k_in (zl Z) (zG Z) (rw (zG Z) a σ) k (nI 0) (nI 11)) cs_X12_93 rfl (len hRf (by decide)) (len hRl (by decide)) hk0 ht0 [] rfl (Nat.le_of_ble_eq_true rfl) dX12_find_12 ?_
    rintro _ _ ⟨rfl, rfl⟩
    refine V.eqs (st' := [.int (bI (inR k (nI 0) (nI 11)))]) rfl ?_
    refine V.if_neB X 23 dX12_find_15 (by decide) (fun c15 => ?_) (fun c15 => ?_)
    · rw [g0] at c5
      obtain ⟨d2, hd2, rfl⟩ := hasD_t (by omega) c5
      have hdn : dN (nI d2) = d2 := dN_nI (by omega)
      refine V.aload_n X 0 dX12_find_23 rfl rfl ?_
      refine V.iload_n X 1 dX12_find_24 rfl rfl ?_
      refine V.iconst X (v := nI 0) dX12_find_25 (by decide) ?_
      refine V.iconst X (v := nI 1) dX12_find_26 (by decide) ?_
      refine V.iload_n X 2 dX12_find_27 rfl rfl ?_
      refine V.iload_n X 3 dX12_find_28 rfl rfl ?_
      refine V.eqs (st' := [.int v, .int k, .int (bI true), .int (bI false), .int (nI d2), .ref (a 0)]) rfl ?_
      refine V.callV X rfl (r_walk (zl Z) (zG Z) a σ (A := yA S) d2 false true k v hx hW hd2 (fun z => by cases z) (by omega) (by omega) (by omega) h.hb (F := fFn S k v d2) (by rw [st7_t, chf_f]; rfl)) cv_X12_178 rfl 0 rfl rfl (len hRf (by decide)) (len hRl (by decide)) hk0 ht0 [] rfl (Nat.le_of_ble_eq_true rfl) dX12_find_29 ?_
      rintro _ _ ⟨rfl, τ, rfl, b1, b2, b3, b4⟩
      refine V.eqs (st' := [.int (wkR (fFn S k v d2))]) rfl ?_
      exact V.iret X rfl hA hk ht hQ rfl dX12_find_32 (⟨by rw [sp_find, if_pos ⟨c5, by rw [← inR_hasN (m := 11) (by decide)]; exact c15⟩, hdn]; rfl, τ, rfl, by rw [sp_find, if_pos ⟨c5, by rw [← inR_hasN (m := 11) (by decide)]; exact c15⟩, hdn]; exact h.told b1 b2 b3 b4 (fFn_mx S k v d2)⟩)
    · refine V.aload_n X 0 dX12_find_18 rfl rfl ?_
      refine V.callV X rfl (r_bad (zl Z) (zG Z) a σ) cv_X12_182 rfl 0 rfl rfl (len hRf (by decide)) (len hRl (by decide)) hk0 ht0 [] rfl (Nat.le_of_ble_eq_true rfl) dX12_find_19 ?_
      rintro _ _ ⟨rfl, rfl⟩
      refine V.eqs (st' := [.int (-2)]) rfl ?_
      exact V.iret X rfl hA hk ht hQ rfl dX12_find_22 (⟨by rw [sp_find, if_neg (fun z => by rw [← inR_hasN (m := 11) (by decide), c15] at z; cases z.2)], _, rfl, by rw [sp_find, if_neg (fun z => by rw [← inR_hasN (m := 11) (by decide), c15] at z; cases z.2)]; exact h.bad⟩)

