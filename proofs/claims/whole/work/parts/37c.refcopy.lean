theorem fAll_all {S : AS} {j : Nat} (h : (fAll S j).2.1 = 0) : (fAll S j).1 = vis (aP (yA S)) id j 1 ∧ (vis (aP (yA S)) id j 1).length ≤ 20000 ∧ ∀ v ∈ vis (aP (yA S)) id j 1, v.2 ≤ botS S := by
  obtain ⟨h1, h2⟩ := runW_inv (bot := botS S) (vis (aP (yA S)) id j 1) [] (by simp) h
  rw [List.length_nil, Nat.zero_add] at h1
  refine ⟨?_, h1, h2⟩
  have := runW_ok (bot := botS S) (vis (aP (yA S)) id j 1) [] (by simpa using h1) h2
  show (runW (botS S) (fun _ => false) (vis (aP (yA S)) id j 1) ([], 0, false)).1 = _
  rw [this]; rfl
theorem botS_le {S : AS} (h : OKS S) : botS S ≤ 1500 := by
  have := h.2.2.2.1
  simp only [botS]; split <;> omega
theorem RR.grown {S : AS} {σ τ : St} {A : Ar} (h : RR S σ) (hW : WA A) (hR : RRd A τ) (e : xG τ σ) : RR (stA S A) τ := by
  obtain ⟨⟨o1, o2⟩, h1, h2, h3, h4, h5, h6, h7, h8⟩ := h
  obtain ⟨e2, e3, e4, e5, e6, eA, eI⟩ := e
  exact ⟨⟨hW, o2⟩, hR, e2.trans h2, e3.trans h3, e4.trans h4, fun i hi => (congrFun eA i).trans (h5 i hi), eI.trans h6, e5.trans h7, e6.trans h8⟩
theorem lo_max (A : Ar) (o : Bool) (d : Nat) : lo (A, nI 2147483647, o) d = false := by
  have h1 := Int32.toInt_lt (aV A d)
  have h2 : (nI 2147483647).toInt = 2147483647 := by decide
  simp only [lo, decide_eq_false_iff_not]
  intro z
  have z2 : nI 2147483647 < aV A d := z.2
  rw [Int32.lt_iff_toInt_lt, h2] at z2
  omega
theorem lo_mx (A : Ar) (o : Bool) (t : Int32) : ∀ d, lo (A, nI 2147483647, o) d = true ↔ (false = true ∧ aK A d = 0 ∧ t < aV A d) := fun d => by rw [lo_max]; simp
theorem lo_th (A : Ar) (t : Int32) : ∀ d, lo (A, t, false) d = true ↔ (true = true ∧ aK A d = 0 ∧ t < aV A d) := fun d => by simp [lo]
theorem rm_room {S : AS} {m : Int32} {o : Bool} {j : Nat} (hW : WA (yA S)) : (bl (yA S, m, o) j).length = rmN S m j := bl_len hW (j + 1) j (Nat.lt_succ_self _)

set_option maxHeartbeats 4000000 in
set_option maxRecDepth 100000 in
theorem r_anew (l : Launch) (G : Gx) (a : Nat → Nat) (σ : St) {S : AS} {m : Int32} (d : Int32) (th : Bool) (t : Int32) (sr : Bool) (hlo : ∀ d, lo (yA S, m, sr) d = true ↔ (th = true ∧ aK (yA S) d = 0 ∧ t < aV (yA S) d)) (hso : sr = true → ∀ d, lo (yA S, m, sr) d = false) (h : RR S σ) : MM l G ⟨"NestedDeedsModel", "anew", "(IZIZ)I"⟩ prog_14_method_42_code 5 (some .int) 4 99 [.ref (a 0), .int d, .int (bI th), .int t, .int (bI sr)] (rw G a σ) (PR G a (sp_remake S d m sr).2 (.int (sp_remake S d m sr).1)) := by
  refine MM.of (lv := [(0, .ref (a 0)), (1, .int d), (2, .int (bI th)), (3, .int t), (4, .int (bI sr))]) (by decide +kernel) rfl (Nat.le_of_ble_eq_true rfl) ?_
  intro Z hRf hRl hl hG hn hk ht hA hQ X
  subst hG hl
  have X : XC Z "NestedDeedsModel" prog_14_method_42_code (some .int) := X
  have hk0 : zk Z ≤ (zR Z).cells := hk ▸ Nat.zero_le _
  have ht0 : zt Z ≤ (zR Z).slots := ht ▸ Nat.zero_le _
  have hW := h.1.1
  have hN := hW.1
  have hT := hW.2.1
  have hx := h.2.1
  obtain ⟨ix, hX⟩ := h.2.1
  obtain ⟨g0, g1, g2, g3⟩ := hX
  obtain ⟨o1, o2, o3, o4, o5, o6, o7, o8⟩ := h.1
  have e2 : gN σ 2 = yW S := h.2.2.1
  have e3 : gN σ 3 = yM S := h.2.2.2.1
  refine V.aload_n X 0 dX12_anew_0 rfl rfl ?_
  refine V.iload_n X 1 dX12_anew_1 rfl rfl ?_
  refine V.callV X rfl (r_isDeed (zl Z) (zG Z) a σ d (by omega)) cv_X12_104 rfl 0 rfl rfl (len hRf (by decide)) (len hRl (by decide)) hk0 ht0 [] rfl (Nat.le_of_ble_eq_true rfl) dX12_anew_2 ?_
  rintro _ _ ⟨rfl, rfl⟩
  refine V.eqs (st' := [.int (bI (hasD (gN σ 0) d))]) rfl ?_
  refine V.if_neB X 13 dX12_anew_5 (by decide) (fun c5 => ?_) (fun c5 => ?_)
  · rw [g0] at c5
    obtain ⟨d2, hd2, rfl⟩ := hasD_t (by omega) c5
    have hdn : dN (nI d2) = d2 := dN_nI (by omega)
    refine V.aload_n X 0 dX12_anew_13 rfl rfl ?_
    refine V.iload_n X 1 dX12_anew_14 rfl rfl ?_
    refine V.callV X rfl (r_workOut (zl Z) (zG Z) a σ (A := yA S) d2 hx hW hd2) cv_X12_188 rfl 0 rfl rfl (len hRf (by decide)) (len hRl (by decide)) hk0 ht0 [] rfl (Nat.le_of_ble_eq_true rfl) dX12_anew_15 ?_
    rintro _ _ ⟨rfl, σ2, rfl, y1, y2⟩
    refine V.eqs (st' := []) rfl ?_
    have h2 := h.xl y1
    have q2 : gN σ2 2 = yW S := h2.2.2.1
    have q3 : gN σ2 3 = yM S := h2.2.2.2.1
    refine V.aload_n X 0 dX12_anew_18 rfl rfl ?_
    refine V.iload_n X 1 dX12_anew_19 rfl rfl ?_
    refine V.callV X rfl (r_walkAll (zl Z) (zG Z) a σ2 (A := yA S) d2 h2.2.1 hW hd2 (by omega) (by omega) (by omega) (h2.hb) (F := (fAll S d2)) rfl) cv_X12_185 rfl 0 rfl rfl (len hRf (by decide)) (len hRl (by decide)) hk0 ht0 [] rfl (Nat.le_of_ble_eq_true rfl) dX12_anew_20 ?_
    rintro _ _ ⟨rfl, τ, rfl, b1, b2, b3, b4⟩
    refine V.eqs (st' := [.int ((fAll S d2).2.1)]) rfl ?_
    refine V.if_eq X 33 dX12_anew_23 (by decide) (fun c23 => ?_) (fun c23 => ?_)
    · refine V.aload_n X 0 dX12_anew_33 rfl rfl ?_
      refine V.iload_n X 2 dX12_anew_34 rfl rfl ?_
      refine V.iload_n X 3 dX12_anew_35 rfl rfl ?_
      refine V.iload X 4 dX12_anew_36 rfl ?_
      obtain ⟨v1, v2, v3⟩ := fAll_all c23
      have hb15 := botS_le h.1
      have h3 := h2.told b1 b2 b3 b4 (fAll_mx S d2)
      refine V.callV X rfl (r_build (zl Z) (zG Z) a τ (A := yA S) (m := m) th t sr (j := d2) h3.2.1 hW hd2 hlo hso (by rw [← v1]; exact b2.1) v2 (by rw [← v1]; exact b2.2.2.2.2) (fun v hv => by have := v3 v hv; omega) (fun p hp => by rw [congrFun b1.2.2.2.2.2 1]; exact (y2 p hp).2)) cv_X12_226 rfl 0 rfl rfl (len hRf (by decide)) (len hRl (by decide)) hk0 ht0 [] rfl (Nat.le_of_ble_eq_true rfl) dX12_anew_38 ?_
      rintro rv w0 ⟨hp1, hp2⟩
      rw [rm_room hW] at hp1 hp2
      by_cases hroom : aN (yA S) + rmN S m d2 ≤ 1500 ∧ tot (aP (yA S)) (aN (yA S)) + (rmN S m d2 - 1) ≤ 4000
      · obtain ⟨rfl, τ3, rfl, w1, w2, w3⟩ := hp1 hroom
        refine V.eqs (st' := [.int (nI (aN (yA S) + rmN S m d2 - 1))]) rfl ?_
        exact V.iret X rfl hA hk ht hQ rfl dX12_anew_41 ⟨by rw [sp_remake, if_pos c5, hdn, if_pos c23, if_pos hroom], τ3, rfl, by rw [sp_remake, if_pos c5, hdn, if_pos c23, if_pos hroom]; exact h3.grown w2 w1 w3⟩
      · obtain ⟨rfl, τ3, rfl, w1, w3⟩ := hp2 hroom
        refine V.eqs (st' := [.int (-4)]) rfl ?_
        exact V.iret X rfl hA hk ht hQ rfl dX12_anew_41 ⟨by rw [sp_remake, if_pos c5, hdn, if_pos c23, if_neg hroom], τ3, rfl, by rw [sp_remake, if_pos c5, hdn, if_pos c23, if_neg hroom]; exact h3.grown (A := yA S) hW w1 w3⟩
    · refine V.aload_n X 0 dX12_anew_26 rfl rfl ?_
      refine Vg_r_0_answer (x := gI (τ) 0) X tw_841 dX12_anew_27 rfl ?_
      refine V.goto X 41 dX12_anew_30 (by decide) ?_
      exact V.iret X rfl hA hk ht hQ rfl dX12_anew_41 (⟨by rw [sp_remake, if_pos c5, hdn, if_neg c23, b2.2.2.2.1], τ, rfl, by rw [sp_remake, if_pos c5, hdn, if_neg c23]; exact h2.told b1 b2 b3 b4 (fAll_mx S d2)⟩)
  · refine V.aload_n X 0 dX12_anew_8 rfl rfl ?_
    refine V.callV X rfl (r_bad (zl Z) (zG Z) a σ) cv_X12_182 rfl 0 rfl rfl (len hRf (by decide)) (len hRl (by decide)) hk0 ht0 [] rfl (Nat.le_of_ble_eq_true rfl) dX12_anew_9 ?_
    rintro _ _ ⟨rfl, rfl⟩
    refine V.eqs (st' := [.int (-2)]) rfl ?_
    exact V.iret X rfl hA hk ht hQ rfl dX12_anew_12 (⟨by rw [sp_remake, if_neg (fun z => by rw [g0, z] at c5; cases c5)], _, rfl, by rw [sp_remake, if_neg (fun z => by rw [g0, z] at c5; cases c5)]; exact h.bad⟩)

set_option maxHeartbeats 4000000 in
set_option maxRecDepth 100000 in
theorem rf_copy (l : Launch) (G : Gx) (a : Nat → Nat) (σ : St) {S : AS} (d : Int32) (h : RR S σ) : MM l G ⟨"NestedDeedsModel", "copy", "(I)I"⟩ prog_14_method_43_code 2 (some .int) 5 123 [.ref (a 0), .int d] (rw G a σ) (PR G a (sp_remake S d (nI 2147483647) false).2 (.int (sp_remake S d (nI 2147483647) false).1)) := by
  refine MM.of (lv := [(0, .ref (a 0)), (1, .int d)]) (by decide +kernel) rfl (Nat.le_of_ble_eq_true rfl) ?_
  intro Z hRf hRl hl hG hn hk ht hA hQ X
  subst hG hl
  have X : XC Z "NestedDeedsModel" prog_14_method_43_code (some .int) := X
  have hk0 : zk Z ≤ (zR Z).cells := hk ▸ Nat.zero_le _
  have ht0 : zt Z ≤ (zR Z).slots := ht ▸ Nat.zero_le _
  refine V.aload_n X 0 dX12_copy_0 rfl rfl ?_
  refine V.iload_n X 1 dX12_copy_1 rfl rfl ?_
  refine V.iconst X (v := nI 0) dX12_copy_2 (by decide) ?_
  refine V.iconst X (v := nI 0) dX12_copy_3 (by decide) ?_
  refine V.iconst X (v := nI 0) dX12_copy_4 (by decide) ?_
  refine V.eqs (st' := [.int (bI false), .int (nI 0), .int (bI false), .int d, .ref (a 0)]) rfl ?_
  refine V.callV X rfl (r_anew (zl Z) (zG Z) a σ (S := S) (m := nI 2147483647) d false (nI 0) false (lo_mx _ _ _) (fun z => by cases z) h) cv_X12_230 rfl 0 rfl rfl (len hRf (by decide)) (len hRl (by decide)) hk0 ht0 [] rfl (Nat.le_of_ble_eq_true rfl) dX12_copy_5 ?_
  rintro _ _ ⟨rfl, τ, rfl, hR⟩
  refine V.eqs (st' := [.int (sp_remake S d (nI 2147483647) false).1]) rfl ?_
  exact V.iret X rfl hA hk ht hQ rfl dX12_copy_8 (⟨rfl, τ, rfl, hR⟩)

set_option maxHeartbeats 4000000 in
set_option maxRecDepth 100000 in
theorem rf_thin (l : Launch) (G : Gx) (a : Nat → Nat) (σ : St) {S : AS} (d t : Int32) (h : RR S σ) : MM l G ⟨"NestedDeedsModel", "thin", "(II)I"⟩ prog_14_method_44_code 3 (some .int) 5 123 [.ref (a 0), .int d, .int t] (rw G a σ) (PR G a (sp_remake S d t false).2 (.int (sp_remake S d t false).1)) := by
  refine MM.of (lv := [(0, .ref (a 0)), (1, .int d), (2, .int t)]) (by decide +kernel) rfl (Nat.le_of_ble_eq_true rfl) ?_
  intro Z hRf hRl hl hG hn hk ht hA hQ X
  subst hG hl
  have X : XC Z "NestedDeedsModel" prog_14_method_44_code (some .int) := X
  have hk0 : zk Z ≤ (zR Z).cells := hk ▸ Nat.zero_le _
  have ht0 : zt Z ≤ (zR Z).slots := ht ▸ Nat.zero_le _
  refine V.aload_n X 0 dX12_thin_0 rfl rfl ?_
  refine V.iload_n X 1 dX12_thin_1 rfl rfl ?_
  refine V.iconst X (v := nI 1) dX12_thin_2 (by decide) ?_
  refine V.iload_n X 2 dX12_thin_3 rfl rfl ?_
  refine V.iconst X (v := nI 0) dX12_thin_4 (by decide) ?_
  refine V.eqs (st' := [.int (bI false), .int t, .int (bI true), .int d, .ref (a 0)]) rfl ?_
  refine V.callV X rfl (r_anew (zl Z) (zG Z) a σ (S := S) (m := t) d true t false (lo_th _ _) (fun z => by cases z) h) cv_X12_230 rfl 0 rfl rfl (len hRf (by decide)) (len hRl (by decide)) hk0 ht0 [] rfl (Nat.le_of_ble_eq_true rfl) dX12_thin_5 ?_
  rintro _ _ ⟨rfl, τ, rfl, hR⟩
  refine V.eqs (st' := [.int (sp_remake S d t false).1]) rfl ?_
  exact V.iret X rfl hA hk ht hQ rfl dX12_thin_8 (⟨rfl, τ, rfl, hR⟩)

set_option maxHeartbeats 4000000 in
set_option maxRecDepth 100000 in
theorem rf_order (l : Launch) (G : Gx) (a : Nat → Nat) (σ : St) {S : AS} (d : Int32) (h : RR S σ) : MM l G ⟨"NestedDeedsModel", "order", "(I)I"⟩ prog_14_method_45_code 2 (some .int) 5 123 [.ref (a 0), .int d] (rw G a σ) (PR G a (sp_remake S d (nI 2147483647) true).2 (.int (sp_remake S d (nI 2147483647) true).1)) := by
  refine MM.of (lv := [(0, .ref (a 0)), (1, .int d)]) (by decide +kernel) rfl (Nat.le_of_ble_eq_true rfl) ?_
  intro Z hRf hRl hl hG hn hk ht hA hQ X
  subst hG hl
  have X : XC Z "NestedDeedsModel" prog_14_method_45_code (some .int) := X
  have hk0 : zk Z ≤ (zR Z).cells := hk ▸ Nat.zero_le _
  have ht0 : zt Z ≤ (zR Z).slots := ht ▸ Nat.zero_le _
  refine V.aload_n X 0 dX12_order_0 rfl rfl ?_
  refine V.iload_n X 1 dX12_order_1 rfl rfl ?_
  refine V.iconst X (v := nI 0) dX12_order_2 (by decide) ?_
  refine V.iconst X (v := nI 0) dX12_order_3 (by decide) ?_
  refine V.iconst X (v := nI 1) dX12_order_4 (by decide) ?_
  refine V.eqs (st' := [.int (bI true), .int (nI 0), .int (bI false), .int d, .ref (a 0)]) rfl ?_
  refine V.callV X rfl (r_anew (zl Z) (zG Z) a σ (S := S) (m := nI 2147483647) d false (nI 0) true (lo_mx _ _ _) (fun _ => lo_max _ _) h) cv_X12_230 rfl 0 rfl rfl (len hRf (by decide)) (len hRl (by decide)) hk0 ht0 [] rfl (Nat.le_of_ble_eq_true rfl) dX12_order_5 ?_
  rintro _ _ ⟨rfl, τ, rfl, hR⟩
  refine V.eqs (st' := [.int (sp_remake S d (nI 2147483647) true).1]) rfl ?_
  exact V.iret X rfl hA hk ht hQ rfl dX12_order_8 (⟨rfl, τ, rfl, hR⟩)

