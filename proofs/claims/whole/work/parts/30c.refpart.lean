set_option maxHeartbeats 4000000 in
set_option maxRecDepth 100000 in
theorem r_partAt (l : Launch) (G : Gx) (a : Nat → Nat) (σ : St) {A : Ar} (d i : Nat) (hx : RRd A σ) (hW : WA A) (hd : d < aN A) (hi : i < (aP A d).length) : MM l G ⟨"NestedDeedsModel", "partAt", "(II)I"⟩ prog_14_method_12_code 5 (some .int) 0 0 [.ref (a 0), .int (nI d), .int (nI i)] (rw G a σ) (fun rv w => rv = some (.int (nI ((aP A d).getD i 0))) ∧ w = rw G a σ) := by
  refine MM.of (lv := [(0, .ref (a 0)), (1, .int (nI d)), (2, .int (nI i))]) (by decide +kernel) rfl (Nat.le_of_ble_eq_true rfl) ?_
  intro Z hRf hRl hl hG hn hk ht hA hQ X
  subst hG hl
  have X : XC Z "NestedDeedsModel" prog_14_method_12_code (some .int) := X
  have hk0 : zk Z ≤ (zR Z).cells := hk ▸ Nat.zero_le _
  have ht0 : zt Z ≤ (zR Z).slots := ht ▸ Nat.zero_le _
  obtain ⟨ix, hX⟩ := hx
  obtain ⟨g0, g1, g2, g3⟩ := hX
  obtain ⟨q1, q2, q3, q4, q5, q6, q7⟩ := g2 d hd
  have hT := hW.2.1
  have hN := hW.1
  have hln := tot_len hW hd
  have LP : ∀ (m k j : Nat), k + m = i → (ix d)[k]? = some j → V Z (rw (zG Z) a σ) [(4, .int (nI k)), (3, .int (nI j)), (0, .ref (a 0)), (1, .int (nI d)), (2, .int (nI i))] 10 [] := by
    intro m
    induction m with
    | zero =>
      intro k j hkm hj
      obtain ⟨w1, w2, w3⟩ := q7 k j hj
      refine V.iload X 0 dX12_partAt_10 rfl ?_
      refine V.iload_n X 4 dX12_partAt_12 rfl rfl ?_
      refine V.icmp_geN X 29 dX12_partAt_13 (by decide) (by omega) (by omega) (fun c13 => ?_) (fun c13 => by exfalso; omega)
      refine V.aload_n X 2 dX12_partAt_29 rfl rfl ?_
      refine Vg_r_0_partOf X tw_835 dX12_partAt_30 ?_
      refine V.iload_n X 1 dX12_partAt_33 rfl rfl ?_
      refine Va_r_partOf (x := gA σ 2 j) X (by omega) dX12_partAt_34 rfl ?_
      exact V.iret X rfl hA hk ht hQ rfl dX12_partAt_35 (⟨by rw [w2, show k = i by omega], rfl⟩)
    | succ m ih =>
      intro k j hkm hj
      obtain ⟨w1, w2, w3⟩ := q7 k j hj
      obtain ⟨j2, hj2⟩ : ∃ j2, (ix d)[k + 1]? = some j2 := ⟨_, List.getElem?_eq_getElem (by omega)⟩
      refine V.iload X 0 dX12_partAt_10 rfl ?_
      refine V.iload_n X 4 dX12_partAt_12 rfl rfl ?_
      refine V.icmp_geN X 29 dX12_partAt_13 (by decide) (by omega) (by omega) (fun c13 => by exfalso; omega) (fun c13 => ?_)
      refine V.aload_n X 2 dX12_partAt_16 rfl rfl ?_
      refine Vg_r_0_nextPart X tw_836 dX12_partAt_17 ?_
      refine V.iload_n X 1 dX12_partAt_20 rfl rfl ?_
      refine Va_r_nextPart (x := gP σ 2 j) X (by omega) dX12_partAt_21 rfl ?_
      refine V.topi (y := nI j2) (by rw [w3, hj2]; rfl) ?_
      refine V.istore_n X (lv' := [(3, .int (nI j2)), (4, .int (nI k)), (0, .ref (a 0)), (1, .int (nI d)), (2, .int (nI i))]) dX12_partAt_22 rfl (ltn hn (by decide)) rfl ?_
      refine V.iinc X (v := nI (k + 1)) (lv' := [(4, .int (nI (k + 1))), (3, .int (nI j2)), (0, .ref (a 0)), (1, .int (nI d)), (2, .int (nI i))]) (k0 := 1) dX12_partAt_23 rfl (inc_1 _) (ltn hn (by decide)) rfl ?_
      refine V.goto X 10 dX12_partAt_26 (by decide) ?_
      exact V.sub [0, 1, 2, 3, 4] rfl (ih (k + 1) j2 (by omega) hj2)
  obtain ⟨j0, hj0⟩ : ∃ j0, (ix d)[0]? = some j0 := ⟨_, List.getElem?_eq_getElem (by omega)⟩
  refine V.aload_n X 0 dX12_partAt_0 rfl rfl ?_
  refine Vg_r_0_firstPart X tw_832 dX12_partAt_1 ?_
  refine V.iload_n X 1 dX12_partAt_4 rfl rfl ?_
  refine Va_r_firstPart (x := gP σ 0 d) X (by omega) dX12_partAt_5 rfl ?_
  refine V.topi (y := nI j0) (by rw [q5, hj0]; rfl) ?_
  refine V.istore_n X (lv' := [(3, .int (nI j0)), (0, .ref (a 0)), (1, .int (nI d)), (2, .int (nI i))]) dX12_partAt_6 rfl (ltn hn (by decide)) rfl ?_
  refine V.iconst X (v := nI 0) dX12_partAt_7 (by decide) ?_
  refine V.istore X (lv' := [(4, .int (nI 0)), (3, .int (nI j0)), (0, .ref (a 0)), (1, .int (nI d)), (2, .int (nI i))]) dX12_partAt_8 (ltn hn (by decide)) rfl ?_
  exact V.sub [0, 1, 2, 3, 4] rfl (LP i 0 j0 (by omega) hj0)

/-- the reference holds it -/
def RR (S : AS) (τ : St) : Prop := OKS S ∧ RRd (yA S) τ ∧ gN τ 2 = yW S ∧ gN τ 3 = yM S ∧ gN τ 4 = (yP S).length ∧ (∀ i, i < (yP S).length → gA τ 3 i = (yP S).getD i 0) ∧ gI τ 0 = yR S ∧ gN τ 5 = yV S ∧ gN τ 6 = yC S
def PR (G : Gx) (a : Nat → Nat) (S : AS) (r : Value) (rv : Option Value) (w : va_W) : Prop := rv = some r ∧ ∃ τ, w = rw G a τ ∧ RR S τ
theorem RR.n0 {S : AS} {τ : St} (h : RR S τ) : gN τ 0 = aN (yA S) := by
  obtain ⟨_, ⟨ix, hx⟩, _⟩ := h
  exact hx.1
theorem RR.n1 {S : AS} {τ : St} (h : RR S τ) : gN τ 1 = tot (aP (yA S)) (aN (yA S)) := by
  obtain ⟨_, ⟨ix, hx⟩, _⟩ := h
  exact hx.2.1
theorem RR.setA {S : AS} {σ τ : St} {A : Ar} (h : RR S σ) (hW : WA A) (hR : RRd A τ) (e : RST τ σ) : RR (stA S A) τ := by
  obtain ⟨⟨o1, o2⟩, h1, h2, h3, h4, h5, h6, h7, h8⟩ := h
  obtain ⟨e1, e2, e3, _⟩ := e
  exact ⟨⟨hW, o2⟩, hR, (e1 2 (by decide)).trans h2, (e1 3 (by decide)).trans h3, (e1 4 (by decide)).trans h4, fun i hi => (congrFun (e2 3 (by decide)) i).trans (h5 i hi), (congrFun e3 0).trans h6, (e1 5 (by decide)).trans h7, (e1 6 (by decide)).trans h8⟩

set_option maxHeartbeats 4000000 in
set_option maxRecDepth 100000 in
theorem rf_part (l : Launch) (G : Gx) (a : Nat → Nat) (σ : St) {S : AS} (d x : Int32) (h : RR S σ) : MM l G ⟨"NestedDeedsModel", "part", "(II)I"⟩ prog_14_method_13_code 3 (some .int) 2 43 [.ref (a 0), .int d, .int x] (rw G a σ) (PR G a S (.int (sp_part S d x))) := by
  refine MM.of (lv := [(0, .ref (a 0)), (1, .int d), (2, .int x)]) (by decide +kernel) rfl (Nat.le_of_ble_eq_true rfl) ?_
  intro Z hRf hRl hl hG hn hk ht hA hQ X
  subst hG hl
  have X : XC Z "NestedDeedsModel" prog_14_method_13_code (some .int) := X
  have hk0 : zk Z ≤ (zR Z).cells := hk ▸ Nat.zero_le _
  have ht0 : zt Z ≤ (zR Z).slots := ht ▸ Nat.zero_le _
  have hW := h.1.1
  have hN := hW.1
  have hT := hW.2.1
  have hx := h.2.1
  obtain ⟨ix, hX⟩ := h.2.1
  obtain ⟨g0, g1, g2, g3⟩ := hX
  refine V.aload_n X 0 dX12_part_0 rfl rfl ?_
  refine V.iload_n X 1 dX12_part_1 rfl rfl ?_
  refine V.callV X rfl (r_isDeed (zl Z) (zG Z) a σ d (by omega)) cv_X12_104 rfl 0 rfl rfl (len hRf (by decide)) (len hRl (by decide)) hk0 ht0 [] rfl (Nat.le_of_ble_eq_true rfl) dX12_part_2 ?_
  rintro _ _ ⟨rfl, rfl⟩
  refine V.eqs (st' := [.int (bI (hasD (gN σ 0) d))]) rfl ?_
  refine V.if_eqB X 33 dX12_part_5 (by decide) (fun c5 => ?_) (fun c5 => ?_)
  · refine V.bipush X (v := (-2)) dX12_part_33 (by decide) ?_
    exact V.iret X rfl hA hk ht hQ rfl dX12_part_35 (⟨by rw [sp_part, if_neg (fun z => by rw [g0, z.1] at c5; cases c5)], σ, rfl, h⟩)
  · rw [g0] at c5
    obtain ⟨d2, hd2, rfl⟩ := hasD_t (by omega) c5
    obtain ⟨q1, q2, q3, q4, q5, q6, q7⟩ := g2 d2 hd2
    have hln := tot_len hW hd2
    have hsp : sp_part S (nI d2) x = if hasD (aP (yA S) d2).length x = true then nI ((aP (yA S) d2).getD (dN x) 0) else -2 := by rw [sp_part, dN_nI (by omega)]; simp only [c5, true_and]
    refine V.iload_n X 2 dX12_part_8 rfl rfl ?_
    refine V.iconst X (v := nI 0) dX12_part_9 (by decide) ?_
    refine V.aload_n X 0 dX12_part_10 rfl rfl ?_
    refine Vg_r_0_partMany X tw_831 dX12_part_11 ?_
    refine V.iload_n X 1 dX12_part_14 rfl rfl ?_
    refine Va_r_partMany (x := gA σ 1 d2) X (by omega) dX12_part_15 rfl ?_
    refine V.iconst X (v := nI 1) dX12_part_16 (by decide) ?_
    refine V.isub X dX12_part_17 ?_
    refine V.callS X rfl (k_in (zl Z) (zG Z) (rw (zG Z) a σ) x (nI 0) ((nI (gA σ 1 d2)) - (nI 1))) cs_X12_93 rfl (len hRf (by decide)) (len hRl (by decide)) hk0 ht0 [] rfl (Nat.le_of_ble_eq_true rfl) dX12_part_18 ?_
    rintro _ _ ⟨rfl, rfl⟩
    refine V.eqs (st' := [.int (bI (inR x (nI 0) ((nI (gA σ 1 d2)) - (nI 1))))]) rfl ?_
    refine V.if_eqB X 33 dX12_part_21 (by decide) (fun c21 => ?_) (fun c21 => ?_)
    · refine V.bipush X (v := (-2)) dX12_part_33 (by decide) ?_
      exact V.iret X rfl hA hk ht hQ rfl dX12_part_35 (⟨by rw [hsp, if_neg (fun z => by rw [inR_has (by omega), q3, z] at c21; cases c21)], σ, rfl, h⟩)
    · rw [inR_has (by omega), q3] at c21
      obtain ⟨x2, hx2, rfl⟩ := hasD_t (by omega) c21
      refine V.aload_n X 0 dX12_part_24 rfl rfl ?_
      refine V.iload_n X 1 dX12_part_25 rfl rfl ?_
      refine V.iload_n X 2 dX12_part_26 rfl rfl ?_
      refine V.callV X rfl (r_partAt (zl Z) (zG Z) a σ (A := (yA S)) d2 x2 (by assumption) hW (by assumption) (by omega)) cv_X12_115 rfl 0 rfl rfl (len hRf (by decide)) (len hRl (by decide)) hk0 ht0 [] rfl (Nat.le_of_ble_eq_true rfl) dX12_part_27 ?_
      rintro _ _ ⟨rfl, rfl⟩
      refine V.eqs (st' := [.int (nI ((aP (yA S) d2).getD x2 0))]) rfl ?_
      refine V.goto X 35 dX12_part_30 (by decide) ?_
      exact V.iret X rfl hA hk ht hQ rfl dX12_part_35 (⟨by rw [hsp, if_pos c21, dN, nI_clamp (by omega)], σ, rfl, h⟩)

def rCnt (σ : St) (q : Nat) : Nat := if q = 0 then gN σ 0 else if q = 1 then gN σ 1 else if q = 2 then gN σ 4 else if q = 3 then gN σ 5 else gN σ 6
set_option maxHeartbeats 4000000 in
set_option maxRecDepth 100000 in
theorem r_count (l : Launch) (G : Gx) (a : Nat → Nat) (σ : St) (x : Int32) : MM l G ⟨"NestedDeedsModel", "count", "(I)I"⟩ prog_14_method_55_code 2 (some .int) 0 0 [.ref (a 0), .int x] (rw G a σ) (fun rv w => rv = some (.int (if hasD 5 x = true then nI (rCnt σ x.toNatClampNeg) else -2)) ∧ w = rw G a σ) := by
  refine MM.of (lv := [(0, .ref (a 0)), (1, .int x)]) (by decide +kernel) rfl (Nat.le_of_ble_eq_true rfl) ?_
  intro Z hRf hRl hl hG hn hk ht hA hQ X
  subst hG hl
  have X : XC Z "NestedDeedsModel" prog_14_method_55_code (some .int) := X
  have hk0 : zk Z ≤ (zR Z).cells := hk ▸ Nat.zero_le _
  have ht0 : zt Z ≤ (zR Z).slots := ht ▸ Nat.zero_le _
  refine V.iload_n X 1 dX12_count_0 rfl rfl ?_
  rcases hq : hasD 5 x with _ | _
  · refine V.tableOut X 61 dX12_count_1 (by have := hasD_out (by decide) hq; omega) (by decide) ?_
    refine V.bipush X (v := (-2)) dX12_count_61 (by decide) ?_
    exact V.iret X rfl hA hk ht hQ rfl dX12_count_63 (⟨by rw [if_neg (by rw [hq]; decide)], rfl⟩)
  · obtain ⟨q, hq2, hqe⟩ := hasD_t (by decide) hq
    refine V.topi hqe ?_
    rcases (show q = 0 ∨ q = 1 ∨ q = 2 ∨ q = 3 ∨ q = 4 ∨ (q ≠ 0 ∧ q ≠ 1 ∧ q ≠ 2 ∧ q ≠ 3 ∧ q ≠ 4) by omega) with s1 | s1 | s1 | s1 | s1 | s1
    · refine V.topi (y := nI 0) (by rw [s1]) (V.tableIn X 36 dX12_count_1 (by decide) (by decide) rfl (by decide) ?_)
      refine V.aload_n X 0 dX12_count_36 rfl rfl ?_
      refine Vg_r_0_deeds (x := gN σ 0) X tw_828 dX12_count_37 rfl ?_
      exact V.iret X rfl hA hk ht hQ rfl dX12_count_40 (⟨by rw [if_pos hq, show x.toNatClampNeg = q by rw [hqe, nI_clamp (by omega)], s1]; rfl, rfl⟩)
    · refine V.topi (y := nI 1) (by rw [s1]) (V.tableIn X 41 dX12_count_1 (by decide) (by decide) rfl (by decide) ?_)
      refine V.aload_n X 0 dX12_count_41 rfl rfl ?_
      refine Vg_r_0_parts (x := gN σ 1) X tw_834 dX12_count_42 rfl ?_
      exact V.iret X rfl hA hk ht hQ rfl dX12_count_45 (⟨by rw [if_pos hq, show x.toNatClampNeg = q by rw [hqe, nI_clamp (by omega)], s1]; rfl, rfl⟩)
    · refine V.topi (y := nI 2) (by rw [s1]) (V.tableIn X 46 dX12_count_1 (by decide) (by decide) rfl (by decide) ?_)
      refine V.aload_n X 0 dX12_count_46 rfl rfl ?_
      refine Vg_r_0_paperSize (x := gN σ 4) X tw_840 dX12_count_47 rfl ?_
      exact V.iret X rfl hA hk ht hQ rfl dX12_count_50 (⟨by rw [if_pos hq, show x.toNatClampNeg = q by rw [hqe, nI_clamp (by omega)], s1]; rfl, rfl⟩)
    · refine V.topi (y := nI 3) (by rw [s1]) (V.tableIn X 51 dX12_count_1 (by decide) (by decide) rfl (by decide) ?_)
      refine V.aload_n X 0 dX12_count_51 rfl rfl ?_
      refine Vg_r_0_toldVisited (x := gN σ 5) X tw_842 dX12_count_52 rfl ?_
      exact V.iret X rfl hA hk ht hQ rfl dX12_count_55 (⟨by rw [if_pos hq, show x.toNatClampNeg = q by rw [hqe, nI_clamp (by omega)], s1]; rfl, rfl⟩)
    · refine V.topi (y := nI 4) (by rw [s1]) (V.tableIn X 56 dX12_count_1 (by decide) (by decide) rfl (by decide) ?_)
      refine V.aload_n X 0 dX12_count_56 rfl rfl ?_
      refine Vg_r_0_toldCalls (x := gN σ 6) X tw_843 dX12_count_57 rfl ?_
      exact V.iret X rfl hA hk ht hQ rfl dX12_count_60 (⟨by rw [if_pos hq, show x.toNatClampNeg = q by rw [hqe, nI_clamp (by omega)], s1]; rfl, rfl⟩)
    · refine V.tabOutN X 61 dX12_count_1 (by omega) (by omega) (by decide) ?_
      refine V.bipush X (v := (-2)) dX12_count_61 (by decide) ?_
      exact V.iret X rfl hA hk ht hQ rfl dX12_count_63 (by omega)

