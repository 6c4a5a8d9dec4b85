theorem rot_amt : ∀ n : Fin 64, n.val ≠ 0 → ((-nI n.val : Int32).toInt64.toUInt64 &&& Int64.toUInt64 63) = ((nI (64 - n.val)).toInt64.toUInt64 &&& Int64.toUInt64 63) := by decide +kernel
theorem rot_z (w : Int64) : rotL w 0 = w := by
  have e1 : ((nI 0).toInt64 &&& 63 : Int64) = 0 := by decide
  have e2 : ((-nI 0 : Int32).toInt64.toUInt64 &&& Int64.toUInt64 63) = 0 := by decide
  rw [rotL, e1, e2]
  apply Int64.toBitVec_inj.mp
  simp
theorem rot_t (w : Int64) {n : Nat} (h0 : ¬ n = 0) (h : n < 64) : rotL w n = (w <<< ((nI n).toInt64 &&& 63)) ||| (w.toUInt64 >>> ((nI (64 - n)).toInt64.toUInt64 &&& Int64.toUInt64 63)).toInt64 := by
  rw [rotL, rot_amt ⟨n, h⟩ h0]
theorem rmod_nat (x : Int64) {m : Nat} (h : 0 < m) (hm : m < 2 ^ 31) : (if x - x / lN m * lN m < lN 0 then (x - x / lN m * lN m) + lN m else x - x / lN m * lN m) = lN (fmodN x m) := by
  have hy : (lN m).toInt = (m : Int) := pk_lT (by omega)
  have h00 : (lN 0).toInt = 0 := pk_lT (by decide)
  have hl := fmodN_lt x h
  have hr := Jvm.Kit.i64_rem x (lN m)
  rw [hy] at hr
  have he := emod_of_tmod x.toInt (show (0 : Int) < m by omega)
  have hb1 := tmod_bounds (a := x.toInt) (show (0 : Int) < m by omega)
  apply Int64.toInt_inj.mp
  rw [pk_lT (by omega)]
  have h1 := Int.emod_nonneg x.toInt (show (m : Int) ≠ 0 by omega)
  by_cases hc : x - x / lN m * lN m < lN 0
  · rw [if_pos hc, Int64.toInt_add, hr, hy, Int.bmod_eq_of_le (by omega) (by omega)]
    rw [Int64.lt_iff_toInt_lt, hr, h00] at hc
    simp only [fmodN]
    rw [if_pos (by omega)] at he; omega
  · rw [if_neg hc, hr]
    rw [Int64.lt_iff_toInt_lt, hr, h00] at hc
    simp only [fmodN]
    rw [if_neg (by omega)] at he; omega

set_option maxHeartbeats 4000000 in
set_option maxRecDepth 100000 in
theorem k_turned (l : Launch) (G : Gx) (ws : va_W) (w : Int64) (i : Nat) (hi : i < 2 ^ 31) : MM l G ⟨"NestedDeedsModel", "turned", "(JI)J"⟩ prog_14_method_14_code 4 (some .long) 0 0 [.long w, .int (nI i)] (ws) (fun rv w2 => rv = some (.long (rotL w (i % 64))) ∧ w2 = ws) := by
  refine MM.of (lv := [(0, .long w), (2, .int (nI i))]) (by decide +kernel) rfl (Nat.le_of_ble_eq_true rfl) ?_
  intro Z hRf hRl hl hG hn hk ht hA hQ X
  subst hG hl
  have X : XC Z "NestedDeedsModel" prog_14_method_14_code (some .long) := X
  have hk0 : zk Z ≤ (zR Z).cells := hk ▸ Nat.zero_le _
  have ht0 : zt Z ≤ (zR Z).slots := ht ▸ Nat.zero_le _
  refine V.iload_n X 1 dX12_turned_0 rfl rfl ?_
  refine V.bipush X (v := nI 64) dX12_turned_1 (by decide) ?_
  refine V.iremN X dX12_turned_3 (by omega) (by omega) (by omega) ?_
  refine V.istore_n X (lv' := [(3, .int (nI (i % 64))), (0, .long w), (2, .int (nI i))]) dX12_turned_4 rfl (ltn hn (by decide)) rfl ?_
  refine V.iload_n X 0 dX12_turned_5 rfl rfl ?_
  refine V.if_neN X 13 dX12_turned_6 (by decide) (by omega) (fun c6 => ?_) (fun c6 => ?_)
  · refine V.lload_n X 1 dX12_turned_13 rfl rfl ?_
    refine V.iload_n X 0 dX12_turned_14 rfl rfl ?_
    refine V.lshl X dX12_turned_15 rfl ?_
    refine V.lload_n X 1 dX12_turned_16 rfl rfl ?_
    refine V.bipush X (v := nI 64) dX12_turned_17 (by decide) ?_
    refine V.iload_n X 0 dX12_turned_19 rfl rfl ?_
    refine V.isubN X dX12_turned_20 (by omega) ?_
    refine V.lushr X dX12_turned_21 rfl ?_
    refine V.lor X dX12_turned_22 ?_
    exact V.lret X rfl hA hk ht hQ rfl dX12_turned_23 (⟨by rw [rot_t w c6 (by omega)], rfl⟩)
  · refine V.lload_n X 1 dX12_turned_9 rfl rfl ?_
    refine V.goto X 23 dX12_turned_10 (by decide) ?_
    exact V.lret X rfl hA hk ht hQ rfl dX12_turned_23 (⟨by rw [show i % 64 = 0 by omega, rot_z], rfl⟩)

theorem tkU_dr {w : Nat → Int64} {l : List Nat} {k p : Nat} (h : l[k]? = some p) : tkU w (l.drop k) = if w p = lN 0 then p :: tkU w (l.drop (k + 1)) else [p] := by
  obtain ⟨ht, he⟩ := List.getElem?_eq_some_iff.mp h
  rw [List.drop_eq_getElem_cons ht, he]; rfl

set_option maxHeartbeats 4000000 in
set_option maxRecDepth 100000 in
theorem r_lookedAt (l : Launch) (G : Gx) (a : Nat → Nat) (σ : St) {A : Ar} (d : Nat) (hx : RRd A σ) (hW : WA A) (hd : d < aN A) (hw : ∀ p, p < d → gL σ 0 p = wo A p) : MM l G ⟨"NestedDeedsModel", "lookedAt", "(I)I"⟩ prog_14_method_17_code 4 (some .int) 0 0 [.ref (a 0), .int (nI d)] (rw G a σ) (fun rv w => rv = some (.int (nI ((tkU (wo A) (aP A d)).length))) ∧ w = rw G a σ) := by
  refine MM.of (lv := [(0, .ref (a 0)), (1, .int (nI d))]) (by decide +kernel) rfl (Nat.le_of_ble_eq_true rfl) ?_
  intro Z hRf hRl hl hG hn hk ht hA hQ X
  subst hG hl
  have X : XC Z "NestedDeedsModel" prog_14_method_17_code (some .int) := X
  have hk0 : zk Z ≤ (zR Z).cells := hk ▸ Nat.zero_le _
  have ht0 : zt Z ≤ (zR Z).slots := ht ▸ Nat.zero_le _
  obtain ⟨ix, hX⟩ := hx
  obtain ⟨g0, g1, g2, g3⟩ := hX
  obtain ⟨q1, q2, q3, q4, q5, q6, q7⟩ := g2 d hd
  have hT := hW.2.1
  have hN := hW.1
  have hln := tot_len hW hd
  have hpar : ∀ (k j : Nat), (ix d)[k]? = some j → j < 4000 ∧ gA σ 2 j < d ∧ gA σ 2 j < 1500 ∧ gA σ 2 j = (aP A d).getD k 0 ∧ gP σ 2 j = (ix d)[k + 1]? ∧ k < (aP A d).length := by
    intro k j hj
    obtain ⟨w1, w2, w3⟩ := q7 k j hj
    have hlt := (List.getElem?_eq_some_iff.mp hj).1
    have hp : (aP A d).getD k 0 < d := by
      rw [List.getD_eq_getElem?_getD, List.getElem?_eq_getElem (show k < (aP A d).length by omega)]; exact hW.lt (List.getElem_mem _)
    exact ⟨by omega, by omega, by omega, w2, w3, by omega⟩
  have LP : ∀ (m k : Nat), k + m = (aP A d).length → k + (tkU (wo A) ((aP A d).drop k)).length = (tkU (wo A) (aP A d)).length → V Z (rw (zG Z) a σ) [(3, .int (oI ((ix d)[k]?))), (2, .int (nI k)), (0, .ref (a 0)), (1, .int (nI d))] 9 [] := by
    intro m
    induction m with
    | zero =>
      intro k hkm hlen
      have hno : (ix d)[k]? = none := List.getElem?_eq_none (by omega)
      refine V.eql (lv' := [(3, .int (-1)), (2, .int (nI k)), (0, .ref (a 0)), (1, .int (nI d))]) (by rw [hno]; rfl) ?_
      refine V.iload_n X 0 dX12_lookedAt_9 rfl rfl ?_
      refine V.iconst X (v := -1) dX12_lookedAt_10 (by decide) ?_
      refine V.icmp_eq X 45 dX12_lookedAt_11 (by decide) (fun c11 => ?_) (fun c11 => by exfalso; exact absurd rfl c11)
      refine V.iload_n X 1 dX12_lookedAt_45 rfl rfl ?_
      exact V.iret X rfl hA hk ht hQ rfl dX12_lookedAt_46 (⟨by rw [← hlen, List.drop_eq_nil_of_le (by omega)]; simp [tkU], rfl⟩)
    | succ m ih =>
      intro k hkm hlen
      obtain ⟨j, hj⟩ : ∃ j, (ix d)[k]? = some j := ⟨_, List.getElem?_eq_getElem (by omega)⟩
      obtain ⟨w1, w2, w3, w4, w5, w6⟩ := hpar k j hj
      have hp : (aP A d)[k]? = some (gA σ 2 j) := by rw [w4, List.getD_eq_getElem?_getD, List.getElem?_eq_getElem w6]; rfl
      have hwo := hw _ w2
      rw [tkU_dr hp] at hlen
      refine V.eql (lv' := [(3, .int (nI j)), (2, .int (nI k)), (0, .ref (a 0)), (1, .int (nI d))]) (by rw [hj]; rfl) ?_
      refine V.iload_n X 0 dX12_lookedAt_9 rfl rfl ?_
      refine V.iconst X (v := -1) dX12_lookedAt_10 (by decide) ?_
      refine V.icmp_eq X 45 dX12_lookedAt_11 (by decide) (fun c11 => by exfalso; exact nI_nm1 (by omega) c11) (fun c11 => ?_)
      refine V.iinc X (v := nI (k + 1)) (lv' := [(2, .int (nI (k + 1))), (3, .int (nI j)), (0, .ref (a 0)), (1, .int (nI d))]) (k0 := 1) dX12_lookedAt_14 rfl (inc_1 _) (ltn hn (by decide)) rfl ?_
      refine V.aload_n X 2 dX12_lookedAt_17 rfl rfl ?_
      refine Vg_r_0_worths X tw_844 dX12_lookedAt_18 ?_
      refine V.aload_n X 2 dX12_lookedAt_21 rfl rfl ?_
      refine Vg_r_0_partOf X tw_835 dX12_lookedAt_22 ?_
      refine V.iload_n X 1 dX12_lookedAt_25 rfl rfl ?_
      refine Va_r_partOf (x := gA σ 2 j) X (by omega) dX12_lookedAt_26 rfl ?_
      refine Va_r_worths (x := gL σ 0 (gA σ 2 j)) X (by omega) dX12_lookedAt_27 rfl ?_
      refine V.lconst X (v := lN 0) dX12_lookedAt_28 (by decide) ?_
      refine V.lif_eq X 35 dX12_lookedAt_29 dX12_lookedAt_30 (by decide) (fun c28 => ?_) (fun c28 => ?_)
      · refine V.aload_n X 2 dX12_lookedAt_35 rfl rfl ?_
        refine Vg_r_0_nextPart X tw_836 dX12_lookedAt_36 ?_
        refine V.iload_n X 1 dX12_lookedAt_39 rfl rfl ?_
        refine Va_r_nextPart (x := gP σ 2 j) X (by omega) dX12_lookedAt_40 rfl ?_
        refine V.topi (y := oI (ix d)[k + 1]?) (by rw [w5]) ?_
        refine V.istore_n X (lv' := [(3, .int (oI ((ix d)[k + 1]?))), (2, .int (nI (k + 1))), (0, .ref (a 0)), (1, .int (nI d))]) dX12_lookedAt_41 rfl (ltn hn (by decide)) rfl ?_
        refine V.goto X 9 dX12_lookedAt_42 (by decide) ?_
        refine V.sub [0, 1, 2, 3] rfl (ih (k + 1) (by omega) ?_)
        rw [if_pos (by rw [← hwo]; exact c28)] at hlen; simp only [List.length_cons] at hlen; omega
      · refine V.iload_n X 0 dX12_lookedAt_33 rfl rfl ?_
        exact V.iret X rfl hA hk ht hQ rfl dX12_lookedAt_34 (⟨by rw [← hlen, if_neg (by rw [← hwo]; exact c28)]; simp, rfl⟩)
  refine V.iconst X (v := nI 0) dX12_lookedAt_0 (by decide) ?_
  refine V.istore_n X (lv' := [(2, .int (nI 0)), (0, .ref (a 0)), (1, .int (nI d))]) dX12_lookedAt_1 rfl (ltn hn (by decide)) rfl ?_
  refine V.aload_n X 1 dX12_lookedAt_2 rfl rfl ?_
  refine Vg_r_0_firstPart X tw_832 dX12_lookedAt_3 ?_
  refine V.iload_n X 2 dX12_lookedAt_6 rfl rfl ?_
  refine Va_r_firstPart (x := gP σ 0 d) X (by omega) dX12_lookedAt_7 rfl ?_
  refine V.topi (y := oI (ix d)[0]?) (by rw [q5]) ?_
  refine V.istore_n X (lv' := [(3, .int (oI ((ix d)[0]?))), (2, .int (nI 0)), (0, .ref (a 0)), (1, .int (nI d))]) dX12_lookedAt_8 rfl (ltn hn (by decide)) rfl ?_
  exact V.sub [0, 1, 2, 3] rfl (LP (aP A d).length 0 (by omega) (by simp))

set_option maxHeartbeats 4000000 in
set_option maxRecDepth 100000 in
theorem r_chosen (l : Launch) (G : Gx) (a : Nat → Nat) (σ : St) {A : Ar} (d : Nat) (hx : RRd A σ) (hW : WA A) (hd : d < aN A) (hw : ∀ p, p < d → gL σ 0 p = wo A p) (hn2 : 2 ≤ (aP A d).length) : MM l G ⟨"NestedDeedsModel", "chosen", "(I)I"⟩ prog_14_method_16_code 7 (some .int) 0 0 [.ref (a 0), .int (nI d)] (rw G a σ) (fun rv w => rv = some (.int (nI (1 + fmodN (wo A ((aP A d).getD 0 0)) ((aP A d).length - 1)))) ∧ w = rw G a σ) := by
  refine MM.of (lv := [(0, .ref (a 0)), (1, .int (nI d))]) (by decide +kernel) rfl (Nat.le_of_ble_eq_true rfl) ?_
  intro Z hRf hRl hl hG hn hk ht hA hQ X
  subst hG hl
  have X : XC Z "NestedDeedsModel" prog_14_method_16_code (some .int) := X
  have hk0 : zk Z ≤ (zR Z).cells := hk ▸ Nat.zero_le _
  have ht0 : zt Z ≤ (zR Z).slots := ht ▸ Nat.zero_le _
  obtain ⟨ix, hX⟩ := hx
  obtain ⟨g0, g1, g2, g3⟩ := hX
  obtain ⟨q1, q2, q3, q4, q5, q6, q7⟩ := g2 d hd
  have hT := hW.2.1
  have hN := hW.1
  have hln := tot_len hW hd
  have hpar : ∀ (k j : Nat), (ix d)[k]? = some j → j < 4000 ∧ gA σ 2 j < d ∧ gA σ 2 j < 1500 ∧ gA σ 2 j = (aP A d).getD k 0 ∧ gP σ 2 j = (ix d)[k + 1]? ∧ k < (aP A d).length := by
    intro k j hj
    obtain ⟨w1, w2, w3⟩ := q7 k j hj
    have hlt := (List.getElem?_eq_some_iff.mp hj).1
    have hp : (aP A d).getD k 0 < d := by
      rw [List.getD_eq_getElem?_getD, List.getElem?_eq_getElem (show k < (aP A d).length by omega)]; exact hW.lt (List.getElem_mem _)
    exact ⟨by omega, by omega, by omega, w2, w3, by omega⟩
  obtain ⟨j0, hj0⟩ : ∃ j0, (ix d)[0]? = some j0 := ⟨_, List.getElem?_eq_getElem (by omega)⟩
  obtain ⟨w1, w2, w3, w4, w5, w6⟩ := hpar 0 j0 hj0
  have hwo := hw _ w2
  have hm : 0 < (aP A d).length - 1 := by omega
  have hrm := rmod_nat (wo A ((aP A d).getD 0 0)) hm (by omega)
  have hfl := fmodN_lt (wo A ((aP A d).getD 0 0)) hm
  refine V.aload_n X 0 dX12_chosen_0 rfl rfl ?_
  refine Vg_r_0_worths X tw_844 dX12_chosen_1 ?_
  refine V.aload_n X 0 dX12_chosen_4 rfl rfl ?_
  refine Vg_r_0_partOf X tw_835 dX12_chosen_5 ?_
  refine V.aload_n X 0 dX12_chosen_8 rfl rfl ?_
  refine Vg_r_0_firstPart X tw_832 dX12_chosen_9 ?_
  refine V.iload_n X 1 dX12_chosen_12 rfl rfl ?_
  refine Va_r_firstPart (x := gP σ 0 d) X (by omega) dX12_chosen_13 rfl ?_
  refine V.topi (y := nI j0) (by rw [q5, hj0]; rfl) ?_
  refine Va_r_partOf (x := gA σ 2 j0) X (by omega) dX12_chosen_14 rfl ?_
  refine Va_r_worths (x := gL σ 0 (gA σ 2 j0)) X (by omega) dX12_chosen_15 rfl ?_
  refine V.topl (y := wo A ((aP A d).getD 0 0)) (by rw [hwo, w4]) ?_
  refine V.lstore_n X (lv' := [(2, .long (wo A ((aP A d).getD 0 0))), (0, .ref (a 0)), (1, .int (nI d))]) dX12_chosen_16 rfl (ltn hn (by decide)) rfl ?_
  refine V.aload_n X 1 dX12_chosen_17 rfl rfl ?_
  refine Vg_r_0_partMany X tw_831 dX12_chosen_18 ?_
  refine V.iload_n X 2 dX12_chosen_21 rfl rfl ?_
  refine Va_r_partMany (x := gA σ 1 d) X (by omega) dX12_chosen_22 rfl ?_
  refine V.iconst X (v := nI 1) dX12_chosen_23 (by decide) ?_
  refine V.isubN X dX12_chosen_24 (by omega) ?_
  refine V.topi (y := nI ((aP A d).length - 1)) (by rw [q3]) ?_
  refine V.istore X (lv' := [(4, .int (nI ((aP A d).length - 1))), (2, .long (wo A ((aP A d).getD 0 0))), (0, .ref (a 0)), (1, .int (nI d))]) dX12_chosen_25 (ltn hn (by decide)) rfl ?_
  refine V.lload_n X 1 dX12_chosen_27 rfl rfl ?_
  refine V.iload X 0 dX12_chosen_28 rfl ?_
  refine V.i2lN X dX12_chosen_30 (by omega) ?_
  refine V.lrem X dX12_chosen_31 (by exact lN_ne0 hm (by omega)) ?_
  refine V.lstore X (lv' := [(5, .long ((wo A ((aP A d).getD 0 0)) - (wo A ((aP A d).getD 0 0)) / (lN ((aP A d).length - 1)) * (lN ((aP A d).length - 1)))), (4, .int (nI ((aP A d).length - 1))), (2, .long (wo A ((aP A d).getD 0 0))), (0, .ref (a 0)), (1, .int (nI d))]) dX12_chosen_32 (ltn hn (by decide)) rfl ?_
  refine V.iconst X (v := nI 1) dX12_chosen_34 (by decide) ?_
  refine V.lload X 0 dX12_chosen_35 rfl ?_
  refine V.lconst X (v := lN 0) dX12_chosen_37 (by decide) ?_
  refine V.lif_ge X 51 dX12_chosen_38 dX12_chosen_39 (by decide) (fun c38 => ?_) (fun c38 => ?_)
  · refine V.lload X 0 dX12_chosen_51 rfl ?_
    refine V.topl (y := lN (fmodN (wo A ((aP A d).getD 0 0)) ((aP A d).length - 1))) (by rw [← hrm, if_neg (Int64.not_lt.mpr c38)]) ?_
    refine V.l2i X (v := nI (fmodN (wo A ((aP A d).getD 0 0)) ((aP A d).length - 1))) dX12_chosen_53 (lN_i _) ?_
    refine V.iaddN X dX12_chosen_54 ?_
    exact V.iret X rfl hA hk ht hQ rfl dX12_chosen_55 (⟨rfl, rfl⟩)
  · refine V.lload X 0 dX12_chosen_42 rfl ?_
    refine V.iload X 1 dX12_chosen_44 rfl ?_
    refine V.i2lN X dX12_chosen_46 (by omega) ?_
    refine V.ladd X dX12_chosen_47 ?_
    refine V.goto X 53 dX12_chosen_48 (by decide) ?_
    refine V.topl (y := lN (fmodN (wo A ((aP A d).getD 0 0)) ((aP A d).length - 1))) (by rw [← hrm, if_pos (Int64.not_le.mp c38)]) ?_
    refine V.l2i X (v := nI (fmodN (wo A ((aP A d).getD 0 0)) ((aP A d).length - 1))) dX12_chosen_53 (lN_i _) ?_
    refine V.iaddN X dX12_chosen_54 ?_
    exact V.iret X rfl hA hk ht hQ rfl dX12_chosen_55 (⟨rfl, rfl⟩)

