theorem inR_hasN {m : Nat} (hm : m + 1 < 2 ^ 31) (x : Int32) : inR x (nI 0) (nI m) = hasD (m + 1) x := by
  simp only [inR, hasD]
  congr 1
  rw [eq_iff_iff, nI_0, Int32.le_iff_toInt_le, Int32.le_iff_toInt_le, Int32.lt_iff_toInt_lt, nI_toInt (by omega), nI_toInt hm, Int32.toInt_zero]
  omega
theorem inR_has {n : Nat} (hn : n < 2 ^ 30) (x : Int32) : inR x (nI 0) (nI n - nI 1) = hasD n x := by
  simp only [inR, hasD]
  congr 1
  rw [eq_iff_iff, nI_0, Int32.le_iff_toInt_le, Int32.le_iff_toInt_le, Int32.lt_iff_toInt_lt, pk_sub_toInt hn (by decide), nI_toInt (by omega), Int32.toInt_zero]
  omega
/-- Model.add, Model.addPart -/
def rAdd (σ : St) (k : Nat) (v : Int32) : St := sN (sP (sP (sA (sJ (sA σ 0 (va_up (gA σ 0) (gN σ 0) k)) 0 (va_up (gJ σ 0) (gN σ 0) v)) 1 (va_up (gA σ 1) (gN σ 0) 0)) 0 (va_up (gP σ 0) (gN σ 0) none)) 1 (va_up (gP σ 1) (gN σ 0) none)) 0 (gN σ 0 + 1)
def rAddP (σ : St) (d p : Nat) : St :=
  if gA σ 1 d = 0 then sA (sN (sP (sP (sP (sA σ 2 (va_up (gA σ 2) (gN σ 1) p)) 2 (va_up (gP σ 2) (gN σ 1) none)) 0 (va_up (gP σ 0) d (some (gN σ 1)))) 1 (va_up (gP σ 1) d (some (gN σ 1)))) 1 (gN σ 1 + 1)) 1 (va_up (gA σ 1) d (gA σ 1 d + 1))
  else sA (sN (sP (sP (sA σ 2 (va_up (gA σ 2) (gN σ 1) p)) 2 (va_up (va_up (gP σ 2) (gN σ 1) none) ((gP σ 1 d).getD 0) (some (gN σ 1)))) 1 (va_up (gP σ 1) d (some (gN σ 1)))) 1 (gN σ 1 + 1)) 1 (va_up (gA σ 1) d (gA σ 1 d + 1))

set_option maxHeartbeats 4000000 in
set_option maxRecDepth 100000 in
theorem k_in (l : Launch) (G : Gx) (ws : va_W) (x lo hi : Int32) : MM l G ⟨"NestedDeedsModel", "in", "(III)Z"⟩ prog_14_method_2_code 3 (some .boolean) 0 0 [.int x, .int lo, .int hi] (ws) (fun rv w => rv = some (.int (bI (inR x lo hi))) ∧ w = ws) := by
  refine MM.of (lv := [(0, .int x), (1, .int lo), (2, .int hi)]) (by decide +kernel) rfl (Nat.le_of_ble_eq_true rfl) ?_
  intro Z hRf hRl hl hG hn hk ht hA hQ X
  subst hG hl
  have X : XC Z "NestedDeedsModel" prog_14_method_2_code (some .boolean) := X
  have hk0 : zk Z ≤ (zR Z).cells := hk ▸ Nat.zero_le _
  have ht0 : zt Z ≤ (zR Z).slots := ht ▸ Nat.zero_le _
  refine V.iload_n X 0 dX12_in_0 rfl rfl ?_
  refine V.iload_n X 1 dX12_in_1 rfl rfl ?_
  refine V.icmp_lt X 14 dX12_in_2 (by decide) (fun c2 => ?_) (fun c2 => ?_)
  · refine V.iconst X (v := nI 0) dX12_in_14 (by decide) ?_
    refine V.topi (y := bI false) rfl ?_
    exact V.zret X rfl hA hk ht hQ rfl (bI_01 _) dX12_in_15 (⟨by rw [inR_f1 c2], rfl⟩)
  · refine V.iload_n X 0 dX12_in_5 rfl rfl ?_
    refine V.iload_n X 2 dX12_in_6 rfl rfl ?_
    refine V.icmp_gt X 14 dX12_in_7 (by decide) (fun c7 => ?_) (fun c7 => ?_)
    · refine V.iconst X (v := nI 0) dX12_in_14 (by decide) ?_
      refine V.topi (y := bI false) rfl ?_
      exact V.zret X rfl hA hk ht hQ rfl (bI_01 _) dX12_in_15 (⟨by rw [inR_f2 c7], rfl⟩)
    · refine V.iconst X (v := nI 1) dX12_in_10 (by decide) ?_
      refine V.goto X 15 dX12_in_11 (by decide) ?_
      refine V.topi (y := bI true) rfl ?_
      exact V.zret X rfl hA hk ht hQ rfl (bI_01 _) dX12_in_15 (⟨by rw [inR_t c2 c7], rfl⟩)

set_option maxHeartbeats 4000000 in
set_option maxRecDepth 100000 in
theorem r_isDeed (l : Launch) (G : Gx) (a : Nat → Nat) (σ : St) (d : Int32) (h0 : gN σ 0 ≤ 1500) : MM l G ⟨"NestedDeedsModel", "isDeed", "(I)Z"⟩ prog_14_method_3_code 2 (some .boolean) 1 22 [.ref (a 0), .int d] (rw G a σ) (fun rv w => rv = some (.int (bI (hasD (gN σ 0) d))) ∧ w = rw G a σ) := by
  refine MM.of (lv := [(0, .ref (a 0)), (1, .int d)]) (by decide +kernel) rfl (Nat.le_of_ble_eq_true rfl) ?_
  intro Z hRf hRl hl hG hn hk ht hA hQ X
  subst hG hl
  have X : XC Z "NestedDeedsModel" prog_14_method_3_code (some .boolean) := X
  have hk0 : zk Z ≤ (zR Z).cells := hk ▸ Nat.zero_le _
  have ht0 : zt Z ≤ (zR Z).slots := ht ▸ Nat.zero_le _
  refine V.iload_n X 1 dX12_isDeed_0 rfl rfl ?_
  refine V.iconst X (v := nI 0) dX12_isDeed_1 (by decide) ?_
  refine V.aload_n X 0 dX12_isDeed_2 rfl rfl ?_
  refine Vg_r_0_deeds (x := gN σ 0) X tw_828 dX12_isDeed_3 rfl ?_
  refine V.iconst X (v := nI 1) dX12_isDeed_6 (by decide) ?_
  refine V.isub X dX12_isDeed_7 ?_
  refine V.callS X rfl (k_in (zl Z) (zG Z) (rw (zG Z) a σ) d (nI 0) ((nI (gN σ 0)) - (nI 1))) cs_X12_93 rfl (len hRf (by decide)) (len hRl (by decide)) hk0 ht0 [] rfl (Nat.le_of_ble_eq_true rfl) dX12_isDeed_8 ?_
  rintro _ _ ⟨rfl, rfl⟩
  refine V.eqs (st' := [.int (bI (inR d (nI 0) ((nI (gN σ 0)) - (nI 1))))]) rfl ?_
  exact V.zret X rfl hA hk ht hQ rfl (bI_01 _) dX12_isDeed_11 (⟨by rw [inR_has (by omega)], rfl⟩)

set_option maxHeartbeats 4000000 in
set_option maxRecDepth 100000 in
theorem r_add (l : Launch) (G : Gx) (a : Nat → Nat) (σ : St) (k : Nat) (v : Int32) (h0 : gN σ 0 < 1500) : MM l G ⟨"NestedDeedsModel", "add", "(II)I"⟩ prog_14_method_4_code 3 (some .int) 0 0 [.ref (a 0), .int (nI k), .int v] (rw G a σ) (fun rv w => rv = some (.int (nI (gN σ 0))) ∧ w = rw G a (rAdd σ k v)) := by
  refine MM.of (lv := [(0, .ref (a 0)), (1, .int (nI k)), (2, .int v)]) (by decide +kernel) rfl (Nat.le_of_ble_eq_true rfl) ?_
  intro Z hRf hRl hl hG hn hk ht hA hQ X
  subst hG hl
  have X : XC Z "NestedDeedsModel" prog_14_method_4_code (some .int) := X
  have hk0 : zk Z ≤ (zR Z).cells := hk ▸ Nat.zero_le _
  have ht0 : zt Z ≤ (zR Z).slots := ht ▸ Nat.zero_le _
  refine V.aload_n X 0 dX12_add_0 rfl rfl ?_
  refine Vg_r_0_kind X tw_829 dX12_add_1 ?_
  refine V.aload_n X 0 dX12_add_4 rfl rfl ?_
  refine Vg_r_0_deeds (x := gN σ 0) X tw_828 dX12_add_5 rfl ?_
  refine V.iload_n X 1 dX12_add_8 rfl rfl ?_
  refine Vs_r_kind (f := gA σ 0) (i := gN σ 0) (x := k) X (by omega) dX12_add_9 rfl ?_
  refine V.aload_n X 0 dX12_add_10 rfl rfl ?_
  refine Vg_r_0_number X tw_830 dX12_add_11 ?_
  refine V.aload_n X 0 dX12_add_14 rfl rfl ?_
  refine Vg_r_0_deeds (x := gN σ 0) X tw_828 dX12_add_15 rfl ?_
  refine V.iload_n X 2 dX12_add_18 rfl rfl ?_
  refine Vs_r_number (f := gJ σ 0) (i := gN σ 0) (x := v) X (by omega) dX12_add_19 rfl ?_
  refine V.aload_n X 0 dX12_add_20 rfl rfl ?_
  refine Vg_r_0_partMany X tw_831 dX12_add_21 ?_
  refine V.aload_n X 0 dX12_add_24 rfl rfl ?_
  refine Vg_r_0_deeds (x := gN σ 0) X tw_828 dX12_add_25 rfl ?_
  refine V.iconst X (v := nI 0) dX12_add_28 (by decide) ?_
  refine Vs_r_partMany (f := gA σ 1) (i := gN σ 0) (x := 0) X (by omega) dX12_add_29 rfl ?_
  refine V.aload_n X 0 dX12_add_30 rfl rfl ?_
  refine Vg_r_0_firstPart X tw_832 dX12_add_31 ?_
  refine V.aload_n X 0 dX12_add_34 rfl rfl ?_
  refine Vg_r_0_deeds (x := gN σ 0) X tw_828 dX12_add_35 rfl ?_
  refine V.iconst X (v := -1) dX12_add_38 (by decide) ?_
  refine V.topi (y := oI none) rfl ?_
  refine Vs_r_firstPart (f := gP σ 0) (i := gN σ 0) (x := none) X (by omega) dX12_add_39 rfl ?_
  refine V.aload_n X 0 dX12_add_40 rfl rfl ?_
  refine Vg_r_0_lastPart X tw_833 dX12_add_41 ?_
  refine V.aload_n X 0 dX12_add_44 rfl rfl ?_
  refine Vg_r_0_deeds (x := gN σ 0) X tw_828 dX12_add_45 rfl ?_
  refine V.iconst X (v := -1) dX12_add_48 (by decide) ?_
  refine V.topi (y := oI none) rfl ?_
  refine Vs_r_lastPart (f := gP σ 1) (i := gN σ 0) (x := none) X (by omega) dX12_add_49 rfl ?_
  refine V.aload_n X 0 dX12_add_50 rfl rfl ?_
  refine V.dup X dX12_add_51 rfl ?_
  refine Vg_r_0_deeds (x := gN σ 0) X tw_828 dX12_add_52 rfl ?_
  refine V.iconst X (v := nI 1) dX12_add_55 (by decide) ?_
  refine V.iaddN X dX12_add_56 ?_
  refine Vp_r_0_deeds (x := (gN σ 0) + 1) X tw_828 dX12_add_57 ?_
  refine V.aload_n X 0 dX12_add_60 rfl rfl ?_
  refine Vg_r_0_deeds (x := (gN σ 0) + 1) X tw_828 dX12_add_61 rfl ?_
  refine V.iconst X (v := nI 1) dX12_add_64 (by decide) ?_
  refine V.isubN X dX12_add_65 (by omega) ?_
  exact V.iret X rfl hA hk ht hQ rfl dX12_add_66 (⟨by simp, rfl⟩)

set_option maxHeartbeats 4000000 in
set_option maxRecDepth 100000 in
theorem r_addPart (l : Launch) (G : Gx) (a : Nat → Nat) (σ : St) (d p : Nat) (h0 : gN σ 0 ≤ 1500) (hd : d < gN σ 0) (h1 : gN σ 1 < 4000) (hm : gA σ 1 d ≤ 4000) (hl : ∀ j, gP σ 1 d = some j → j < 4000) (hl2 : ¬ gA σ 1 d = 0 → ∃ j, gP σ 1 d = some j) : MM l G ⟨"NestedDeedsModel", "addPart", "(II)I"⟩ prog_14_method_5_code 3 (some .int) 0 0 [.ref (a 0), .int (nI d), .int (nI p)] (rw G a σ) (fun rv w => rv = some (.int (nI (gA σ 1 d + 1))) ∧ w = rw G a (rAddP σ d p)) := by
  refine MM.of (lv := [(0, .ref (a 0)), (1, .int (nI d)), (2, .int (nI p))]) (by decide +kernel) rfl (Nat.le_of_ble_eq_true rfl) ?_
  intro Z hRf hRl hl hG hn hk ht hA hQ X
  subst hG hl
  have X : XC Z "NestedDeedsModel" prog_14_method_5_code (some .int) := X
  have hk0 : zk Z ≤ (zR Z).cells := hk ▸ Nat.zero_le _
  have ht0 : zt Z ≤ (zR Z).slots := ht ▸ Nat.zero_le _
  refine V.aload_n X 0 dX12_addPart_0 rfl rfl ?_
  refine Vg_r_0_partOf X tw_835 dX12_addPart_1 ?_
  refine V.aload_n X 0 dX12_addPart_4 rfl rfl ?_
  refine Vg_r_0_parts (x := gN σ 1) X tw_834 dX12_addPart_5 rfl ?_
  refine V.iload_n X 2 dX12_addPart_8 rfl rfl ?_
  refine Vs_r_partOf (f := gA σ 2) (i := gN σ 1) (x := p) X (by omega) dX12_addPart_9 rfl ?_
  refine V.aload_n X 0 dX12_addPart_10 rfl rfl ?_
  refine Vg_r_0_nextPart X tw_836 dX12_addPart_11 ?_
  refine V.aload_n X 0 dX12_addPart_14 rfl rfl ?_
  refine Vg_r_0_parts (x := gN σ 1) X tw_834 dX12_addPart_15 rfl ?_
  refine V.iconst X (v := -1) dX12_addPart_18 (by decide) ?_
  refine V.topi (y := oI none) rfl ?_
  refine Vs_r_nextPart (f := gP σ 2) (i := gN σ 1) (x := none) X (by omega) dX12_addPart_19 rfl ?_
  refine V.aload_n X 0 dX12_addPart_20 rfl rfl ?_
  refine Vg_r_0_partMany X tw_831 dX12_addPart_21 ?_
  refine V.iload_n X 1 dX12_addPart_24 rfl rfl ?_
  refine Va_r_partMany (x := gA σ 1 d) X (by omega) dX12_addPart_25 rfl ?_
  refine V.if_neN X 42 dX12_addPart_26 (by decide) (by omega) (fun c26 => ?_) (fun c26 => ?_)
  · obtain ⟨j, hj⟩ := hl2 c26
    have hj4 := hl j hj
    refine V.aload_n X 0 dX12_addPart_42 rfl rfl ?_
    refine Vg_r_0_nextPart X tw_836 dX12_addPart_43 ?_
    refine V.aload_n X 0 dX12_addPart_46 rfl rfl ?_
    refine Vg_r_0_lastPart X tw_833 dX12_addPart_47 ?_
    refine V.iload_n X 1 dX12_addPart_50 rfl rfl ?_
    refine Va_r_lastPart (x := gP σ 1 d) X (by omega) dX12_addPart_51 rfl ?_
    refine V.topi (y := nI j) (by rw [hj]; rfl) ?_
    refine V.aload_n X 0 dX12_addPart_52 rfl rfl ?_
    refine Vg_r_0_parts (x := gN σ 1) X tw_834 dX12_addPart_53 rfl ?_
    refine V.topi (y := oI (some (gN σ 1))) rfl ?_
    refine Vs_r_nextPart (f := va_up (gP σ 2) (gN σ 1) none) (i := j) (x := some (gN σ 1)) X (by omega) dX12_addPart_56 rfl ?_
    refine V.aload_n X 0 dX12_addPart_57 rfl rfl ?_
    refine Vg_r_0_lastPart X tw_833 dX12_addPart_58 ?_
    refine V.iload_n X 1 dX12_addPart_61 rfl rfl ?_
    refine V.aload_n X 0 dX12_addPart_62 rfl rfl ?_
    refine Vg_r_0_parts (x := gN σ 1) X tw_834 dX12_addPart_63 rfl ?_
    refine V.topi (y := oI (some (gN σ 1))) rfl ?_
    refine Vs_r_lastPart (f := gP σ 1) (i := d) (x := some (gN σ 1)) X (by omega) dX12_addPart_66 rfl ?_
    refine V.aload_n X 0 dX12_addPart_67 rfl rfl ?_
    refine V.dup X dX12_addPart_68 rfl ?_
    refine Vg_r_0_parts (x := gN σ 1) X tw_834 dX12_addPart_69 rfl ?_
    refine V.iconst X (v := nI 1) dX12_addPart_72 (by decide) ?_
    refine V.iaddN X dX12_addPart_73 ?_
    refine Vp_r_0_parts (x := (gN σ 1) + 1) X tw_834 dX12_addPart_74 ?_
    refine V.aload_n X 0 dX12_addPart_77 rfl rfl ?_
    refine Vg_r_0_partMany X tw_831 dX12_addPart_78 ?_
    refine V.iload_n X 1 dX12_addPart_81 rfl rfl ?_
    refine V.dup2 X dX12_addPart_82 rfl rfl ?_
    refine Va_r_partMany (x := gA σ 1 d) X (by omega) dX12_addPart_83 rfl ?_
    refine V.iconst X (v := nI 1) dX12_addPart_84 (by decide) ?_
    refine V.iaddN X dX12_addPart_85 ?_
    refine Vs_r_partMany (f := gA σ 1) (i := d) (x := (gA σ 1 d) + 1) X (by omega) dX12_addPart_86 rfl ?_
    refine V.aload_n X 0 dX12_addPart_87 rfl rfl ?_
    refine Vg_r_0_partMany X tw_831 dX12_addPart_88 ?_
    refine V.iload_n X 1 dX12_addPart_91 rfl rfl ?_
    refine Va_r_partMany (x := (va_up (gA σ 1) d ((gA σ 1 d) + 1)) d) X (by omega) dX12_addPart_92 rfl ?_
    exact V.iret X rfl hA hk ht hQ rfl dX12_addPart_93 (⟨by rw [va_up_self], by rw [rAddP, if_neg c26, hj]; rfl⟩)
  · refine V.aload_n X 0 dX12_addPart_29 rfl rfl ?_
    refine Vg_r_0_firstPart X tw_832 dX12_addPart_30 ?_
    refine V.iload_n X 1 dX12_addPart_33 rfl rfl ?_
    refine V.aload_n X 0 dX12_addPart_34 rfl rfl ?_
    refine Vg_r_0_parts (x := gN σ 1) X tw_834 dX12_addPart_35 rfl ?_
    refine V.topi (y := oI (some (gN σ 1))) rfl ?_
    refine Vs_r_firstPart (f := gP σ 0) (i := d) (x := some (gN σ 1)) X (by omega) dX12_addPart_38 rfl ?_
    refine V.goto X 57 dX12_addPart_39 (by decide) ?_
    refine V.aload_n X 0 dX12_addPart_57 rfl rfl ?_
    refine Vg_r_0_lastPart X tw_833 dX12_addPart_58 ?_
    refine V.iload_n X 1 dX12_addPart_61 rfl rfl ?_
    refine V.aload_n X 0 dX12_addPart_62 rfl rfl ?_
    refine Vg_r_0_parts (x := gN σ 1) X tw_834 dX12_addPart_63 rfl ?_
    refine V.topi (y := oI (some (gN σ 1))) rfl ?_
    refine Vs_r_lastPart (f := gP σ 1) (i := d) (x := some (gN σ 1)) X (by omega) dX12_addPart_66 rfl ?_
    refine V.aload_n X 0 dX12_addPart_67 rfl rfl ?_
    refine V.dup X dX12_addPart_68 rfl ?_
    refine Vg_r_0_parts (x := gN σ 1) X tw_834 dX12_addPart_69 rfl ?_
    refine V.iconst X (v := nI 1) dX12_addPart_72 (by decide) ?_
    refine V.iaddN X dX12_addPart_73 ?_
    refine Vp_r_0_parts (x := (gN σ 1) + 1) X tw_834 dX12_addPart_74 ?_
    refine V.aload_n X 0 dX12_addPart_77 rfl rfl ?_
    refine Vg_r_0_partMany X tw_831 dX12_addPart_78 ?_
    refine V.iload_n X 1 dX12_addPart_81 rfl rfl ?_
    refine V.dup2 X dX12_addPart_82 rfl rfl ?_
    refine Va_r_partMany (x := gA σ 1 d) X (by omega) dX12_addPart_83 rfl ?_
    refine V.iconst X (v := nI 1) dX12_addPart_84 (by decide) ?_
    refine V.iaddN X dX12_addPart_85 ?_
    refine Vs_r_partMany (f := gA σ 1) (i := d) (x := (gA σ 1 d) + 1) X (by omega) dX12_addPart_86 rfl ?_
    refine V.aload_n X 0 dX12_addPart_87 rfl rfl ?_
    refine Vg_r_0_partMany X tw_831 dX12_addPart_88 ?_
    refine V.iload_n X 1 dX12_addPart_91 rfl rfl ?_
    refine Va_r_partMany (x := (va_up (gA σ 1) d ((gA σ 1 d) + 1)) d) X (by omega) dX12_addPart_92 rfl ?_
    exact V.iret X rfl hA hk ht hQ rfl dX12_addPart_93 (⟨by rw [va_up_self], by rw [rAddP, if_pos (by omega)]⟩)

set_option maxHeartbeats 4000000 in
set_option maxRecDepth 100000 in
theorem r_bad (l : Launch) (G : Gx) (a : Nat → Nat) (σ : St)  : MM l G ⟨"NestedDeedsModel", "bad", "()I"⟩ prog_14_method_24_code 1 (some .int) 0 0 [.ref (a 0)] (rw G a σ) (fun rv w => rv = some (.int (-2)) ∧ w = rw G a (sI σ 0 (-2))) := by
  refine MM.of (lv := [(0, .ref (a 0))]) (by decide +kernel) rfl (Nat.le_of_ble_eq_true rfl) ?_
  intro Z hRf hRl hl hG hn hk ht hA hQ X
  subst hG hl
  have X : XC Z "NestedDeedsModel" prog_14_method_24_code (some .int) := X
  have hk0 : zk Z ≤ (zR Z).cells := hk ▸ Nat.zero_le _
  have ht0 : zt Z ≤ (zR Z).slots := ht ▸ Nat.zero_le _
  refine V.aload_n X 0 dX12_bad_0 rfl rfl ?_
  refine V.bipush X (v := (-2)) dX12_bad_1 (by decide) ?_
  refine Vp_r_0_answer (x := (-2)) X tw_841 dX12_bad_3 ?_
  refine V.bipush X (v := (-2)) dX12_bad_6 (by decide) ?_
  exact V.iret X rfl hA hk ht hQ rfl dX12_bad_8 (⟨rfl, rfl⟩)

set_option maxHeartbeats 4000000 in
set_option maxRecDepth 100000 in
theorem r_begin (l : Launch) (G : Gx) (a : Nat → Nat) (σ : St)  : MM l G ⟨"NestedDeedsModel", "begin", "()V"⟩ prog_14_method_21_code 1 none 0 0 [.ref (a 0)] (rw G a σ) (fun rv w => rv = none ∧ w = rw G a (sI (sN (sN (sN σ 7 0) 8 0) 9 0) 0 0)) := by
  refine MM.of (lv := [(0, .ref (a 0))]) (by decide +kernel) rfl (Nat.le_of_ble_eq_true rfl) ?_
  intro Z hRf hRl hl hG hn hk ht hA hQ X
  subst hG hl
  have X : XC Z "NestedDeedsModel" prog_14_method_21_code none := X
  have hk0 : zk Z ≤ (zR Z).cells := hk ▸ Nat.zero_le _
  have ht0 : zt Z ≤ (zR Z).slots := ht ▸ Nat.zero_le _
  refine V.aload_n X 0 dX12_begin_0 rfl rfl ?_
  refine V.iconst X (v := nI 0) dX12_begin_1 (by decide) ?_
  refine Vp_r_0_depth (x := 0) X tw_846 dX12_begin_2 ?_
  refine V.aload_n X 0 dX12_begin_5 rfl rfl ?_
  refine V.iconst X (v := nI 0) dX12_begin_6 (by decide) ?_
  refine Vp_r_0_visited (x := 0) X tw_847 dX12_begin_7 ?_
  refine V.aload_n X 0 dX12_begin_10 rfl rfl ?_
  refine V.iconst X (v := nI 0) dX12_begin_11 (by decide) ?_
  refine Vp_r_0_deepest (x := 0) X tw_848 dX12_begin_12 ?_
  refine V.aload_n X 0 dX12_begin_15 rfl rfl ?_
  refine V.iconst X (v := nI 0) dX12_begin_16 (by decide) ?_
  refine Vp_r_0_answer (x := nI 0) X tw_841 dX12_begin_17 ?_
  exact V.vret X rfl hA hk ht hQ rfl dX12_begin_20 (⟨rfl, rfl⟩)

set_option maxHeartbeats 4000000 in
set_option maxRecDepth 100000 in
theorem r_answer (l : Launch) (G : Gx) (a : Nat → Nat) (σ : St)  : MM l G ⟨"NestedDeedsModel", "answer", "()I"⟩ prog_14_method_54_code 1 (some .int) 0 0 [.ref (a 0)] (rw G a σ) (fun rv w => rv = some (.int (gI σ 0)) ∧ w = rw G a σ) := by
  refine MM.of (lv := [(0, .ref (a 0))]) (by decide +kernel) rfl (Nat.le_of_ble_eq_true rfl) ?_
  intro Z hRf hRl hl hG hn hk ht hA hQ X
  subst hG hl
  have X : XC Z "NestedDeedsModel" prog_14_method_54_code (some .int) := X
  have hk0 : zk Z ≤ (zR Z).cells := hk ▸ Nat.zero_le _
  have ht0 : zt Z ≤ (zR Z).slots := ht ▸ Nat.zero_le _
  refine V.aload_n X 0 dX12_answer_0 rfl rfl ?_
  refine Vg_r_0_answer (x := gI σ 0) X tw_841 dX12_answer_1 rfl ?_
  exact V.iret X rfl hA hk ht hQ rfl dX12_answer_4 (⟨rfl, rfl⟩)

set_option maxHeartbeats 4000000 in
set_option maxRecDepth 100000 in
theorem r_tear (l : Launch) (G : Gx) (a : Nat → Nat) (σ : St)  : MM l G ⟨"NestedDeedsModel", "tear", "()I"⟩ prog_14_method_47_code 2 (some .int) 0 0 [.ref (a 0)] (rw G a σ) (fun rv w => rv = some (.int (nI (gN σ 4))) ∧ w = rw G a (sN σ 4 0)) := by
  refine MM.of (lv := [(0, .ref (a 0))]) (by decide +kernel) rfl (Nat.le_of_ble_eq_true rfl) ?_
  intro Z hRf hRl hl hG hn hk ht hA hQ X
  subst hG hl
  have X : XC Z "NestedDeedsModel" prog_14_method_47_code (some .int) := X
  have hk0 : zk Z ≤ (zR Z).cells := hk ▸ Nat.zero_le _
  have ht0 : zt Z ≤ (zR Z).slots := ht ▸ Nat.zero_le _
  refine V.aload_n X 0 dX12_tear_0 rfl rfl ?_
  refine Vg_r_0_paperSize (x := gN σ 4) X tw_840 dX12_tear_1 rfl ?_
  refine V.istore_n X (lv' := [(1, .int (nI (gN σ 4))), (0, .ref (a 0))]) dX12_tear_4 rfl (ltn hn (by decide)) rfl ?_
  refine V.aload_n X 1 dX12_tear_5 rfl rfl ?_
  refine V.iconst X (v := nI 0) dX12_tear_6 (by decide) ?_
  refine Vp_r_0_paperSize (x := 0) X tw_840 dX12_tear_7 ?_
  refine V.iload_n X 0 dX12_tear_10 rfl rfl ?_
  exact V.iret X rfl hA hk ht hQ rfl dX12_tear_11 (⟨rfl, rfl⟩)

set_option maxHeartbeats 4000000 in
set_option maxRecDepth 100000 in
theorem r_way (l : Launch) (G : Gx) (a : Nat → Nat) (σ : St) (x : Int32) : MM l G ⟨"NestedDeedsModel", "way", "(I)I"⟩ prog_14_method_9_code 3 (some .int) 1 22 [.ref (a 0), .int x] (rw G a σ) (fun rv w => rv = some (.int (if inR x (nI 0) (nI 3) = true then nI (gN σ 2) else -2)) ∧ w = rw G a (if inR x (nI 0) (nI 3) = true then sN σ 2 x.toNatClampNeg else σ)) := by
  refine MM.of (lv := [(0, .ref (a 0)), (1, .int x)]) (by decide +kernel) rfl (Nat.le_of_ble_eq_true rfl) ?_
  intro Z hRf hRl hl hG hn hk ht hA hQ X
  subst hG hl
  have X : XC Z "NestedDeedsModel" prog_14_method_9_code (some .int) := X
  have hk0 : zk Z ≤ (zR Z).cells := hk ▸ Nat.zero_le _
  have ht0 : zt Z ≤ (zR Z).slots := ht ▸ Nat.zero_le _
  refine V.iload_n X 1 dX12_way_0 rfl rfl ?_
  refine V.iconst X (v := nI 0) dX12_way_1 (by decide) ?_
  refine V.iconst X (v := nI 3) dX12_way_2 (by decide) ?_
  refine V.callS X rfl (k_in (zl Z) (zG Z) (rw (zG Z) a σ) x (nI 0) (nI 3)) cs_X12_93 rfl (len hRf (by decide)) (len hRl (by decide)) hk0 ht0 [] rfl (Nat.le_of_ble_eq_true rfl) dX12_way_3 ?_
  rintro _ _ ⟨rfl, rfl⟩
  refine V.eqs (st' := [.int (bI (inR x (nI 0) (nI 3)))]) rfl ?_
  refine V.if_neB X 12 dX12_way_6 (by decide) (fun c6 => ?_) (fun c6 => ?_)
  · obtain ⟨j, hj1, hj2, rfl⟩ := inR_nat (lo := 0) (hi := 3) (by decide) (by decide) c6
    refine V.aload_n X 0 dX12_way_12 rfl rfl ?_
    refine Vg_r_0_way (x := gN σ 2) X tw_837 dX12_way_13 rfl ?_
    refine V.istore_n X (lv' := [(2, .int (nI (gN σ 2))), (0, .ref (a 0)), (1, .int (nI j))]) dX12_way_16 rfl (ltn hn (by decide)) rfl ?_
    refine V.aload_n X 1 dX12_way_17 rfl rfl ?_
    refine V.iload_n X 2 dX12_way_18 rfl rfl ?_
    refine Vp_r_0_way (x := j) X tw_837 dX12_way_19 ?_
    refine V.iload_n X 0 dX12_way_22 rfl rfl ?_
    exact V.iret X rfl hA hk ht hQ rfl dX12_way_23 (⟨by rw [c6]; rfl, by rw [c6, nI_clamp (by omega)]; rfl⟩)
  · refine V.bipush X (v := (-2)) dX12_way_9 (by decide) ?_
    exact V.iret X rfl hA hk ht hQ rfl dX12_way_11 (⟨by rw [c6]; rfl, by rw [c6]; rfl⟩)

set_option maxHeartbeats 4000000 in
set_option maxRecDepth 100000 in
theorem r_meter (l : Launch) (G : Gx) (a : Nat → Nat) (σ : St) (x : Int32) : MM l G ⟨"NestedDeedsModel", "meter", "(I)I"⟩ prog_14_method_10_code 3 (some .int) 1 22 [.ref (a 0), .int x] (rw G a σ) (fun rv w => rv = some (.int (if inR x (nI 1) (nI 300) = true then nI (gN σ 3) else -2)) ∧ w = rw G a (if inR x (nI 1) (nI 300) = true then sN σ 3 x.toNatClampNeg else σ)) := by
  refine MM.of (lv := [(0, .ref (a 0)), (1, .int x)]) (by decide +kernel) rfl (Nat.le_of_ble_eq_true rfl) ?_
  intro Z hRf hRl hl hG hn hk ht hA hQ X
  subst hG hl
  have X : XC Z "NestedDeedsModel" prog_14_method_10_code (some .int) := X
  have hk0 : zk Z ≤ (zR Z).cells := hk ▸ Nat.zero_le _
  have ht0 : zt Z ≤ (zR Z).slots := ht ▸ Nat.zero_le _
  refine V.iload_n X 1 dX12_meter_0 rfl rfl ?_
  refine V.iconst X (v := nI 1) dX12_meter_1 (by decide) ?_
  refine V.sipush X (v := nI 300) dX12_meter_2 (by decide) ?_
  refine V.callS X rfl (k_in (zl Z) (zG Z) (rw (zG Z) a σ) x (nI 1) (nI 300)) cs_X12_93 rfl (len hRf (by decide)) (len hRl (by decide)) hk0 ht0 [] rfl (Nat.le_of_ble_eq_true rfl) dX12_meter_5 ?_
  rintro _ _ ⟨rfl, rfl⟩
  refine V.eqs (st' := [.int (bI (inR x (nI 1) (nI 300)))]) rfl ?_
  refine V.if_neB X 14 dX12_meter_8 (by decide) (fun c8 => ?_) (fun c8 => ?_)
  · obtain ⟨j, hj1, hj2, rfl⟩ := inR_nat (lo := 1) (hi := 300) (by decide) (by decide) c8
    refine V.aload_n X 0 dX12_meter_14 rfl rfl ?_
    refine Vg_r_0_meter (x := gN σ 3) X tw_838 dX12_meter_15 rfl ?_
    refine V.istore_n X (lv' := [(2, .int (nI (gN σ 3))), (0, .ref (a 0)), (1, .int (nI j))]) dX12_meter_18 rfl (ltn hn (by decide)) rfl ?_
    refine V.aload_n X 1 dX12_meter_19 rfl rfl ?_
    refine V.iload_n X 2 dX12_meter_20 rfl rfl ?_
    refine Vp_r_0_meter (x := j) X tw_838 dX12_meter_21 ?_
    refine V.iload_n X 0 dX12_meter_24 rfl rfl ?_
    exact V.iret X rfl hA hk ht hQ rfl dX12_meter_25 (⟨by rw [c8]; rfl, by rw [c8, nI_clamp (by omega)]; rfl⟩)
  · refine V.bipush X (v := (-2)) dX12_meter_11 (by decide) ?_
    exact V.iret X rfl hA hk ht hQ rfl dX12_meter_13 (⟨by rw [c8]; rfl, by rw [c8]; rfl⟩)

set_option maxHeartbeats 4000000 in
set_option maxRecDepth 100000 in
theorem r_deed (l : Launch) (G : Gx) (a : Nat → Nat) (σ : St) (k v : Int32) (h0 : gN σ 0 ≤ 1500) : MM l G ⟨"NestedDeedsModel", "deed", "(II)I"⟩ prog_14_method_6_code 3 (some .int) 1 22 [.ref (a 0), .int k, .int v] (rw G a σ) (fun rv w => rv = some (.int (if hasD 12 k = true then (if gN σ 0 < 1500 then nI (gN σ 0) else -4) else -2)) ∧ w = rw G a (if hasD 12 k = true then (if gN σ 0 < 1500 then rAdd σ k.toNatClampNeg v else σ) else σ)) := by
  refine MM.of (lv := [(0, .ref (a 0)), (1, .int k), (2, .int v)]) (by decide +kernel) rfl (Nat.le_of_ble_eq_true rfl) ?_
  intro Z hRf hRl hl hG hn hk ht hA hQ X
  subst hG hl
  have X : XC Z "NestedDeedsModel" prog_14_method_6_code (some .int) := X
  have hk0 : zk Z ≤ (zR Z).cells := hk ▸ Nat.zero_le _
  have ht0 : zt Z ≤ (zR Z).slots := ht ▸ Nat.zero_le _
  refine V.iload_n X 1 dX12_deed_0 rfl rfl ?_
  refine V.iconst X (v := nI 0) dX12_deed_1 (by decide) ?_
  refine V.bipush X (v := nI 11) dX12_deed_2 (by decide) ?_
  refine V.callS X rfl (k_in (zl Z) (zG Z) (rw (zG Z) a σ) k (nI 0) (nI 11)) cs_X12_93 rfl (len hRf (by decide)) (len hRl (by decide)) hk0 ht0 [] rfl (Nat.le_of_ble_eq_true rfl) dX12_deed_4 ?_
  rintro _ _ ⟨rfl, rfl⟩
  refine V.eqs (st' := [.int (bI (inR k (nI 0) (nI 11)))]) rfl ?_
  refine V.if_neB X 13 dX12_deed_7 (by decide) (fun c7 => ?_) (fun c7 => ?_)
  · refine V.aload_n X 0 dX12_deed_13 rfl rfl ?_
    refine Vg_r_0_deeds (x := gN σ 0) X tw_828 dX12_deed_14 rfl ?_
    refine V.sipush X (v := nI 1500) dX12_deed_17 (by decide) ?_
    refine V.icmp_neN X 28 dX12_deed_20 (by decide) (by omega) (by decide) (fun c20 => ?_) (fun c20 => ?_)
    · obtain ⟨j, hj1, hj2, rfl⟩ := inR_nat (lo := 0) (hi := 11) (by decide) (by decide) c7
      refine V.aload_n X 0 dX12_deed_28 rfl rfl ?_
      refine V.iload_n X 1 dX12_deed_29 rfl rfl ?_
      refine V.iload_n X 2 dX12_deed_30 rfl rfl ?_
      refine V.callV X rfl (r_add (zl Z) (zG Z) a σ j v (by omega)) cv_X12_100 rfl 0 rfl rfl (len hRf (by decide)) (len hRl (by decide)) hk0 ht0 [] rfl (Nat.le_of_ble_eq_true rfl) dX12_deed_31 ?_
      rintro _ _ ⟨rfl, rfl⟩
      refine V.eqs (st' := [.int (nI (gN σ 0))]) rfl ?_
      exact V.iret X rfl hA hk ht hQ rfl dX12_deed_34 (⟨by rw [← inR_hasN (m := 11) (by decide), c7, if_pos rfl, if_pos (by omega)], by rw [← inR_hasN (m := 11) (by decide), c7, if_pos rfl, if_pos (by omega), nI_clamp (by omega)]⟩)
    · refine V.bipush X (v := (-4)) dX12_deed_23 (by decide) ?_
      refine V.goto X 34 dX12_deed_25 (by decide) ?_
      exact V.iret X rfl hA hk ht hQ rfl dX12_deed_34 (⟨by rw [← inR_hasN (m := 11) (by decide), c7, if_pos rfl, if_neg (by omega)], by rw [← inR_hasN (m := 11) (by decide), c7, if_pos rfl, if_neg (by omega)]⟩)
  · refine V.bipush X (v := (-2)) dX12_deed_10 (by decide) ?_
    exact V.iret X rfl hA hk ht hQ rfl dX12_deed_12 (⟨by rw [← inR_hasN (m := 11) (by decide), c7]; rfl, by rw [← inR_hasN (m := 11) (by decide), c7]; rfl⟩)

def rOf (σ : St) (d q : Nat) : Int32 := if q = 0 then nI (gA σ 0 d) else if q = 1 then nI (gA σ 1 d) else gJ σ 0 d
set_option maxHeartbeats 4000000 in
set_option maxRecDepth 100000 in
theorem r_of (l : Launch) (G : Gx) (a : Nat → Nat) (σ : St) (d x : Int32) (h0 : gN σ 0 ≤ 1500) : MM l G ⟨"NestedDeedsModel", "of", "(II)I"⟩ prog_14_method_11_code 3 (some .int) 2 43 [.ref (a 0), .int d, .int x] (rw G a σ) (fun rv w => rv = some (.int (if hasD (gN σ 0) d = true ∧ hasD 3 x = true then rOf σ d.toNatClampNeg x.toNatClampNeg else -2147483648)) ∧ w = rw G a σ) := by
  refine MM.of (lv := [(0, .ref (a 0)), (1, .int d), (2, .int x)]) (by decide +kernel) rfl (Nat.le_of_ble_eq_true rfl) ?_
  intro Z hRf hRl hl hG hn hk ht hA hQ X
  subst hG hl
  have X : XC Z "NestedDeedsModel" prog_14_method_11_code (some .int) := X
  have hk0 : zk Z ≤ (zR Z).cells := hk ▸ Nat.zero_le _
  have ht0 : zt Z ≤ (zR Z).slots := ht ▸ Nat.zero_le _
  refine V.aload_n X 0 dX12_of_0 rfl rfl ?_
  refine V.iload_n X 1 dX12_of_1 rfl rfl ?_
  refine V.callV X rfl (r_isDeed (zl Z) (zG Z) a σ d (by omega)) cv_X12_104 rfl 0 rfl rfl (len hRf (by decide)) (len hRl (by decide)) hk0 ht0 [] rfl (Nat.le_of_ble_eq_true rfl) dX12_of_2 ?_
  rintro _ _ ⟨rfl, rfl⟩
  refine V.eqs (st' := [.int (bI (hasD (gN σ 0) d))]) rfl ?_
  refine V.if_eqB X 17 dX12_of_5 (by decide) (fun c5 => ?_) (fun c5 => ?_)
  · refine V.ldc X dX12_of_17 tw_991 ?_
    exact V.iret X rfl hA hk ht hQ rfl dX12_of_19 (⟨by rw [if_neg (by rw [c5]; simp)], rfl⟩)
  · refine V.iload_n X 2 dX12_of_8 rfl rfl ?_
    refine V.iconst X (v := nI 0) dX12_of_9 (by decide) ?_
    refine V.iconst X (v := nI 2) dX12_of_10 (by decide) ?_
    refine V.callS X rfl (k_in (zl Z) (zG Z) (rw (zG Z) a σ) x (nI 0) (nI 2)) cs_X12_93 rfl (len hRf (by decide)) (len hRl (by decide)) hk0 ht0 [] rfl (Nat.le_of_ble_eq_true rfl) dX12_of_11 ?_
    rintro _ _ ⟨rfl, rfl⟩
    refine V.eqs (st' := [.int (bI (inR x (nI 0) (nI 2)))]) rfl ?_
    refine V.if_neB X 20 dX12_of_14 (by decide) (fun c14 => ?_) (fun c14 => ?_)
    · obtain ⟨j, hj, rfl⟩ := hasD_t (by omega) c5
      obtain ⟨q, hq1, hq2, rfl⟩ := inR_nat (lo := 0) (hi := 2) (by decide) (by decide) c14
      refine V.iload_n X 2 dX12_of_20 rfl rfl ?_
      refine V.if_neN X 33 dX12_of_21 (by decide) (by omega) (fun c21 => ?_) (fun c21 => ?_)
      · refine V.iload_n X 2 dX12_of_33 rfl rfl ?_
        refine V.iconst X (v := nI 1) dX12_of_34 (by decide) ?_
        refine V.icmp_neN X 47 dX12_of_35 (by decide) (by omega) (by decide) (fun c35 => ?_) (fun c35 => ?_)
        · refine V.aload_n X 0 dX12_of_47 rfl rfl ?_
          refine Vg_r_0_number X tw_830 dX12_of_48 ?_
          refine V.iload_n X 1 dX12_of_51 rfl rfl ?_
          refine Va_r_number (x := gJ σ 0 j) X (by omega) dX12_of_52 rfl ?_
          exact V.iret X rfl hA hk ht hQ rfl dX12_of_53 (⟨by rw [if_pos ⟨c5, by rw [← inR_hasN (m := 2) (by decide)]; exact c14⟩, nI_clamp (by omega), nI_clamp (by omega), rOf, if_neg c21, if_neg c35], rfl⟩)
        · refine V.aload_n X 0 dX12_of_38 rfl rfl ?_
          refine Vg_r_0_partMany X tw_831 dX12_of_39 ?_
          refine V.iload_n X 1 dX12_of_42 rfl rfl ?_
          refine Va_r_partMany (x := gA σ 1 j) X (by omega) dX12_of_43 rfl ?_
          refine V.goto X 53 dX12_of_44 (by decide) ?_
          exact V.iret X rfl hA hk ht hQ rfl dX12_of_53 (⟨by rw [if_pos ⟨c5, by rw [← inR_hasN (m := 2) (by decide)]; exact c14⟩, nI_clamp (by omega), nI_clamp (by omega), rOf, if_neg c21, if_pos c35], rfl⟩)
      · refine V.aload_n X 0 dX12_of_24 rfl rfl ?_
        refine Vg_r_0_kind X tw_829 dX12_of_25 ?_
        refine V.iload_n X 1 dX12_of_28 rfl rfl ?_
        refine Va_r_kind (x := gA σ 0 j) X (by omega) dX12_of_29 rfl ?_
        refine V.goto X 53 dX12_of_30 (by decide) ?_
        exact V.iret X rfl hA hk ht hQ rfl dX12_of_53 (⟨by rw [if_pos ⟨c5, by rw [← inR_hasN (m := 2) (by decide)]; exact c14⟩, nI_clamp (by omega), nI_clamp (by omega), rOf, if_pos c21], rfl⟩)
    · refine V.ldc X dX12_of_17 tw_991 ?_
      exact V.iret X rfl hA hk ht hQ rfl dX12_of_19 (⟨by rw [if_neg (by rw [← inR_hasN (m := 2) (by decide), c14]; simp)], rfl⟩)

set_option maxHeartbeats 4000000 in
set_option maxRecDepth 100000 in
theorem r_byteAt (l : Launch) (G : Gx) (a : Nat → Nat) (σ : St) (i : Int32) (h4 : gN σ 4 ≤ 6000) : MM l G ⟨"NestedDeedsModel", "byteAt", "(I)I"⟩ prog_14_method_48_code 2 (some .int) 1 22 [.ref (a 0), .int i] (rw G a σ) (fun rv w => rv = some (.int (if hasD (gN σ 4) i = true then nI (gA σ 3 i.toNatClampNeg) else -1)) ∧ w = rw G a σ) := by
  refine MM.of (lv := [(0, .ref (a 0)), (1, .int i)]) (by decide +kernel) rfl (Nat.le_of_ble_eq_true rfl) ?_
  intro Z hRf hRl hl hG hn hk ht hA hQ X
  subst hG hl
  have X : XC Z "NestedDeedsModel" prog_14_method_48_code (some .int) := X
  have hk0 : zk Z ≤ (zR Z).cells := hk ▸ Nat.zero_le _
  have ht0 : zt Z ≤ (zR Z).slots := ht ▸ Nat.zero_le _
  refine V.iload_n X 1 dX12_byteAt_0 rfl rfl ?_
  refine V.iconst X (v := nI 0) dX12_byteAt_1 (by decide) ?_
  refine V.aload_n X 0 dX12_byteAt_2 rfl rfl ?_
  refine Vg_r_0_paperSize (x := gN σ 4) X tw_840 dX12_byteAt_3 rfl ?_
  refine V.iconst X (v := nI 1) dX12_byteAt_6 (by decide) ?_
  refine V.isub X dX12_byteAt_7 ?_
  refine V.callS X rfl (k_in (zl Z) (zG Z) (rw (zG Z) a σ) i (nI 0) ((nI (gN σ 4)) - (nI 1))) cs_X12_93 rfl (len hRf (by decide)) (len hRl (by decide)) hk0 ht0 [] rfl (Nat.le_of_ble_eq_true rfl) dX12_byteAt_8 ?_
  rintro _ _ ⟨rfl, rfl⟩
  refine V.eqs (st' := [.int (bI (inR i (nI 0) ((nI (gN σ 4)) - (nI 1))))]) rfl ?_
  refine V.if_eqB X 23 dX12_byteAt_11 (by decide) (fun c11 => ?_) (fun c11 => ?_)
  · refine V.iconst X (v := -1) dX12_byteAt_23 (by decide) ?_
    exact V.iret X rfl hA hk ht hQ rfl dX12_byteAt_24 (⟨by rw [← inR_has (by omega), c11]; rfl, rfl⟩)
  · rw [inR_has (by omega)] at c11
    obtain ⟨j, hj, rfl⟩ := hasD_t (by omega) c11
    refine V.aload_n X 0 dX12_byteAt_14 rfl rfl ?_
    refine Vg_r_0_paper X tw_839 dX12_byteAt_15 ?_
    refine V.iload_n X 1 dX12_byteAt_18 rfl rfl ?_
    refine Va_r_paper (x := gA σ 3 j) X (by omega) dX12_byteAt_19 rfl ?_
    refine V.goto X 24 dX12_byteAt_20 (by decide) ?_
    exact V.iret X rfl hA hk ht hQ rfl dX12_byteAt_24 (⟨by rw [if_pos c11, nI_clamp (by omega)], rfl⟩)

set_option maxHeartbeats 4000000 in
set_option maxRecDepth 100000 in
theorem r_now (l : Launch) (G : Gx) (a : Nat → Nat) (σ : St) (h4 : gN σ 4 ≤ 6000) (h12 : gN σ 12 < 2 ^ 31) : MM l G ⟨"NestedDeedsModel", "now", "()I"⟩ prog_14_method_49_code 1 (some .int) 0 0 [.ref (a 0)] (rw G a σ) (fun rv w => rv = some (.int (oI (if gN σ 12 < gN σ 4 then some (gA σ 3 (gN σ 12)) else none))) ∧ w = rw G a σ) := by
  refine MM.of (lv := [(0, .ref (a 0))]) (by decide +kernel) rfl (Nat.le_of_ble_eq_true rfl) ?_
  intro Z hRf hRl hl hG hn hk ht hA hQ X
  subst hG hl
  have X : XC Z "NestedDeedsModel" prog_14_method_49_code (some .int) := X
  have hk0 : zk Z ≤ (zR Z).cells := hk ▸ Nat.zero_le _
  have ht0 : zt Z ≤ (zR Z).slots := ht ▸ Nat.zero_le _
  refine V.aload_n X 0 dX12_now_0 rfl rfl ?_
  refine Vg_r_0_place (x := gN σ 12) X tw_867 dX12_now_1 rfl ?_
  refine V.aload_n X 0 dX12_now_4 rfl rfl ?_
  refine Vg_r_0_paperSize (x := gN σ 4) X tw_840 dX12_now_5 rfl ?_
  refine V.icmp_geN X 23 dX12_now_8 (by decide) (by omega) (by omega) (fun c8 => ?_) (fun c8 => ?_)
  · refine V.iconst X (v := -1) dX12_now_23 (by decide) ?_
    exact V.iret X rfl hA hk ht hQ rfl dX12_now_24 (⟨by rw [if_neg (by omega)]; rfl, rfl⟩)
  · refine V.aload_n X 0 dX12_now_11 rfl rfl ?_
    refine Vg_r_0_paper X tw_839 dX12_now_12 ?_
    refine V.aload_n X 0 dX12_now_15 rfl rfl ?_
    refine Vg_r_0_place (x := gN σ 12) X tw_867 dX12_now_16 rfl ?_
    refine Va_r_paper (x := gA σ 3 (gN σ 12)) X (by omega) dX12_now_19 rfl ?_
    refine V.goto X 24 dX12_now_20 (by decide) ?_
    exact V.iret X rfl hA hk ht hQ rfl dX12_now_24 (⟨by rw [if_pos (by omega)]; rfl, rfl⟩)

