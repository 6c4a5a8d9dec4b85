theorem inc_1 (x : Nat) : nI x + Int32.ofInt 1 = nI (x + 1) := nI_1 x
theorem dec_1 {x : Nat} (h : 1 ≤ x) : nI x + Int32.ofInt (-1) = nI (x - 1) := by
  obtain ⟨k, rfl⟩ : ∃ k, x = k + 1 := ⟨x - 1, by omega⟩
  exact pk_m1 k
def hasD (n : Nat) (d : Int32) : Bool := decide (0 ≤ d ∧ d < nI n)
theorem hasD_nI {n j : Nat} (hn : n < 2 ^ 31) (hj : j < n) : hasD n (nI j) = true := by
  simp only [hasD, decide_eq_true_eq]
  exact ⟨nI_pos' (by omega), (nI_ltI (by omega) hn).mpr hj⟩
theorem hasD_t {n : Nat} {d : Int32} (hn : n < 2 ^ 31) (h : hasD n d = true) : ∃ j, j < n ∧ d = nI j := by
  simp only [hasD, decide_eq_true_eq] at h
  obtain ⟨j, h1, h2⟩ := nI_of (x := d) (by intro q; exact absurd h.1 (Int32.not_le.mpr q))
  subst h2
  exact ⟨j, (nI_ltI h1 hn).mp h.2, rfl⟩
theorem hasD_f1 {n : Nat} {d : Int32} (h : d < 0) : hasD n d = false := by
  simp only [hasD, decide_eq_false_iff_not]; exact fun q => absurd q.1 (Int32.not_le.mpr h)
theorem hasD_f2 {n : Nat} {d : Int32} (h : nI n ≤ d) : hasD n d = false := by
  simp only [hasD, decide_eq_false_iff_not]; exact fun q => absurd q.2 (Int32.not_lt.mpr h)
theorem hasD_tt {n : Nat} {d : Int32} (h : ¬ d < 0) (h2 : ¬ nI n ≤ d) : hasD n d = true := by
  simp only [hasD, decide_eq_true_eq]; exact ⟨Int32.not_lt.mp h, Int32.not_le.mp h2⟩

set_option maxHeartbeats 4000000 in
set_option maxRecDepth 100000 in
theorem c_allParts (l : Launch) (G : Gx) (a : Nat → Nat) (σ : St) (h1 : gN σ 1 ≤ 1500) : MM l G ⟨"NestedDeeds$Deeds", "allParts", "()I"⟩ prog_4_method_4_code 1 (some .int) 0 0 [.ref (a 1)] (cw G a σ) (fun rv w => rv = some (.int (nI (gA σ 1 (gN σ 1)))) ∧ w = cw G a σ) := by
  refine MM.of (lv := [(0, .ref (a 1))]) (by decide +kernel) rfl (Nat.le_of_ble_eq_true rfl) ?_
  intro Z hRf hRl hl hG hn hk ht hA hQ X
  subst hG hl
  have X : XC Z "NestedDeeds$Deeds" prog_4_method_4_code (some .int) := X
  have hk0 : zk Z ≤ (zR Z).cells := hk ▸ Nat.zero_le _
  have ht0 : zt Z ≤ (zR Z).slots := ht ▸ Nat.zero_le _
  refine V.aload_n X 0 dX2_allParts_0 rfl rfl ?_
  refine Vg_c_1_start X tw_94 dX2_allParts_1 ?_
  refine V.aload_n X 0 dX2_allParts_4 rfl rfl ?_
  refine Vg_c_1_made (x := gN σ 1) X tw_100 dX2_allParts_5 rfl ?_
  refine Va_c_start (x := gA σ 1 (gN σ 1)) X (by omega) dX2_allParts_8 rfl ?_
  exact V.iret X rfl hA hk ht hQ rfl dX2_allParts_9 (⟨rfl, rfl⟩)

set_option maxHeartbeats 4000000 in
set_option maxRecDepth 100000 in
theorem c_has (l : Launch) (G : Gx) (a : Nat → Nat) (σ : St) (d : Int32) : MM l G ⟨"NestedDeeds$Deeds", "has", "(I)Z"⟩ prog_4_method_2_code 2 (some .boolean) 0 0 [.ref (a 1), .int d] (cw G a σ) (fun rv w => rv = some (.int (bI (hasD (gN σ 1) d))) ∧ w = cw G a σ) := by
  refine MM.of (lv := [(0, .ref (a 1)), (1, .int d)]) (by decide +kernel) rfl (Nat.le_of_ble_eq_true rfl) ?_
  intro Z hRf hRl hl hG hn hk ht hA hQ X
  subst hG hl
  have X : XC Z "NestedDeeds$Deeds" prog_4_method_2_code (some .boolean) := X
  have hk0 : zk Z ≤ (zR Z).cells := hk ▸ Nat.zero_le _
  have ht0 : zt Z ≤ (zR Z).slots := ht ▸ Nat.zero_le _
  refine V.iload_n X 1 dX2_has_0 rfl rfl ?_
  refine V.if_lt X 16 dX2_has_1 (by decide) (fun c1 => ?_) (fun c1 => ?_)
  · refine V.iconst X (v := (nI 0)) dX2_has_16 (by decide) ?_
    refine V.topi (y := bI false) rfl ?_
    exact V.zret X rfl hA hk ht hQ rfl (bI_01 _) dX2_has_17 (⟨by first | rw [hasD_f1 c1] | rw [hasD_f2 c9] | rw [hasD_tt c1 c9], rfl⟩)
  · refine V.iload_n X 1 dX2_has_4 rfl rfl ?_
    refine V.aload_n X 0 dX2_has_5 rfl rfl ?_
    refine Vg_c_1_made (x := gN σ 1) X tw_100 dX2_has_6 rfl ?_
    refine V.icmp_ge X 16 dX2_has_9 (by decide) (fun c9 => ?_) (fun c9 => ?_)
    · refine V.iconst X (v := (nI 0)) dX2_has_16 (by decide) ?_
      refine V.topi (y := bI false) rfl ?_
      exact V.zret X rfl hA hk ht hQ rfl (bI_01 _) dX2_has_17 (⟨by first | rw [hasD_f1 c1] | rw [hasD_f2 c9] | rw [hasD_tt c1 c9], rfl⟩)
    · refine V.iconst X (v := (nI 1)) dX2_has_12 (by decide) ?_
      refine V.goto X 17 dX2_has_13 (by decide) ?_
      refine V.topi (y := bI true) rfl ?_
      exact V.zret X rfl hA hk ht hQ rfl (bI_01 _) dX2_has_17 (⟨by first | rw [hasD_f1 c1] | rw [hasD_f2 c9] | rw [hasD_tt c1 c9], rfl⟩)

set_option maxHeartbeats 4000000 in
set_option maxRecDepth 100000 in
theorem c_hasRoom (l : Launch) (G : Gx) (a : Nat → Nat) (σ : St) (x y : Nat) (h1 : gN σ 1 ≤ 1500) (h2 : gA σ 1 (gN σ 1) ≤ 4000) (hx : x ≤ 100000) (hy : y ≤ 100000) : MM l G ⟨"NestedDeeds$Deeds", "hasRoom", "(II)Z"⟩ prog_4_method_3_code 3 (some .boolean) 1 20 [.ref (a 1), .int (nI x), .int (nI y)] (cw G a σ) (fun rv w => rv = some (.int (bI (decide (gN σ 1 + x ≤ 1500 ∧ gA σ 1 (gN σ 1) + y ≤ 4000)))) ∧ w = cw G a σ) := by
  refine MM.of (lv := [(0, .ref (a 1)), (1, .int (nI x)), (2, .int (nI y))]) (by decide +kernel) rfl (Nat.le_of_ble_eq_true rfl) ?_
  intro Z hRf hRl hl hG hn hk ht hA hQ X
  subst hG hl
  have X : XC Z "NestedDeeds$Deeds" prog_4_method_3_code (some .boolean) := X
  have hk0 : zk Z ≤ (zR Z).cells := hk ▸ Nat.zero_le _
  have ht0 : zt Z ≤ (zR Z).slots := ht ▸ Nat.zero_le _
  refine V.aload_n X 0 dX2_hasRoom_0 rfl rfl ?_
  refine Vg_c_1_made (x := gN σ 1) X tw_100 dX2_hasRoom_1 rfl ?_
  refine V.iload_n X 1 dX2_hasRoom_4 rfl rfl ?_
  refine V.iaddN X dX2_hasRoom_5 ?_
  refine V.sipush X (v := (nI 1500)) dX2_hasRoom_6 (by decide) ?_
  refine V.icmp_gtN X 28 dX2_hasRoom_9 (by decide) (by omega) (by decide) (fun c9 => ?_) (fun c9 => ?_)
  · refine V.iconst X (v := (nI 0)) dX2_hasRoom_28 (by decide) ?_
    refine V.topi (y := bI false) rfl ?_
    exact V.zret X rfl hA hk ht hQ rfl (bI_01 _) dX2_hasRoom_29 (⟨by congr 3; simp; omega, rfl⟩)
  · refine V.aload_n X 0 dX2_hasRoom_12 rfl rfl ?_
    refine V.callV X rfl (c_allParts (zl Z) (zG Z) a σ (by first | assumption | simpa only [gst] using h1)) cv_X2_31 rfl 1 rfl rfl (len hRf (by decide)) (len hRl (by decide)) hk0 ht0 [] rfl (Nat.le_of_ble_eq_true rfl) dX2_hasRoom_13 ?_
    rintro _ _ ⟨rfl, rfl⟩
    refine V.eqs (st' := [.int (nI ((gA σ 1) (gN σ 1)))]) rfl ?_
    refine V.iload_n X 2 dX2_hasRoom_16 rfl rfl ?_
    refine V.iaddN X dX2_hasRoom_17 ?_
    refine V.sipush X (v := (nI 4000)) dX2_hasRoom_18 (by decide) ?_
    refine V.icmp_gtN X 28 dX2_hasRoom_21 (by decide) (by omega) (by decide) (fun c21 => ?_) (fun c21 => ?_)
    · refine V.iconst X (v := (nI 0)) dX2_hasRoom_28 (by decide) ?_
      refine V.topi (y := bI false) rfl ?_
      exact V.zret X rfl hA hk ht hQ rfl (bI_01 _) dX2_hasRoom_29 (⟨by congr 3; simp; omega, rfl⟩)
    · refine V.iconst X (v := (nI 1)) dX2_hasRoom_24 (by decide) ?_
      refine V.goto X 29 dX2_hasRoom_25 (by decide) ?_
      refine V.topi (y := bI true) rfl ?_
      exact V.zret X rfl hA hk ht hQ rfl (bI_01 _) dX2_hasRoom_29 (⟨by congr 3; simp; omega, rfl⟩)

set_option maxHeartbeats 4000000 in
set_option maxRecDepth 100000 in
theorem c_partsOf (l : Launch) (G : Gx) (a : Nat → Nat) (σ : St) (d : Nat) (hd : d < 1500) (hs : gA σ 1 d ≤ gA σ 1 (d + 1)) : MM l G ⟨"NestedDeeds$Deeds", "partsOf", "(I)I"⟩ prog_4_method_5_code 2 (some .int) 0 0 [.ref (a 1), .int (nI d)] (cw G a σ) (fun rv w => rv = some (.int (nI (gA σ 1 (d + 1) - gA σ 1 d))) ∧ w = cw G a σ) := by
  refine MM.of (lv := [(0, .ref (a 1)), (1, .int (nI d))]) (by decide +kernel) rfl (Nat.le_of_ble_eq_true rfl) ?_
  intro Z hRf hRl hl hG hn hk ht hA hQ X
  subst hG hl
  have X : XC Z "NestedDeeds$Deeds" prog_4_method_5_code (some .int) := X
  have hk0 : zk Z ≤ (zR Z).cells := hk ▸ Nat.zero_le _
  have ht0 : zt Z ≤ (zR Z).slots := ht ▸ Nat.zero_le _
  refine V.aload_n X 0 dX2_partsOf_0 rfl rfl ?_
  refine Vg_c_1_start X tw_94 dX2_partsOf_1 ?_
  refine V.iload_n X 1 dX2_partsOf_4 rfl rfl ?_
  refine V.iconst X (v := (nI 1)) dX2_partsOf_5 (by decide) ?_
  refine V.iaddN X dX2_partsOf_6 ?_
  refine Va_c_start (x := gA σ 1 (d + 1)) X (by omega) dX2_partsOf_7 rfl ?_
  refine V.aload_n X 0 dX2_partsOf_8 rfl rfl ?_
  refine Vg_c_1_start X tw_94 dX2_partsOf_9 ?_
  refine V.iload_n X 1 dX2_partsOf_12 rfl rfl ?_
  refine Va_c_start (x := gA σ 1 d) X (by omega) dX2_partsOf_13 rfl ?_
  refine V.isubN X dX2_partsOf_14 (by omega) ?_
  exact V.iret X rfl hA hk ht hQ rfl dX2_partsOf_15 (⟨rfl, rfl⟩)

