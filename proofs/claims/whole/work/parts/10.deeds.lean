theorem inc_1 (x : Nat) : nI x + Int32.ofInt 1 = nI (x + 1) := nI_1 x
theorem dec_1 {x : Nat} (h : 1 ≤ x) : nI x + Int32.ofInt (-1) = nI (x - 1) := by
  obtain ⟨k, rfl⟩ : ∃ k, x = k + 1 := ⟨x - 1, by omega⟩
  exact pk_m1 k
def hasD (n : Nat) (d : Int32) : Bool := decide (0 ≤ d ∧ d < nI n)
theorem hasD_nI {n j : Nat} (hn : n < 2 ^ 31) (hj : j < n) : hasD n (nI j) = true := by
  simp only [hasD, decide_eq_true_eq]
  exact ⟨nI_pos' (by omega), (nI_ltI (by omega) hn).mpr hj⟩
theorem hasD_t {n : Nat} {d : Int32} (hn : n < 2 ^ 31) (h : hasD n d = true) : ∃ j, j < n ∧ d = nI j := by
  simp only [hasD, decide_eq_true_eq] at h
  obtain ⟨j, h1, h2⟩ := nI_of (x := d) (by intro q; exact absurd h.1 (Int32.not_le.mpr q))
  subst h2
  exact ⟨j, (nI_ltI h1 hn).mp h.2, rfl⟩
theorem hasD_f1 {n : Nat} {d : Int32} (h : d < 0) : hasD n d = false := by
  simp only [hasD, decide_eq_false_iff_not]; exact fun q => absurd q.1 (Int32.not_le.mpr h)
theorem hasD_f2 {n : Nat} {d : Int32} (h : nI n ≤ d) : hasD n d = false := by
  simp only [hasD, decide_eq_false_iff_not]; exact fun q => absurd q.2 (Int32.not_lt.mpr h)
theorem hasD_tt {n : Nat} {d : Int32} (h : ¬ d < 0) (h2 : ¬ nI n ≤ d) : hasD n d = true := by
  simp only [hasD, decide_eq_true_eq]; exact ⟨Int32.not_lt.mp h, Int32.not_le.mp h2⟩
/-- Deeds.add -/
def dAdd (σ : St) (k : Nat) (v : Int32) : St := sN (sA (sJ (sA σ 0 (va_up (gA σ 0) (gN σ 1) k)) 0 (va_up (gJ σ 0) (gN σ 1) v)) 1 (va_up (gA σ 1) (gN σ 1 + 1) (gA σ 1 (gN σ 1)))) 1 (gN σ 1 + 1)
/-- one more in the places above d and below i -/
def incF (f : Nat → Nat) (d i : Nat) : Nat → Nat := fun j => if d < j ∧ j < i then f j + 1 else f j
theorem incF_up {f : Nat → Nat} {d i : Nat} (h : d < i) : va_up (incF f d i) i (incF f d i i + 1) = incF f d (i + 1) := by
  funext j
  simp only [va_up, incF]
  by_cases hj : j = i
  · subst hj; simp [h]
  · simp only [hj, if_false]
    by_cases h2 : d < j ∧ j < i
    · rw [if_pos h2, if_pos ⟨h2.1, by omega⟩]
    · rw [if_neg h2, if_neg (fun q => h2 ⟨q.1, by omega⟩)]
theorem incF_0 (f : Nat → Nat) (d : Nat) : incF f d (d + 1) = f := by
  funext j; simp only [incF]; rw [if_neg (by omega)]
/-- Deeds.addPart -/
def dAddP (σ : St) (d p : Nat) : St := sA (sA σ 2 (va_up (va_cpy (gA σ 2) (gA σ 2) (gA σ 1 (d + 1)) (gA σ 1 (d + 1) + 1) (gA σ 1 (gN σ 1) - gA σ 1 (d + 1))) (gA σ 1 (d + 1)) p)) 1 (incF (gA σ 1) d (gN σ 1 + 1))
/-- Deeds.bind -/
def dBind (σ : St) (k : Nat) (v : Int32) (n : Nat) : St :=
  sN (sA (sA (sA (dAdd σ k v) 2 (va_cpy (gA σ 3) (gA σ 2) (gN σ 0 - n) (gA σ 1 (gN σ 1)) n)) 1 (va_up (va_up (gA σ 1) (gN σ 1 + 1) (gA σ 1 (gN σ 1))) (gN σ 1 + 1) (gA σ 1 (gN σ 1) + n))) 3 (va_up (gA σ 3) (gN σ 0 - n) (gN σ 1))) 0 (gN σ 0 - n + 1)

set_option maxHeartbeats 4000000 in
set_option maxRecDepth 100000 in
theorem c_allParts (l : Launch) (G : Gx) (a : Nat → Nat) (σ : St) (h1 : gN σ 1 ≤ 1500) : MM l G ⟨"NestedDeeds$Deeds", "allParts", "()I"⟩ prog_4_method_4_code 1 (some .int) 0 0 [.ref (a 1)] (cw G a σ) (fun rv w => rv = some (.int (nI (gA σ 1 (gN σ 1)))) ∧ w = cw G a σ) := by
  refine MM.of (lv := [(0, .ref (a 1))]) (by decide +kernel) rfl (Nat.le_of_ble_eq_true rfl) ?_
  intro Z hRf hRl hl hG hn hk ht hA hQ X
  subst hG hl
  have X : XC Z "NestedDeeds$Deeds" prog_4_method_4_code (some .int) := X
  have hk0 : zk Z ≤ (zR Z).cells := hk ▸ Nat.zero_le _
  have ht0 : zt Z ≤ (zR Z).slots := ht ▸ Nat.zero_le _
  refine V.aload_n X 0 dX2_allParts_0 rfl rfl ?_
  refine Vg_c_1_start X tw_94 dX2_allParts_1 ?_
  refine V.aload_n X 0 dX2_allParts_4 rfl rfl ?_
  refine Vg_c_1_made (x := gN σ 1) X tw_100 dX2_allParts_5 rfl ?_
  refine Va_c_start (x := gA σ 1 (gN σ 1)) X (by omega) dX2_allParts_8 rfl ?_
  exact V.iret X rfl hA hk ht hQ rfl dX2_allParts_9 (⟨rfl, rfl⟩)

set_option maxHeartbeats 4000000 in
set_option maxRecDepth 100000 in
theorem c_has (l : Launch) (G : Gx) (a : Nat → Nat) (σ : St) (d : Int32) : MM l G ⟨"NestedDeeds$Deeds", "has", "(I)Z"⟩ prog_4_method_2_code 2 (some .boolean) 0 0 [.ref (a 1), .int d] (cw G a σ) (fun rv w => rv = some (.int (bI (hasD (gN σ 1) d))) ∧ w = cw G a σ) := by
  refine MM.of (lv := [(0, .ref (a 1)), (1, .int d)]) (by decide +kernel) rfl (Nat.le_of_ble_eq_true rfl) ?_
  intro Z hRf hRl hl hG hn hk ht hA hQ X
  subst hG hl
  have X : XC Z "NestedDeeds$Deeds" prog_4_method_2_code (some .boolean) := X
  have hk0 : zk Z ≤ (zR Z).cells := hk ▸ Nat.zero_le _
  have ht0 : zt Z ≤ (zR Z).slots := ht ▸ Nat.zero_le _
  refine V.iload_n X 1 dX2_has_0 rfl rfl ?_
  refine V.if_lt X 16 dX2_has_1 (by decide) (fun c1 => ?_) (fun c1 => ?_)
  · refine V.iconst X (v := nI 0) dX2_has_16 (by decide) ?_
    refine V.topi (y := bI false) rfl ?_
    exact V.zret X rfl hA hk ht hQ rfl (bI_01 _) dX2_has_17 (⟨by first | rw [hasD_f1 c1] | rw [hasD_f2 c9] | rw [hasD_tt c1 c9], rfl⟩)
  · refine V.iload_n X 1 dX2_has_4 rfl rfl ?_
    refine V.aload_n X 0 dX2_has_5 rfl rfl ?_
    refine Vg_c_1_made (x := gN σ 1) X tw_100 dX2_has_6 rfl ?_
    refine V.icmp_ge X 16 dX2_has_9 (by decide) (fun c9 => ?_) (fun c9 => ?_)
    · refine V.iconst X (v := nI 0) dX2_has_16 (by decide) ?_
      refine V.topi (y := bI false) rfl ?_
      exact V.zret X rfl hA hk ht hQ rfl (bI_01 _) dX2_has_17 (⟨by first | rw [hasD_f1 c1] | rw [hasD_f2 c9] | rw [hasD_tt c1 c9], rfl⟩)
    · refine V.iconst X (v := nI 1) dX2_has_12 (by decide) ?_
      refine V.goto X 17 dX2_has_13 (by decide) ?_
      refine V.topi (y := bI true) rfl ?_
      exact V.zret X rfl hA hk ht hQ rfl (bI_01 _) dX2_has_17 (⟨by first | rw [hasD_f1 c1] | rw [hasD_f2 c9] | rw [hasD_tt c1 c9], rfl⟩)

set_option maxHeartbeats 4000000 in
set_option maxRecDepth 100000 in
theorem c_hasRoom (l : Launch) (G : Gx) (a : Nat → Nat) (σ : St) (x y : Nat) (h1 : gN σ 1 ≤ 1500) (h2 : gA σ 1 (gN σ 1) ≤ 4000) (hx : x ≤ 100000) (hy : y ≤ 100000) : MM l G ⟨"NestedDeeds$Deeds", "hasRoom", "(II)Z"⟩ prog_4_method_3_code 3 (some .boolean) 1 20 [.ref (a 1), .int (nI x), .int (nI y)] (cw G a σ) (fun rv w => rv = some (.int (bI (decide (gN σ 1 + x ≤ 1500 ∧ gA σ 1 (gN σ 1) + y ≤ 4000)))) ∧ w = cw G a σ) := by
  refine MM.of (lv := [(0, .ref (a 1)), (1, .int (nI x)), (2, .int (nI y))]) (by decide +kernel) rfl (Nat.le_of_ble_eq_true rfl) ?_
  intro Z hRf hRl hl hG hn hk ht hA hQ X
  subst hG hl
  have X : XC Z "NestedDeeds$Deeds" prog_4_method_3_code (some .boolean) := X
  have hk0 : zk Z ≤ (zR Z).cells := hk ▸ Nat.zero_le _
  have ht0 : zt Z ≤ (zR Z).slots := ht ▸ Nat.zero_le _
  refine V.aload_n X 0 dX2_hasRoom_0 rfl rfl ?_
  refine Vg_c_1_made (x := gN σ 1) X tw_100 dX2_hasRoom_1 rfl ?_
  refine V.iload_n X 1 dX2_hasRoom_4 rfl rfl ?_
  refine V.iaddN X dX2_hasRoom_5 ?_
  refine V.sipush X (v := nI 1500) dX2_hasRoom_6 (by decide) ?_
  refine V.icmp_gtN X 28 dX2_hasRoom_9 (by decide) (by omega) (by decide) (fun c9 => ?_) (fun c9 => ?_)
  · refine V.iconst X (v := nI 0) dX2_hasRoom_28 (by decide) ?_
    refine V.topi (y := bI false) rfl ?_
    exact V.zret X rfl hA hk ht hQ rfl (bI_01 _) dX2_hasRoom_29 (⟨by congr 3; simp; omega, rfl⟩)
  · refine V.aload_n X 0 dX2_hasRoom_12 rfl rfl ?_
    refine V.callV X rfl (c_allParts (zl Z) (zG Z) a σ (by first | assumption | exact h1)) cv_X2_31 rfl 1 rfl rfl (len hRf (by decide)) (len hRl (by decide)) hk0 ht0 [] rfl (Nat.le_of_ble_eq_true rfl) dX2_hasRoom_13 ?_
    rintro _ _ ⟨rfl, rfl⟩
    refine V.eqs (st' := [.int (nI ((gA σ 1) (gN σ 1)))]) rfl ?_
    refine V.iload_n X 2 dX2_hasRoom_16 rfl rfl ?_
    refine V.iaddN X dX2_hasRoom_17 ?_
    refine V.sipush X (v := nI 4000) dX2_hasRoom_18 (by decide) ?_
    refine V.icmp_gtN X 28 dX2_hasRoom_21 (by decide) (by omega) (by decide) (fun c21 => ?_) (fun c21 => ?_)
    · refine V.iconst X (v := nI 0) dX2_hasRoom_28 (by decide) ?_
      refine V.topi (y := bI false) rfl ?_
      exact V.zret X rfl hA hk ht hQ rfl (bI_01 _) dX2_hasRoom_29 (⟨by congr 3; simp; omega, rfl⟩)
    · refine V.iconst X (v := nI 1) dX2_hasRoom_24 (by decide) ?_
      refine V.goto X 29 dX2_hasRoom_25 (by decide) ?_
      refine V.topi (y := bI true) rfl ?_
      exact V.zret X rfl hA hk ht hQ rfl (bI_01 _) dX2_hasRoom_29 (⟨by congr 3; simp; omega, rfl⟩)

set_option maxHeartbeats 4000000 in
set_option maxRecDepth 100000 in
theorem c_partsOf (l : Launch) (G : Gx) (a : Nat → Nat) (σ : St) (d : Nat) (hd : d < 1500) (hs : gA σ 1 d ≤ gA σ 1 (d + 1)) : MM l G ⟨"NestedDeeds$Deeds", "partsOf", "(I)I"⟩ prog_4_method_5_code 2 (some .int) 0 0 [.ref (a 1), .int (nI d)] (cw G a σ) (fun rv w => rv = some (.int (nI (gA σ 1 (d + 1) - gA σ 1 d))) ∧ w = cw G a σ) := by
  refine MM.of (lv := [(0, .ref (a 1)), (1, .int (nI d))]) (by decide +kernel) rfl (Nat.le_of_ble_eq_true rfl) ?_
  intro Z hRf hRl hl hG hn hk ht hA hQ X
  subst hG hl
  have X : XC Z "NestedDeeds$Deeds" prog_4_method_5_code (some .int) := X
  have hk0 : zk Z ≤ (zR Z).cells := hk ▸ Nat.zero_le _
  have ht0 : zt Z ≤ (zR Z).slots := ht ▸ Nat.zero_le _
  refine V.aload_n X 0 dX2_partsOf_0 rfl rfl ?_
  refine Vg_c_1_start X tw_94 dX2_partsOf_1 ?_
  refine V.iload_n X 1 dX2_partsOf_4 rfl rfl ?_
  refine V.iconst X (v := nI 1) dX2_partsOf_5 (by decide) ?_
  refine V.iaddN X dX2_partsOf_6 ?_
  refine Va_c_start (x := gA σ 1 (d + 1)) X (by omega) dX2_partsOf_7 rfl ?_
  refine V.aload_n X 0 dX2_partsOf_8 rfl rfl ?_
  refine Vg_c_1_start X tw_94 dX2_partsOf_9 ?_
  refine V.iload_n X 1 dX2_partsOf_12 rfl rfl ?_
  refine Va_c_start (x := gA σ 1 d) X (by omega) dX2_partsOf_13 rfl ?_
  refine V.isubN X dX2_partsOf_14 (by omega) ?_
  exact V.iret X rfl hA hk ht hQ rfl dX2_partsOf_15 (⟨rfl, rfl⟩)

set_option maxHeartbeats 4000000 in
set_option maxRecDepth 100000 in
theorem c_partAt (l : Launch) (G : Gx) (a : Nat → Nat) (σ : St) (d i : Nat) (hd : d < 1500) (hi : i < 2 ^ 31) (hs : gA σ 1 d ≤ gA σ 1 (d + 1)) (hs2 : gA σ 1 (d + 1) ≤ 4000) : MM l G ⟨"NestedDeeds$Deeds", "partAt", "(II)I"⟩ prog_4_method_6_code 3 (some .int) 0 0 [.ref (a 1), .int (nI d), .int (nI i)] (cw G a σ) (fun rv w => rv = some (.int (oI (if i < gA σ 1 (d + 1) - gA σ 1 d then some (gA σ 2 (gA σ 1 d + i)) else none))) ∧ w = cw G a σ) := by
  refine MM.of (lv := [(0, .ref (a 1)), (1, .int (nI d)), (2, .int (nI i))]) (by decide +kernel) rfl (Nat.le_of_ble_eq_true rfl) ?_
  intro Z hRf hRl hl hG hn hk ht hA hQ X
  subst hG hl
  have X : XC Z "NestedDeeds$Deeds" prog_4_method_6_code (some .int) := X
  have hk0 : zk Z ≤ (zR Z).cells := hk ▸ Nat.zero_le _
  have ht0 : zt Z ≤ (zR Z).slots := ht ▸ Nat.zero_le _
  refine V.iload_n X 2 dX2_partAt_0 rfl rfl ?_
  refine V.if_ltN X 39 dX2_partAt_1 (by decide) (by omega) (fun c1 => by exfalso; assumption) (fun c1 => ?_)
  refine V.iload_n X 2 dX2_partAt_4 rfl rfl ?_
  refine V.aload_n X 0 dX2_partAt_5 rfl rfl ?_
  refine Vg_c_1_start X tw_94 dX2_partAt_6 ?_
  refine V.iload_n X 1 dX2_partAt_9 rfl rfl ?_
  refine V.iconst X (v := nI 1) dX2_partAt_10 (by decide) ?_
  refine V.iaddN X dX2_partAt_11 ?_
  refine Va_c_start (x := gA σ 1 (d + 1)) X (by omega) dX2_partAt_12 rfl ?_
  refine V.aload_n X 0 dX2_partAt_13 rfl rfl ?_
  refine Vg_c_1_start X tw_94 dX2_partAt_14 ?_
  refine V.iload_n X 1 dX2_partAt_17 rfl rfl ?_
  refine Va_c_start (x := gA σ 1 d) X (by omega) dX2_partAt_18 rfl ?_
  refine V.isubN X dX2_partAt_19 (by omega) ?_
  refine V.icmp_geN X 39 dX2_partAt_20 (by decide) (by omega) (by omega) (fun c20 => ?_) (fun c20 => ?_)
  · refine V.iconst X (v := -1) dX2_partAt_39 (by decide) ?_
    exact V.iret X rfl hA hk ht hQ rfl dX2_partAt_40 (⟨by first | (rw [if_pos c20]; rfl) | (rw [if_neg (by omega)]; rfl), rfl⟩)
  · refine V.aload_n X 0 dX2_partAt_23 rfl rfl ?_
    refine Vg_c_1_parts X tw_96 dX2_partAt_24 ?_
    refine V.aload_n X 0 dX2_partAt_27 rfl rfl ?_
    refine Vg_c_1_start X tw_94 dX2_partAt_28 ?_
    refine V.iload_n X 1 dX2_partAt_31 rfl rfl ?_
    refine Va_c_start (x := gA σ 1 d) X (by omega) dX2_partAt_32 rfl ?_
    refine V.iload_n X 2 dX2_partAt_33 rfl rfl ?_
    refine V.iaddN X dX2_partAt_34 ?_
    refine Va_c_parts (x := gA σ 2 ((gA σ 1 d) + i)) X (by omega) dX2_partAt_35 rfl ?_
    refine V.goto X 40 dX2_partAt_36 (by decide) ?_
    exact V.iret X rfl hA hk ht hQ rfl dX2_partAt_40 (⟨by first | (rw [if_pos c20]; rfl) | (rw [if_neg (by omega)]; rfl), rfl⟩)

set_option maxHeartbeats 4000000 in
set_option maxRecDepth 100000 in
theorem c_partAtM (l : Launch) (G : Gx) (a : Nat → Nat) (σ : St) (d : Nat) : MM l G ⟨"NestedDeeds$Deeds", "partAt", "(II)I"⟩ prog_4_method_6_code 3 (some .int) 0 0 [.ref (a 1), .int (nI d), .int (-1)] (cw G a σ) (fun rv w => rv = some (.int (-1)) ∧ w = cw G a σ) := by
  refine MM.of (lv := [(0, .ref (a 1)), (1, .int (nI d)), (2, .int (-1))]) (by decide +kernel) rfl (Nat.le_of_ble_eq_true rfl) ?_
  intro Z hRf hRl hl hG hn hk ht hA hQ X
  subst hG hl
  have X : XC Z "NestedDeeds$Deeds" prog_4_method_6_code (some .int) := X
  have hk0 : zk Z ≤ (zR Z).cells := hk ▸ Nat.zero_le _
  have ht0 : zt Z ≤ (zR Z).slots := ht ▸ Nat.zero_le _
  refine V.iload_n X 2 dX2_partAt_0 rfl rfl ?_
  refine V.if_lt X 39 dX2_partAt_1 (by decide) (fun c1 => ?_) (fun c1 => by exfalso; exact c1 (by decide))
  refine V.iconst X (v := -1) dX2_partAt_39 (by decide) ?_
  exact V.iret X rfl hA hk ht hQ rfl dX2_partAt_40 (⟨rfl, rfl⟩)

set_option maxHeartbeats 4000000 in
set_option maxRecDepth 100000 in
theorem c_add (l : Launch) (G : Gx) (a : Nat → Nat) (σ : St) (k : Nat) (v : Int32) (h1 : gN σ 1 < 1500) : MM l G ⟨"NestedDeeds$Deeds", "add", "(II)I"⟩ prog_4_method_7_code 4 (some .int) 0 0 [.ref (a 1), .int (nI k), .int v] (cw G a σ) (fun rv w => rv = some (.int (nI (gN σ 1))) ∧ w = cw G a (dAdd σ k v)) := by
  refine MM.of (lv := [(0, .ref (a 1)), (1, .int (nI k)), (2, .int v)]) (by decide +kernel) rfl (Nat.le_of_ble_eq_true rfl) ?_
  intro Z hRf hRl hl hG hn hk ht hA hQ X
  subst hG hl
  have X : XC Z "NestedDeeds$Deeds" prog_4_method_7_code (some .int) := X
  have hk0 : zk Z ≤ (zR Z).cells := hk ▸ Nat.zero_le _
  have ht0 : zt Z ≤ (zR Z).slots := ht ▸ Nat.zero_le _
  refine V.aload_n X 0 dX2_add_0 rfl rfl ?_
  refine Vg_c_1_made (x := gN σ 1) X tw_100 dX2_add_1 rfl ?_
  refine V.istore_n X (lv' := [(3, .int (nI (gN σ 1))), (0, .ref (a 1)), (1, .int (nI k)), (2, .int v)]) dX2_add_4 rfl (ltn hn (by decide)) rfl ?_
  refine V.aload_n X 1 dX2_add_5 rfl rfl ?_
  refine Vg_c_1_kind X tw_78 dX2_add_6 ?_
  refine V.iload_n X 0 dX2_add_9 rfl rfl ?_
  refine V.iload_n X 2 dX2_add_10 rfl rfl ?_
  refine Vs_c_kind (f := gA σ 0) (i := gN σ 1) (x := k) X (by omega) dX2_add_11 rfl ?_
  refine V.aload_n X 1 dX2_add_12 rfl rfl ?_
  refine Vg_c_1_number X tw_86 dX2_add_13 ?_
  refine V.iload_n X 0 dX2_add_16 rfl rfl ?_
  refine V.iload_n X 3 dX2_add_17 rfl rfl ?_
  refine Vs_c_number (f := gJ σ 0) (i := gN σ 1) (x := v) X (by omega) dX2_add_18 rfl ?_
  refine V.aload_n X 1 dX2_add_19 rfl rfl ?_
  refine Vg_c_1_start X tw_94 dX2_add_20 ?_
  refine V.iload_n X 0 dX2_add_23 rfl rfl ?_
  refine V.iconst X (v := nI 1) dX2_add_24 (by decide) ?_
  refine V.iaddN X dX2_add_25 ?_
  refine V.aload_n X 1 dX2_add_26 rfl rfl ?_
  refine Vg_c_1_start X tw_94 dX2_add_27 ?_
  refine V.iload_n X 0 dX2_add_30 rfl rfl ?_
  refine Va_c_start (x := gA σ 1 (gN σ 1)) X (by omega) dX2_add_31 rfl ?_
  refine Vs_c_start (f := gA σ 1) (i := (gN σ 1) + 1) (x := gA σ 1 (gN σ 1)) X (by omega) dX2_add_32 rfl ?_
  refine V.aload_n X 1 dX2_add_33 rfl rfl ?_
  refine V.dup X dX2_add_34 rfl ?_
  refine Vg_c_1_made (x := gN σ 1) X tw_100 dX2_add_35 rfl ?_
  refine V.iconst X (v := nI 1) dX2_add_38 (by decide) ?_
  refine V.iaddN X dX2_add_39 ?_
  refine Vp_c_1_made (x := (gN σ 1) + 1) X tw_100 dX2_add_40 ?_
  refine V.iload_n X 0 dX2_add_43 rfl rfl ?_
  exact V.iret X rfl hA hk ht hQ rfl dX2_add_44 (⟨rfl, rfl⟩)

set_option maxHeartbeats 4000000 in
set_option maxRecDepth 100000 in
theorem c_addPart (l : Launch) (G : Gx) (a : Nat → Nat) (σ : St) (d p : Nat) (h1 : gN σ 1 ≤ 1500) (hd : d < gN σ 1) (hs : gA σ 1 (d + 1) ≤ gA σ 1 (gN σ 1)) (hs2 : gA σ 1 (gN σ 1) < 4000) : MM l G ⟨"NestedDeeds$Deeds", "addPart", "(II)V"⟩ prog_4_method_8_code 5 none 1 60 [.ref (a 1), .int (nI d), .int (nI p)] (cw G a σ) (fun rv w => rv = none ∧ w = cw G a (dAddP σ d p)) := by
  refine MM.of (lv := [(0, .ref (a 1)), (1, .int (nI d)), (2, .int (nI p))]) (by decide +kernel) rfl (Nat.le_of_ble_eq_true rfl) ?_
  intro Z hRf hRl hl hG hn hk ht hA hQ X
  subst hG hl
  have X : XC Z "NestedDeeds$Deeds" prog_4_method_8_code none := X
  have hk0 : zk Z ≤ (zR Z).cells := hk ▸ Nat.zero_le _
  have ht0 : zt Z ≤ (zR Z).slots := ht ▸ Nat.zero_le _
  have LP : ∀ (n i : Nat), d + 1 ≤ i → i ≤ gN σ 1 + 1 → gN σ 1 + 2 ≤ i + n → V Z (cw (zG Z) a (sA (sA σ 2 (va_up (va_cpy (gA σ 2) (gA σ 2) (gA σ 1 (d + 1)) (gA σ 1 (d + 1) + 1) (gA σ 1 (gN σ 1) - gA σ 1 (d + 1))) (gA σ 1 (d + 1)) p)) 1 (incF (gA σ 1) d i))) [(4, .int (nI i)), (3, .int (nI (gA σ 1 (d + 1)))), (0, .ref (a 1)), (1, .int (nI d)), (2, .int (nI p))] 42 [] := by
    intro n
    induction n with
    | zero => intro i h1 h2 h3; exfalso; omega
    | succ n ih =>
      intro i h1 h2 h3
      refine V.iload X 0 dX2_addPart_42 rfl ?_
      refine V.aload_n X 2 dX2_addPart_44 rfl rfl ?_
      refine Vg_c_1_made (x := gN σ 1) X tw_100 dX2_addPart_45 rfl ?_
      refine V.icmp_gtN X 68 dX2_addPart_48 (by decide) (by omega) (by omega) (fun c48 => ?_) (fun c48 => ?_)
      · exact V.vret X rfl hA hk ht hQ rfl dX2_addPart_68 (⟨rfl, by rw [show i = gN σ 1 + 1 by omega]; rfl⟩)
      · refine V.aload_n X 2 dX2_addPart_51 rfl rfl ?_
        refine Vg_c_1_start X tw_94 dX2_addPart_52 ?_
        refine V.iload X 0 dX2_addPart_55 rfl ?_
        refine V.dup2 X dX2_addPart_57 rfl rfl ?_
        refine Va_c_start (x := (incF (gA σ 1) d i) i) X (by omega) dX2_addPart_58 rfl ?_
        refine V.iconst X (v := nI 1) dX2_addPart_59 (by decide) ?_
        refine V.iaddN X dX2_addPart_60 ?_
        refine Vs_c_start (f := incF (gA σ 1) d i) (i := i) (x := ((incF (gA σ 1) d i) i) + 1) X (by omega) dX2_addPart_61 rfl ?_
        refine V.iinc X (v := nI (i + 1)) (lv' := [(4, .int (nI (i + 1))), (3, .int (nI (gA σ 1 (d + 1)))), (0, .ref (a 1)), (1, .int (nI d)), (2, .int (nI p))]) (k0 := 0) dX2_addPart_62 rfl (inc_1 _) (ltn hn (by decide)) rfl ?_
        refine V.goto X 42 dX2_addPart_65 (by decide) ?_
        refine V.eqw (ws' := cw (zG Z) a (sA (sA σ 2 (va_up (va_cpy (gA σ 2) (gA σ 2) (gA σ 1 (d + 1)) (gA σ 1 (d + 1) + 1) (gA σ 1 (gN σ 1) - gA σ 1 (d + 1))) (gA σ 1 (d + 1)) p)) 1 (incF (gA σ 1) d (i + 1)))) (by rw [sA_sA, incF_up (by omega)]) ?_
        exact V.sub [0, 1, 2, 3, 4] rfl (ih (i + 1) (by omega) (by omega) (by omega))
  refine V.aload_n X 0 dX2_addPart_0 rfl rfl ?_
  refine Vg_c_1_start X tw_94 dX2_addPart_1 ?_
  refine V.iload_n X 1 dX2_addPart_4 rfl rfl ?_
  refine V.iconst X (v := nI 1) dX2_addPart_5 (by decide) ?_
  refine V.iaddN X dX2_addPart_6 ?_
  refine Va_c_start (x := gA σ 1 (d + 1)) X (by omega) dX2_addPart_7 rfl ?_
  refine V.istore_n X (lv' := [(3, .int (nI (gA σ 1 (d + 1)))), (0, .ref (a 1)), (1, .int (nI d)), (2, .int (nI p))]) dX2_addPart_8 rfl (ltn hn (by decide)) rfl ?_
  refine V.aload_n X 1 dX2_addPart_9 rfl rfl ?_
  refine Vg_c_1_parts X tw_96 dX2_addPart_10 ?_
  refine V.iload_n X 0 dX2_addPart_13 rfl rfl ?_
  refine V.aload_n X 1 dX2_addPart_14 rfl rfl ?_
  refine Vg_c_1_parts X tw_96 dX2_addPart_15 ?_
  refine V.iload_n X 0 dX2_addPart_18 rfl rfl ?_
  refine V.iconst X (v := nI 1) dX2_addPart_19 (by decide) ?_
  refine V.iaddN X dX2_addPart_20 ?_
  refine V.aload_n X 1 dX2_addPart_21 rfl rfl ?_
  refine V.callV X rfl (c_allParts (zl Z) (zG Z) a σ (by first | assumption | exact h1)) cv_X2_31 rfl 1 rfl rfl (len hRf (by decide)) (len hRl (by decide)) hk0 ht0 [.int (nI ((gA σ 1 (d + 1)) + 1)), .ref (a 5), .int (nI (gA σ 1 (d + 1))), .ref (a 5)] rfl (Nat.le_of_ble_eq_true rfl) dX2_addPart_22 ?_
  rintro _ _ ⟨rfl, rfl⟩
  refine V.eqs (st' := [.int (nI ((gA σ 1) (gN σ 1))), .int (nI ((gA σ 1 (d + 1)) + 1)), .ref (a 5), .int (nI (gA σ 1 (d + 1))), .ref (a 5)]) rfl ?_
  refine V.iload_n X 0 dX2_addPart_25 rfl rfl ?_
  refine V.isubN X dX2_addPart_26 (by omega) ?_
  refine Vc_parts_parts (f := gA σ 2) (g := gA σ 2) (sp := gA σ 1 (d + 1)) (dp := (gA σ 1 (d + 1)) + 1) (n := ((gA σ 1) (gN σ 1)) - (gA σ 1 (d + 1))) X (by omega) (by omega) (len hRf (by decide)) (len hRl (by decide)) tw_442 dX2_addPart_27 rfl rfl ?_
  refine V.aload_n X 1 dX2_addPart_30 rfl rfl ?_
  refine Vg_c_1_parts X tw_96 dX2_addPart_31 ?_
  refine V.iload_n X 0 dX2_addPart_34 rfl rfl ?_
  refine V.iload_n X 3 dX2_addPart_35 rfl rfl ?_
  refine Vs_c_parts (f := va_cpy (gA σ 2) (gA σ 2) (gA σ 1 (d + 1)) ((gA σ 1 (d + 1)) + 1) (((gA σ 1) (gN σ 1)) - (gA σ 1 (d + 1)))) (i := gA σ 1 (d + 1)) (x := p) X (by omega) dX2_addPart_36 rfl ?_
  refine V.iload_n X 2 dX2_addPart_37 rfl rfl ?_
  refine V.iconst X (v := nI 1) dX2_addPart_38 (by decide) ?_
  refine V.iaddN X dX2_addPart_39 ?_
  refine V.istore X (lv' := [(4, .int (nI (d + 1))), (3, .int (nI (gA σ 1 (d + 1)))), (0, .ref (a 1)), (1, .int (nI d)), (2, .int (nI p))]) dX2_addPart_40 (ltn hn (by decide)) rfl ?_
  refine V.eqw (ws' := cw (zG Z) a (sA (sA σ 2 (va_up (va_cpy (gA σ 2) (gA σ 2) (gA σ 1 (d + 1)) (gA σ 1 (d + 1) + 1) (gA σ 1 (gN σ 1) - gA σ 1 (d + 1))) (gA σ 1 (d + 1)) p)) 1 (incF (gA σ 1) d (d + 1)))) (by rw [incF_0]; rfl) ?_
  exact V.sub [0, 1, 2, 3, 4] rfl (LP (gN σ 1 + 2) (d + 1) (by omega) (by omega) (by omega))

set_option maxHeartbeats 4000000 in
set_option maxRecDepth 100000 in
theorem c_bind (l : Launch) (G : Gx) (a : Nat → Nat) (σ : St) (k : Nat) (v : Int32) (n : Nat) (h1 : gN σ 1 < 1500) (h2 : n ≤ gN σ 0) (h3 : gN σ 0 ≤ 1500) (h3b : gN σ 0 - n < 1500) (h4 : gA σ 1 (gN σ 1) + n ≤ 4000) : MM l G ⟨"NestedDeeds$Deeds", "bind", "(III)V"⟩ prog_4_method_9_code 6 none 1 60 [.ref (a 1), .int (nI k), .int v, .int (nI n)] (cw G a σ) (fun rv w => rv = none ∧ w = cw G a (dBind σ k v n)) := by
  refine MM.of (lv := [(0, .ref (a 1)), (1, .int (nI k)), (2, .int v), (3, .int (nI n))]) (by decide +kernel) rfl (Nat.le_of_ble_eq_true rfl) ?_
  intro Z hRf hRl hl hG hn hk ht hA hQ X
  subst hG hl
  have X : XC Z "NestedDeeds$Deeds" prog_4_method_9_code none := X
  have hk0 : zk Z ≤ (zR Z).cells := hk ▸ Nat.zero_le _
  have ht0 : zt Z ≤ (zR Z).slots := ht ▸ Nat.zero_le _
  refine V.aload_n X 0 dX2_bind_0 rfl rfl ?_
  refine V.iload_n X 1 dX2_bind_1 rfl rfl ?_
  refine V.iload_n X 2 dX2_bind_2 rfl rfl ?_
  refine V.callV X rfl (c_add (zl Z) (zG Z) a σ k v (by omega)) cv_X2_41 rfl 1 rfl rfl (len hRf (by decide)) (len hRl (by decide)) hk0 ht0 [] rfl (Nat.le_of_ble_eq_true rfl) dX2_bind_3 ?_
  rintro _ _ ⟨rfl, rfl⟩
  refine V.eqs (st' := [.int (nI (gN σ 1))]) rfl ?_
  refine V.istore X (lv' := [(4, .int (nI (gN σ 1))), (0, .ref (a 1)), (1, .int (nI k)), (2, .int v), (3, .int (nI n))]) dX2_bind_6 (ltn hn (by decide)) rfl ?_
  refine V.aload_n X 1 dX2_bind_8 rfl rfl ?_
  refine Vg_c_1_looseCount (x := gN σ 0) X tw_99 dX2_bind_9 rfl ?_
  refine V.iload_n X 4 dX2_bind_12 rfl rfl ?_
  refine V.isubN X dX2_bind_13 (by omega) ?_
  refine V.istore X (lv' := [(5, .int (nI ((gN σ 0) - n))), (4, .int (nI (gN σ 1))), (0, .ref (a 1)), (1, .int (nI k)), (2, .int v), (3, .int (nI n))]) dX2_bind_14 (ltn hn (by decide)) rfl ?_
  refine V.aload_n X 2 dX2_bind_16 rfl rfl ?_
  refine Vg_c_1_loose X tw_98 dX2_bind_17 ?_
  refine V.iload X 0 dX2_bind_20 rfl ?_
  refine V.aload_n X 2 dX2_bind_22 rfl rfl ?_
  refine Vg_c_1_parts X tw_96 dX2_bind_23 ?_
  refine V.aload_n X 2 dX2_bind_26 rfl rfl ?_
  refine Vg_c_1_start X tw_94 dX2_bind_27 ?_
  refine V.iload X 1 dX2_bind_30 rfl ?_
  refine Va_c_start (x := (va_up (gA σ 1) ((gN σ 1) + 1) ((gA σ 1) (gN σ 1))) (gN σ 1)) X (by omega) dX2_bind_32 rfl ?_
  refine V.iload_n X 5 dX2_bind_33 rfl rfl ?_
  refine Vc_loose_parts (f := gA σ 3) (g := gA σ 2) (sp := (gN σ 0) - n) (dp := (va_up (gA σ 1) ((gN σ 1) + 1) ((gA σ 1) (gN σ 1))) (gN σ 1)) (n := n) X (by omega) (by rw [va_up_ne _ _ (show gN σ 1 ≠ gN σ 1 + 1 by omega)]; omega) (len hRf (by decide)) (len hRl (by decide)) tw_442 dX2_bind_34 rfl rfl ?_
  refine V.aload_n X 2 dX2_bind_37 rfl rfl ?_
  refine Vg_c_1_start X tw_94 dX2_bind_38 ?_
  refine V.iload X 1 dX2_bind_41 rfl ?_
  refine V.iconst X (v := nI 1) dX2_bind_43 (by decide) ?_
  refine V.iaddN X dX2_bind_44 ?_
  refine V.dup2 X dX2_bind_45 rfl rfl ?_
  refine Va_c_start (x := (va_up (gA σ 1) ((gN σ 1) + 1) ((gA σ 1) (gN σ 1))) ((gN σ 1) + 1)) X (by omega) dX2_bind_46 rfl ?_
  refine V.iload_n X 5 dX2_bind_47 rfl rfl ?_
  refine V.iaddN X dX2_bind_48 ?_
  refine Vs_c_start (f := va_up (gA σ 1) ((gN σ 1) + 1) ((gA σ 1) (gN σ 1))) (i := (gN σ 1) + 1) (x := ((va_up (gA σ 1) ((gN σ 1) + 1) ((gA σ 1) (gN σ 1))) ((gN σ 1) + 1)) + n) X (by omega) dX2_bind_49 rfl ?_
  refine V.aload_n X 2 dX2_bind_50 rfl rfl ?_
  refine Vg_c_1_loose X tw_98 dX2_bind_51 ?_
  refine V.iload X 0 dX2_bind_54 rfl ?_
  refine V.iload X 1 dX2_bind_56 rfl ?_
  refine Vs_c_loose (f := gA σ 3) (i := (gN σ 0) - n) (x := gN σ 1) X (by omega) dX2_bind_58 rfl ?_
  refine V.aload_n X 2 dX2_bind_59 rfl rfl ?_
  refine V.iload X 0 dX2_bind_60 rfl ?_
  refine V.iconst X (v := nI 1) dX2_bind_62 (by decide) ?_
  refine V.iaddN X dX2_bind_63 ?_
  refine Vp_c_1_looseCount (x := ((gN σ 0) - n) + 1) X tw_99 dX2_bind_64 ?_
  exact V.vret X rfl hA hk ht hQ rfl dX2_bind_67 (⟨rfl, by rw [va_up_self, va_up_ne _ _ (show gN σ 1 ≠ gN σ 1 + 1 by omega)]; rfl⟩)

set_option maxHeartbeats 4000000 in
set_option maxRecDepth 100000 in
theorem c_takeBound (l : Launch) (G : Gx) (a : Nat → Nat) (σ : St)  : MM l G ⟨"NestedDeeds$Deeds", "takeBound", "()I"⟩ prog_4_method_10_code 1 (some .int) 0 0 [.ref (a 1)] (cw G a σ) (fun rv w => rv = some (.int (nI (gA σ 3 0))) ∧ w = cw G a (sN σ 0 0)) := by
  refine MM.of (lv := [(0, .ref (a 1))]) (by decide +kernel) rfl (Nat.le_of_ble_eq_true rfl) ?_
  intro Z hRf hRl hl hG hn hk ht hA hQ X
  subst hG hl
  have X : XC Z "NestedDeeds$Deeds" prog_4_method_10_code (some .int) := X
  have hk0 : zk Z ≤ (zR Z).cells := hk ▸ Nat.zero_le _
  have ht0 : zt Z ≤ (zR Z).slots := ht ▸ Nat.zero_le _
  refine V.aload_n X 0 dX2_takeBound_0 rfl rfl ?_
  refine V.iconst X (v := nI 0) dX2_takeBound_1 (by decide) ?_
  refine Vp_c_1_looseCount (x := 0) X tw_99 dX2_takeBound_2 ?_
  refine V.aload_n X 0 dX2_takeBound_5 rfl rfl ?_
  refine Vg_c_1_loose X tw_98 dX2_takeBound_6 ?_
  refine V.iconst X (v := nI 0) dX2_takeBound_9 (by decide) ?_
  refine Va_c_loose (x := gA σ 3 0) X (by omega) dX2_takeBound_10 rfl ?_
  exact V.iret X rfl hA hk ht hQ rfl dX2_takeBound_11 (⟨rfl, rfl⟩)

