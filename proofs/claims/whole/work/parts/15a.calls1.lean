theorem hasD_out {n : Nat} {x : Int32} (hn : n < 2 ^ 31) (h : hasD n x = false) : x.toInt < 0 ∨ (n : Int) ≤ x.toInt := by
  simp only [hasD, decide_eq_false_iff_not, Int32.le_iff_toInt_le, Int32.lt_iff_toInt_lt, nI_toInt hn, Int32.toInt_zero] at h
  omega
def inR (x lo hi : Int32) : Bool := decide (lo ≤ x ∧ x ≤ hi)
theorem inR_nat {x : Int32} {lo hi : Nat} (hh : hi < 2 ^ 31) (hl : lo ≤ hi) (h : inR x (nI lo) (nI hi) = true) : ∃ j, lo ≤ j ∧ j ≤ hi ∧ x = nI j := by
  simp only [inR, decide_eq_true_eq, Int32.le_iff_toInt_le, nI_toInt hh, nI_toInt (show lo < 2 ^ 31 by omega)] at h
  obtain ⟨j, h1, h2⟩ := nI_of (x := x) (by rw [Int32.lt_iff_toInt_lt, Int32.toInt_zero]; omega)
  subst h2
  rw [nI_toInt h1] at h
  exact ⟨j, by omega, by omega, rfl⟩
theorem inR_f1 {x lo hi : Int32} (h : x < lo) : inR x lo hi = false := by simp only [inR, decide_eq_false_iff_not]; exact fun q => absurd q.1 (Int32.not_le.mpr h)
theorem inR_f2 {x lo hi : Int32} (h : hi < x) : inR x lo hi = false := by simp only [inR, decide_eq_false_iff_not]; exact fun q => absurd q.2 (Int32.not_le.mpr h)
theorem inR_t {x lo hi : Int32} (h1 : ¬ x < lo) (h : ¬ hi < x) : inR x lo hi = true := by simp only [inR, decide_eq_true_eq]; exact ⟨Int32.not_lt.mp h1, Int32.not_lt.mp h⟩
/-- Deeds' rows as they ought to be -/
def DOK (σ : St) : Prop := gN σ 1 ≤ 1500 ∧ gA σ 1 (gN σ 1) ≤ 4000 ∧ ∀ d, d < gN σ 1 → OKd σ d ∧ gA σ 1 (d + 1) ≤ gA σ 1 (gN σ 1)

set_option maxHeartbeats 4000000 in
set_option maxRecDepth 100000 in
theorem n_deed (l : Launch) (G : Gx) (a : Nat → Nat) (σ : St) (k v : Int32) (hD : DOK σ) : MM l G ⟨"NestedDeeds", "deed", "(II)I"⟩ prog_1_method_2_code 3 (some .int) 2 42 [.ref (a 0), .int k, .int v] (cw G a σ) (fun rv w => rv = some (.int (if hasD 12 k = true then (if gN σ 1 < 1500 then nI (gN σ 1) else -4) else -2)) ∧ w = cw G a (if hasD 12 k = true then (if gN σ 1 < 1500 then dAdd σ k.toNatClampNeg v else σ) else σ)) := by
  refine MM.of (lv := [(0, .ref (a 0)), (1, .int k), (2, .int v)]) (by decide +kernel) rfl (Nat.le_of_ble_eq_true rfl) ?_
  intro Z hRf hRl hl hG hn hk ht hA hQ X
  subst hG hl
  have X : XC Z "NestedDeeds" prog_1_method_2_code (some .int) := X
  have hk0 : zk Z ≤ (zR Z).cells := hk ▸ Nat.zero_le _
  have ht0 : zt Z ≤ (zR Z).slots := ht ▸ Nat.zero_le _
  obtain ⟨h1, h2, h3⟩ := hD
  refine V.iload_n X 1 dX11_deed_0 rfl rfl ?_
  refine V.callS X rfl (k_isKind (zl Z) (zG Z) (cw (zG Z) a σ) k) cs_X11_101 rfl (len hRf (by decide)) (len hRl (by decide)) hk0 ht0 [] rfl (Nat.le_of_ble_eq_true rfl) dX11_deed_1 ?_
  rintro _ _ ⟨rfl, rfl⟩
  refine V.eqs (st' := [.int (bI (hasD 12 k))]) rfl ?_
  refine V.if_neB X 10 dX11_deed_4 (by decide) (fun c4 => ?_) (fun c4 => ?_)
  · refine V.aload_n X 0 dX11_deed_10 rfl rfl ?_
    refine Vg_c_0_deeds X tw_371 dX11_deed_11 ?_
    refine V.iconst X (v := nI 1) dX11_deed_14 (by decide) ?_
    refine V.iconst X (v := nI 0) dX11_deed_15 (by decide) ?_
    refine V.callV X rfl (c_hasRoom (zl Z) (zG Z) a σ 1 0 (by exact h1) (by exact h2) (by omega) (by omega)) cv_X11_105 rfl 1 rfl rfl (len hRf (by decide)) (len hRl (by decide)) hk0 ht0 [] rfl (Nat.le_of_ble_eq_true rfl) dX11_deed_16 ?_
    rintro _ _ ⟨rfl, rfl⟩
    refine V.eqs (st' := [.int (bI (decide ((gN σ 1) + 1 ≤ 1500 ∧ (gA σ 1) (gN σ 1) + 0 ≤ 4000)))]) rfl ?_
    refine V.if_eqB X 34 dX11_deed_19 (by decide) (fun c19 => ?_) (fun c19 => ?_)
    · refine V.bipush X (v := (-4)) dX11_deed_34 (by decide) ?_
      exact V.iret X rfl hA hk ht hQ rfl dX11_deed_36 (⟨by rw [if_pos c4, if_neg (fun q => by rw [decide_eq_true (show gN σ 1 + 1 ≤ 1500 ∧ gA σ 1 (gN σ 1) + 0 ≤ 4000 by omega)] at c19; cases c19)], by rw [if_pos c4, if_neg (fun q => by rw [decide_eq_true (show gN σ 1 + 1 ≤ 1500 ∧ gA σ 1 (gN σ 1) + 0 ≤ 4000 by omega)] at c19; cases c19)]⟩)
    · have hroom : gN σ 1 < 1500 := by have := of_decide_eq_true c19; omega
      obtain ⟨k2, hk2, rfl⟩ := hasD_t (by decide) c4
      refine V.aload_n X 0 dX11_deed_22 rfl rfl ?_
      refine Vg_c_0_deeds X tw_371 dX11_deed_23 ?_
      refine V.iload_n X 1 dX11_deed_26 rfl rfl ?_
      refine V.iload_n X 2 dX11_deed_27 rfl rfl ?_
      refine V.callV X rfl (c_add (zl Z) (zG Z) a σ k2 v (by exact hroom)) cv_X11_109 rfl 1 rfl rfl (len hRf (by decide)) (len hRl (by decide)) hk0 ht0 [] rfl (Nat.le_of_ble_eq_true rfl) dX11_deed_28 ?_
      rintro _ _ ⟨rfl, rfl⟩
      refine V.eqs (st' := [.int (nI (gN σ 1))]) rfl ?_
      refine V.goto X 36 dX11_deed_31 (by decide) ?_
      exact V.iret X rfl hA hk ht hQ rfl dX11_deed_36 (⟨by rw [if_pos c4, if_pos hroom], by rw [if_pos c4, if_pos hroom, nI_clamp (by omega)]⟩)
  · refine V.bipush X (v := (-2)) dX11_deed_7 (by decide) ?_
    exact V.iret X rfl hA hk ht hQ rfl dX11_deed_9 (⟨by rw [if_neg (show ¬ hasD 12 k = true by rw [c4]; decide)], by rw [if_neg (show ¬ hasD 12 k = true by rw [c4]; decide)]⟩)

set_option maxHeartbeats 4000000 in
set_option maxRecDepth 100000 in
theorem n_way (l : Launch) (G : Gx) (a : Nat → Nat) (σ : St) (x : Int32) : MM l G ⟨"NestedDeeds", "way", "(I)I"⟩ prog_1_method_6_code 3 (some .int) 0 0 [.ref (a 0), .int x] (cw G a σ) (fun rv w => rv = some (.int (if inR x (nI 0) (nI 3) = true then nI (gN σ 7) else -2)) ∧ w = cw G a (if inR x (nI 0) (nI 3) = true then sN σ 7 x.toNatClampNeg else σ)) := by
  refine MM.of (lv := [(0, .ref (a 0)), (1, .int x)]) (by decide +kernel) rfl (Nat.le_of_ble_eq_true rfl) ?_
  intro Z hRf hRl hl hG hn hk ht hA hQ X
  subst hG hl
  have X : XC Z "NestedDeeds" prog_1_method_6_code (some .int) := X
  have hk0 : zk Z ≤ (zR Z).cells := hk ▸ Nat.zero_le _
  have ht0 : zt Z ≤ (zR Z).slots := ht ▸ Nat.zero_le _
  refine V.iload_n X 1 dX11_way_0 rfl rfl ?_
  refine V.if_lt X 9 dX11_way_1 (by decide) (fun c1 => ?_) (fun c1 => ?_)
  · refine V.bipush X (v := (-2)) dX11_way_9 (by decide) ?_
    exact V.iret X rfl hA hk ht hQ rfl dX11_way_11 (⟨by rw [inR_f1 (lo := nI 0) c1]; rfl, by rw [inR_f1 (lo := nI 0) c1]; rfl⟩)
  · refine V.iload_n X 1 dX11_way_4 rfl rfl ?_
    refine V.iconst X (v := nI 3) dX11_way_5 (by decide) ?_
    refine V.icmp_le X 12 dX11_way_6 (by decide) (fun c6 => ?_) (fun c6 => ?_)
    · obtain ⟨j, hj1, hj2, rfl⟩ := inR_nat (lo := 0) (hi := 3) (by decide) (by decide) (inR_t (lo := nI 0) c1 (Int32.not_lt.mpr c6))
      refine V.aload_n X 0 dX11_way_12 rfl rfl ?_
      refine Vg_c_0_walker X tw_375 dX11_way_13 ?_
      refine Vg_c_15_way (x := gN σ 7) X tw_327 dX11_way_16 rfl ?_
      refine V.istore_n X (lv' := [(2, .int (nI (gN σ 7))), (0, .ref (a 0)), (1, .int (nI j))]) dX11_way_19 rfl (ltn hn (by decide)) rfl ?_
      refine V.aload_n X 1 dX11_way_20 rfl rfl ?_
      refine Vg_c_0_walker X tw_375 dX11_way_21 ?_
      refine V.iload_n X 2 dX11_way_24 rfl rfl ?_
      refine Vp_c_15_way (x := j) X tw_327 dX11_way_25 ?_
      refine V.iload_n X 0 dX11_way_28 rfl rfl ?_
      exact V.iret X rfl hA hk ht hQ rfl dX11_way_29 (⟨by rw [inR_t (lo := nI 0) c1 (Int32.not_lt.mpr c6)]; rfl, by rw [inR_t (lo := nI 0) c1 (Int32.not_lt.mpr c6), nI_clamp (by omega)]; rfl⟩)
    · refine V.bipush X (v := (-2)) dX11_way_9 (by decide) ?_
      exact V.iret X rfl hA hk ht hQ rfl dX11_way_11 (⟨by rw [inR_f2 (Int32.not_le.mp c6)]; rfl, by rw [inR_f2 (Int32.not_le.mp c6)]; rfl⟩)

set_option maxHeartbeats 4000000 in
set_option maxRecDepth 100000 in
theorem n_meter (l : Launch) (G : Gx) (a : Nat → Nat) (σ : St) (x : Int32) : MM l G ⟨"NestedDeeds", "meter", "(I)I"⟩ prog_1_method_7_code 3 (some .int) 0 0 [.ref (a 0), .int x] (cw G a σ) (fun rv w => rv = some (.int (if inR x (nI 1) (nI 300) = true then nI (gN σ 8) else -2)) ∧ w = cw G a (if inR x (nI 1) (nI 300) = true then sN σ 8 x.toNatClampNeg else σ)) := by
  refine MM.of (lv := [(0, .ref (a 0)), (1, .int x)]) (by decide +kernel) rfl (Nat.le_of_ble_eq_true rfl) ?_
  intro Z hRf hRl hl hG hn hk ht hA hQ X
  subst hG hl
  have X : XC Z "NestedDeeds" prog_1_method_7_code (some .int) := X
  have hk0 : zk Z ≤ (zR Z).cells := hk ▸ Nat.zero_le _
  have ht0 : zt Z ≤ (zR Z).slots := ht ▸ Nat.zero_le _
  refine V.iload_n X 1 dX11_meter_0 rfl rfl ?_
  refine V.iconst X (v := nI 1) dX11_meter_1 (by decide) ?_
  refine V.icmp_lt X 12 dX11_meter_2 (by decide) (fun c2 => ?_) (fun c2 => ?_)
  · refine V.bipush X (v := (-2)) dX11_meter_12 (by decide) ?_
    exact V.iret X rfl hA hk ht hQ rfl dX11_meter_14 (⟨by rw [inR_f1 (lo := nI 1) c2]; rfl, by rw [inR_f1 (lo := nI 1) c2]; rfl⟩)
  · refine V.iload_n X 1 dX11_meter_5 rfl rfl ?_
    refine V.sipush X (v := nI 300) dX11_meter_6 (by decide) ?_
    refine V.icmp_le X 15 dX11_meter_9 (by decide) (fun c9 => ?_) (fun c9 => ?_)
    · obtain ⟨j, hj1, hj2, rfl⟩ := inR_nat (lo := 1) (hi := 300) (by decide) (by decide) (inR_t (lo := nI 1) c2 (Int32.not_lt.mpr c9))
      refine V.aload_n X 0 dX11_meter_15 rfl rfl ?_
      refine Vg_c_0_walker X tw_375 dX11_meter_16 ?_
      refine Vg_c_15_meter (x := gN σ 8) X tw_329 dX11_meter_19 rfl ?_
      refine V.istore_n X (lv' := [(2, .int (nI (gN σ 8))), (0, .ref (a 0)), (1, .int (nI j))]) dX11_meter_22 rfl (ltn hn (by decide)) rfl ?_
      refine V.aload_n X 1 dX11_meter_23 rfl rfl ?_
      refine Vg_c_0_walker X tw_375 dX11_meter_24 ?_
      refine V.iload_n X 2 dX11_meter_27 rfl rfl ?_
      refine Vp_c_15_meter (x := j) X tw_329 dX11_meter_28 ?_
      refine V.iload_n X 0 dX11_meter_31 rfl rfl ?_
      exact V.iret X rfl hA hk ht hQ rfl dX11_meter_32 (⟨by rw [inR_t (lo := nI 1) c2 (Int32.not_lt.mpr c9)]; rfl, by rw [inR_t (lo := nI 1) c2 (Int32.not_lt.mpr c9), nI_clamp (by omega)]; rfl⟩)
    · refine V.bipush X (v := (-2)) dX11_meter_12 (by decide) ?_
      exact V.iret X rfl hA hk ht hQ rfl dX11_meter_14 (⟨by rw [inR_f2 (Int32.not_le.mp c9)]; rfl, by rw [inR_f2 (Int32.not_le.mp c9)]; rfl⟩)

set_option maxHeartbeats 4000000 in
set_option maxRecDepth 100000 in
theorem n_answer (l : Launch) (G : Gx) (a : Nat → Nat) (σ : St)  : MM l G ⟨"NestedDeeds", "answer", "()I"⟩ prog_1_method_26_code 1 (some .int) 0 0 [.ref (a 0)] (cw G a σ) (fun rv w => rv = some (.int (gI σ 2)) ∧ w = cw G a σ) := by
  refine MM.of (lv := [(0, .ref (a 0))]) (by decide +kernel) rfl (Nat.le_of_ble_eq_true rfl) ?_
  intro Z hRf hRl hl hG hn hk ht hA hQ X
  subst hG hl
  have X : XC Z "NestedDeeds" prog_1_method_26_code (some .int) := X
  have hk0 : zk Z ≤ (zR Z).cells := hk ▸ Nat.zero_le _
  have ht0 : zt Z ≤ (zR Z).slots := ht ▸ Nat.zero_le _
  refine V.aload_n X 0 dX11_answer_0 rfl rfl ?_
  refine Vg_c_0_walker X tw_375 dX11_answer_1 ?_
  refine Vg_c_15_outcome (x := gI σ 2) X tw_331 dX11_answer_4 rfl ?_
  exact V.iret X rfl hA hk ht hQ rfl dX11_answer_7 (⟨rfl, rfl⟩)

set_option maxHeartbeats 4000000 in
set_option maxRecDepth 100000 in
theorem n_tear (l : Launch) (G : Gx) (a : Nat → Nat) (σ : St)  : MM l G ⟨"NestedDeeds", "tear", "()I"⟩ prog_1_method_23_code 2 (some .int) 1 20 [.ref (a 0)] (cw G a σ) (fun rv w => rv = some (.int (nI (gN σ 2))) ∧ w = cw G a (sB (sN σ 2 0) 0 false)) := by
  refine MM.of (lv := [(0, .ref (a 0))]) (by decide +kernel) rfl (Nat.le_of_ble_eq_true rfl) ?_
  intro Z hRf hRl hl hG hn hk ht hA hQ X
  subst hG hl
  have X : XC Z "NestedDeeds" prog_1_method_23_code (some .int) := X
  have hk0 : zk Z ≤ (zR Z).cells := hk ▸ Nat.zero_le _
  have ht0 : zt Z ≤ (zR Z).slots := ht ▸ Nat.zero_le _
  refine V.aload_n X 0 dX11_tear_0 rfl rfl ?_
  refine Vg_c_0_paper X tw_372 dX11_tear_1 ?_
  refine Vg_c_7_length (x := gN σ 2) X tw_127 dX11_tear_4 rfl ?_
  refine V.istore_n X (lv' := [(1, .int (nI (gN σ 2))), (0, .ref (a 0))]) dX11_tear_7 rfl (ltn hn (by decide)) rfl ?_
  refine V.aload_n X 1 dX11_tear_8 rfl rfl ?_
  refine Vg_c_0_paper X tw_372 dX11_tear_9 ?_
  refine V.callV X rfl (c_clearP (zl Z) (zG Z) a σ) cv_X11_168 rfl 7 rfl rfl (len hRf (by decide)) (len hRl (by decide)) hk0 ht0 [] rfl (Nat.le_of_ble_eq_true rfl) dX11_tear_12 ?_
  rintro _ _ ⟨rfl, rfl⟩
  refine V.eqs (st' := []) rfl ?_
  refine V.iload_n X 0 dX11_tear_15 rfl rfl ?_
  exact V.iret X rfl hA hk ht hQ rfl dX11_tear_16 (⟨rfl, rfl⟩)

set_option maxHeartbeats 4000000 in
set_option maxRecDepth 100000 in
theorem n_byteAt (l : Launch) (G : Gx) (a : Nat → Nat) (σ : St) (i : Int32) (hl1 : gN σ 2 ≤ 6000) (hl2 : ∀ j, j < gN σ 2 → gA σ 12 j < 256) : MM l G ⟨"NestedDeeds", "byteAt", "(I)I"⟩ prog_1_method_24_code 2 (some .int) 1 21 [.ref (a 0), .int i] (cw G a σ) (fun rv w => rv = some (.int (if hasD (gN σ 2) i = true then nI (gA σ 12 i.toNatClampNeg) else -1)) ∧ w = cw G a σ) := by
  refine MM.of (lv := [(0, .ref (a 0)), (1, .int i)]) (by decide +kernel) rfl (Nat.le_of_ble_eq_true rfl) ?_
  intro Z hRf hRl hl hG hn hk ht hA hQ X
  subst hG hl
  have X : XC Z "NestedDeeds" prog_1_method_24_code (some .int) := X
  have hk0 : zk Z ≤ (zR Z).cells := hk ▸ Nat.zero_le _
  have ht0 : zt Z ≤ (zR Z).slots := ht ▸ Nat.zero_le _
  refine V.aload_n X 0 dX11_byteAt_0 rfl rfl ?_
  refine Vg_c_0_paper X tw_372 dX11_byteAt_1 ?_
  refine V.iload_n X 1 dX11_byteAt_4 rfl rfl ?_
  refine V.callV X rfl (c_atRP (zl Z) (zG Z) a σ i (by assumption) (by assumption)) cv_X11_210 rfl 7 rfl rfl (len hRf (by decide)) (len hRl (by decide)) hk0 ht0 [] rfl (Nat.le_of_ble_eq_true rfl) dX11_byteAt_5 ?_
  rintro _ _ ⟨rfl, rfl⟩
  refine V.eqs (st' := [.int (if hasD (gN σ 2) i = true then nI ((gA σ 12) (Int32.toNatClampNeg i)) else -1)]) rfl ?_
  exact V.iret X rfl hA hk ht hQ rfl dX11_byteAt_8 (⟨rfl, rfl⟩)

def cntF (σ : St) (q : Nat) : Nat := if q = 0 then gN σ 1 else if q = 1 then gA σ 1 (gN σ 1) else if q = 2 then gN σ 2 else if q = 3 then gN σ 9 else gN σ 11
set_option maxHeartbeats 4000000 in
set_option maxRecDepth 100000 in
theorem n_count (l : Launch) (G : Gx) (a : Nat → Nat) (σ : St) (x : Int32) (h1 : gN σ 1 ≤ 1500) : MM l G ⟨"NestedDeeds", "count", "(I)I"⟩ prog_1_method_27_code 2 (some .int) 1 20 [.ref (a 0), .int x] (cw G a σ) (fun rv w => rv = some (.int (if hasD 5 x = true then nI (cntF σ x.toNatClampNeg) else -2)) ∧ w = cw G a σ) := by
  refine MM.of (lv := [(0, .ref (a 0)), (1, .int x)]) (by decide +kernel) rfl (Nat.le_of_ble_eq_true rfl) ?_
  intro Z hRf hRl hl hG hn hk ht hA hQ X
  subst hG hl
  have X : XC Z "NestedDeeds" prog_1_method_27_code (some .int) := X
  have hk0 : zk Z ≤ (zR Z).cells := hk ▸ Nat.zero_le _
  have ht0 : zt Z ≤ (zR Z).slots := ht ▸ Nat.zero_le _
  refine V.iload_n X 1 dX11_count_0 rfl rfl ?_
  rcases hq : hasD 5 x with _ | _
  · refine V.tableOut X 76 dX11_count_1 (by have := hasD_out (by decide) hq; omega) (by decide) ?_
    refine V.bipush X (v := (-2)) dX11_count_76 (by decide) ?_
    exact V.iret X rfl hA hk ht hQ rfl dX11_count_78 (⟨by rw [if_neg (by rw [hq]; decide)], rfl⟩)
  · obtain ⟨q, hq2, hqe⟩ := hasD_t (by decide) hq
    refine V.topi hqe ?_
    rcases (show q = 0 ∨ q = 1 ∨ q = 2 ∨ q = 3 ∨ q = 4 ∨ (q ≠ 0 ∧ q ≠ 1 ∧ q ≠ 2 ∧ q ≠ 3 ∧ q ≠ 4) by omega) with s1 | s1 | s1 | s1 | s1 | s1
    · refine V.topi (y := nI 0) (by rw [s1]) (V.tableIn X 36 dX11_count_1 (by decide) (by decide) rfl (by decide) ?_)
      refine V.aload_n X 0 dX11_count_36 rfl rfl ?_
      refine Vg_c_0_deeds X tw_371 dX11_count_37 ?_
      refine Vg_c_1_made (x := gN σ 1) X tw_101 dX11_count_40 rfl ?_
      exact V.iret X rfl hA hk ht hQ rfl dX11_count_43 (⟨by rw [if_pos hq, show x.toNatClampNeg = q by rw [hqe, nI_clamp (by omega)], s1]; rfl, rfl⟩)
    · refine V.topi (y := nI 1) (by rw [s1]) (V.tableIn X 44 dX11_count_1 (by decide) (by decide) rfl (by decide) ?_)
      refine V.aload_n X 0 dX11_count_44 rfl rfl ?_
      refine Vg_c_0_deeds X tw_371 dX11_count_45 ?_
      refine V.callV X rfl (c_allParts (zl Z) (zG Z) a σ (by first | assumption | exact h1)) cv_X11_226 rfl 1 rfl rfl (len hRf (by decide)) (len hRl (by decide)) hk0 ht0 [] rfl (Nat.le_of_ble_eq_true rfl) dX11_count_48 ?_
      rintro _ _ ⟨rfl, rfl⟩
      refine V.eqs (st' := [.int (nI ((gA σ 1) (gN σ 1)))]) rfl ?_
      exact V.iret X rfl hA hk ht hQ rfl dX11_count_51 (⟨by rw [if_pos hq, show x.toNatClampNeg = q by rw [hqe, nI_clamp (by omega)], s1]; rfl, rfl⟩)
    · refine V.topi (y := nI 2) (by rw [s1]) (V.tableIn X 52 dX11_count_1 (by decide) (by decide) rfl (by decide) ?_)
      refine V.aload_n X 0 dX11_count_52 rfl rfl ?_
      refine Vg_c_0_paper X tw_372 dX11_count_53 ?_
      refine Vg_c_7_length (x := gN σ 2) X tw_127 dX11_count_56 rfl ?_
      exact V.iret X rfl hA hk ht hQ rfl dX11_count_59 (⟨by rw [if_pos hq, show x.toNatClampNeg = q by rw [hqe, nI_clamp (by omega)], s1]; rfl, rfl⟩)
    · refine V.topi (y := nI 3) (by rw [s1]) (V.tableIn X 60 dX11_count_1 (by decide) (by decide) rfl (by decide) ?_)
      refine V.aload_n X 0 dX11_count_60 rfl rfl ?_
      refine Vg_c_0_walker X tw_375 dX11_count_61 ?_
      refine Vg_c_15_visited (x := gN σ 9) X tw_333 dX11_count_64 rfl ?_
      exact V.iret X rfl hA hk ht hQ rfl dX11_count_67 (⟨by rw [if_pos hq, show x.toNatClampNeg = q by rw [hqe, nI_clamp (by omega)], s1]; rfl, rfl⟩)
    · refine V.topi (y := nI 4) (by rw [s1]) (V.tableIn X 68 dX11_count_1 (by decide) (by decide) rfl (by decide) ?_)
      refine V.aload_n X 0 dX11_count_68 rfl rfl ?_
      refine Vg_c_0_walker X tw_375 dX11_count_69 ?_
      refine Vg_c_15_calls (x := gN σ 11) X tw_337 dX11_count_72 rfl ?_
      exact V.iret X rfl hA hk ht hQ rfl dX11_count_75 (⟨by rw [if_pos hq, show x.toNatClampNeg = q by rw [hqe, nI_clamp (by omega)], s1]; rfl, rfl⟩)
    · refine V.tabOutN X 76 dX11_count_1 (by omega) (by omega) (by decide) ?_
      refine V.bipush X (v := (-2)) dX11_count_76 (by decide) ?_
      exact V.iret X rfl hA hk ht hQ rfl dX11_count_78 (⟨by exfalso; omega, rfl⟩)

def ofF (σ : St) (d q : Nat) : Int32 := if q = 0 then nI (gA σ 0 d) else if q = 1 then nI (npt σ d) else gJ σ 0 d
set_option maxHeartbeats 4000000 in
set_option maxRecDepth 100000 in
theorem n_of (l : Launch) (G : Gx) (a : Nat → Nat) (σ : St) (d x : Int32) (hD : DOK σ) : MM l G ⟨"NestedDeeds", "of", "(II)I"⟩ prog_1_method_8_code 3 (some .int) 1 21 [.ref (a 0), .int d, .int x] (cw G a σ) (fun rv w => rv = some (.int (if hasD (gN σ 1) d = true ∧ hasD 3 x = true then ofF σ d.toNatClampNeg x.toNatClampNeg else -2147483648)) ∧ w = cw G a σ) := by
  refine MM.of (lv := [(0, .ref (a 0)), (1, .int d), (2, .int x)]) (by decide +kernel) rfl (Nat.le_of_ble_eq_true rfl) ?_
  intro Z hRf hRl hl hG hn hk ht hA hQ X
  subst hG hl
  have X : XC Z "NestedDeeds" prog_1_method_8_code (some .int) := X
  have hk0 : zk Z ≤ (zR Z).cells := hk ▸ Nat.zero_le _
  have ht0 : zt Z ≤ (zR Z).slots := ht ▸ Nat.zero_le _
  obtain ⟨h1, h2, h3⟩ := hD
  refine V.aload_n X 0 dX11_of_0 rfl rfl ?_
  refine Vg_c_0_deeds X tw_371 dX11_of_1 ?_
  refine V.iload_n X 1 dX11_of_4 rfl rfl ?_
  refine V.callV X rfl (c_has (zl Z) (zG Z) a σ d) cv_X11_113 rfl 1 rfl rfl (len hRf (by decide)) (len hRl (by decide)) hk0 ht0 [] rfl (Nat.le_of_ble_eq_true rfl) dX11_of_5 ?_
  rintro _ _ ⟨rfl, rfl⟩
  refine V.eqs (st' := [.int (bI (hasD (gN σ 1) d))]) rfl ?_
  refine V.if_neB X 14 dX11_of_8 (by decide) (fun c8 => ?_) (fun c8 => ?_)
  · obtain ⟨j, hj, rfl⟩ := hasD_t (by omega) c8
    obtain ⟨⟨hd1, hd2, hd3, hd4⟩, hd5⟩ := h3 j hj
    refine V.iload_n X 2 dX11_of_14 rfl rfl ?_
    rcases hq : hasD 3 x with _ | _
    · refine V.tableOut X 69 dX11_of_15 (by have := hasD_out (by decide) hq; omega) (by decide) ?_
      refine V.ldc X dX11_of_69 tw_469 ?_
      exact V.iret X rfl hA hk ht hQ rfl dX11_of_71 (⟨by rw [if_neg (fun z => by rw [z.2] at hq; cases hq)], rfl⟩)
    · obtain ⟨q, hq2, hqe⟩ := hasD_t (by decide) hq
      refine V.topi hqe ?_
      rcases (show q = 0 ∨ q = 1 ∨ q = 2 ∨ (q ≠ 0 ∧ q ≠ 1 ∧ q ≠ 2) by omega) with s15 | s15 | s15 | s15
      · refine V.topi (y := nI 0) (by rw [s15]) (V.tableIn X 40 dX11_of_15 (by decide) (by decide) rfl (by decide) ?_)
        refine V.aload_n X 0 dX11_of_40 rfl rfl ?_
        refine Vg_c_0_deeds X tw_371 dX11_of_41 ?_
        refine Vg_c_1_kind X tw_85 dX11_of_44 ?_
        refine V.iload_n X 1 dX11_of_47 rfl rfl ?_
        refine Va_c_kind (x := gA σ 0 j) X (by omega) dX11_of_48 rfl ?_
        exact V.iret X rfl hA hk ht hQ rfl dX11_of_49 (⟨by rw [if_pos ⟨c8, hq⟩, show x.toNatClampNeg = q by rw [hqe, nI_clamp (by omega)], nI_clamp (by omega), s15]; rfl, rfl⟩)
      · refine V.topi (y := nI 1) (by rw [s15]) (V.tableIn X 50 dX11_of_15 (by decide) (by decide) rfl (by decide) ?_)
        refine V.aload_n X 0 dX11_of_50 rfl rfl ?_
        refine Vg_c_0_deeds X tw_371 dX11_of_51 ?_
        refine V.iload_n X 1 dX11_of_54 rfl rfl ?_
        refine V.callV X rfl (c_partsOf (zl Z) (zG Z) a σ j (by omega) (by first | omega | exact hd2)) cv_X11_120 rfl 1 rfl rfl (len hRf (by decide)) (len hRl (by decide)) hk0 ht0 [] rfl (Nat.le_of_ble_eq_true rfl) dX11_of_55 ?_
        rintro _ _ ⟨rfl, rfl⟩
        refine V.eqs (st' := [.int (nI ((gA σ 1) (j + 1) - (gA σ 1) j))]) rfl ?_
        exact V.iret X rfl hA hk ht hQ rfl dX11_of_58 (⟨by rw [if_pos ⟨c8, hq⟩, show x.toNatClampNeg = q by rw [hqe, nI_clamp (by omega)], nI_clamp (by omega), s15]; rfl, rfl⟩)
      · refine V.topi (y := nI 2) (by rw [s15]) (V.tableIn X 59 dX11_of_15 (by decide) (by decide) rfl (by decide) ?_)
        refine V.aload_n X 0 dX11_of_59 rfl rfl ?_
        refine Vg_c_0_deeds X tw_371 dX11_of_60 ?_
        refine Vg_c_1_number X tw_93 dX11_of_63 ?_
        refine V.iload_n X 1 dX11_of_66 rfl rfl ?_
        refine Va_c_number (x := gJ σ 0 j) X (by omega) dX11_of_67 rfl ?_
        exact V.iret X rfl hA hk ht hQ rfl dX11_of_68 (⟨by rw [if_pos ⟨c8, hq⟩, show x.toNatClampNeg = q by rw [hqe, nI_clamp (by omega)], nI_clamp (by omega), s15]; rfl, rfl⟩)
      · refine V.tabOutN X 69 dX11_of_15 (by omega) (by omega) (by decide) ?_
        refine V.ldc X dX11_of_69 tw_469 ?_
        exact V.iret X rfl hA hk ht hQ rfl dX11_of_71 (⟨by exfalso; omega, rfl⟩)
  · refine V.ldc X dX11_of_11 tw_469 ?_
    exact V.iret X rfl hA hk ht hQ rfl dX11_of_13 (⟨by rw [if_neg (fun q => by rw [q.1] at c8; cases c8)], rfl⟩)

set_option maxHeartbeats 4000000 in
set_option maxRecDepth 100000 in
theorem n_part (l : Launch) (G : Gx) (a : Nat → Nat) (σ : St) (d x : Int32) (hD : DOK σ) : MM l G ⟨"NestedDeeds", "part", "(II)I"⟩ prog_1_method_9_code 3 (some .int) 1 22 [.ref (a 0), .int d, .int x] (cw G a σ) (fun rv w => rv = some (.int (if hasD (gN σ 1) d = true ∧ hasD (npt σ d.toNatClampNeg) x = true then nI (gA σ 2 (gA σ 1 d.toNatClampNeg + x.toNatClampNeg)) else -2)) ∧ w = cw G a σ) := by
  refine MM.of (lv := [(0, .ref (a 0)), (1, .int d), (2, .int x)]) (by decide +kernel) rfl (Nat.le_of_ble_eq_true rfl) ?_
  intro Z hRf hRl hl hG hn hk ht hA hQ X
  subst hG hl
  have X : XC Z "NestedDeeds" prog_1_method_9_code (some .int) := X
  have hk0 : zk Z ≤ (zR Z).cells := hk ▸ Nat.zero_le _
  have ht0 : zt Z ≤ (zR Z).slots := ht ▸ Nat.zero_le _
  obtain ⟨h1, h2, h3⟩ := hD
  refine V.aload_n X 0 dX11_part_0 rfl rfl ?_
  refine Vg_c_0_deeds X tw_371 dX11_part_1 ?_
  refine V.iload_n X 1 dX11_part_4 rfl rfl ?_
  refine V.callV X rfl (c_has (zl Z) (zG Z) a σ d) cv_X11_113 rfl 1 rfl rfl (len hRf (by decide)) (len hRl (by decide)) hk0 ht0 [] rfl (Nat.le_of_ble_eq_true rfl) dX11_part_5 ?_
  rintro _ _ ⟨rfl, rfl⟩
  refine V.eqs (st' := [.int (bI (hasD (gN σ 1) d))]) rfl ?_
  refine V.if_eqB X 27 dX11_part_8 (by decide) (fun c8 => ?_) (fun c8 => ?_)
  · refine V.bipush X (v := (-2)) dX11_part_27 (by decide) ?_
    exact V.iret X rfl hA hk ht hQ rfl dX11_part_29 (⟨by rw [if_neg (fun q => by rw [q.1] at c8; cases c8)], rfl⟩)
  · obtain ⟨j, hj, rfl⟩ := hasD_t (by omega) c8
    obtain ⟨⟨hd1, hd2, hd3, hd4⟩, hd5⟩ := h3 j hj
    refine V.iload_n X 2 dX11_part_11 rfl rfl ?_
    refine V.if_lt X 27 dX11_part_12 (by decide) (fun c12 => ?_) (fun c12 => ?_)
    · refine V.bipush X (v := (-2)) dX11_part_27 (by decide) ?_
      exact V.iret X rfl hA hk ht hQ rfl dX11_part_29 (⟨by rw [if_neg (fun q => by rw [hasD_f1 c12] at q; cases q.2)], rfl⟩)
    · refine V.iload_n X 2 dX11_part_15 rfl rfl ?_
      refine V.aload_n X 0 dX11_part_16 rfl rfl ?_
      refine Vg_c_0_deeds X tw_371 dX11_part_17 ?_
      refine V.iload_n X 1 dX11_part_20 rfl rfl ?_
      refine V.callV X rfl (c_partsOf (zl Z) (zG Z) a σ j (by omega) (by first | omega | exact hd2)) cv_X11_120 rfl 1 rfl rfl (len hRf (by decide)) (len hRl (by decide)) hk0 ht0 [.int x] rfl (Nat.le_of_ble_eq_true rfl) dX11_part_21 ?_
      rintro _ _ ⟨rfl, rfl⟩
      refine V.eqs (st' := [.int (nI ((gA σ 1) (j + 1) - (gA σ 1) j)), .int x]) rfl ?_
      refine V.icmp_lt X 30 dX11_part_24 (by decide) (fun c24 => ?_) (fun c24 => ?_)
      · obtain ⟨i, hi, rfl⟩ := hasD_t (n := gA σ 1 (j + 1) - gA σ 1 j) (by omega) (hasD_tt c12 (Int32.not_le.mpr c24))
        refine V.aload_n X 0 dX11_part_30 rfl rfl ?_
        refine Vg_c_0_deeds X tw_371 dX11_part_31 ?_
        refine V.iload_n X 1 dX11_part_34 rfl rfl ?_
        refine V.iload_n X 2 dX11_part_35 rfl rfl ?_
        refine V.callV X rfl (c_partAt (zl Z) (zG Z) a σ j i (by omega) (by omega) (by first | omega | exact hd2) (by first | omega | exact hd3)) cv_X11_143 rfl 1 rfl rfl (len hRf (by decide)) (len hRl (by decide)) hk0 ht0 [] rfl (Nat.le_of_ble_eq_true rfl) dX11_part_36 ?_
        rintro _ _ ⟨rfl, rfl⟩
        refine V.eqs (st' := [.int (oI (if i < (gA σ 1) (j + 1) - (gA σ 1) j then some ((gA σ 2) ((gA σ 1) j + i)) else none))]) rfl ?_
        exact V.iret X rfl hA hk ht hQ rfl dX11_part_39 (⟨by rw [if_pos (show i < gA σ 1 (j + 1) - gA σ 1 j by omega), if_pos (show hasD (gN σ 1) (nI j) = true ∧ hasD (npt σ (nI j).toNatClampNeg) (nI i) = true from ⟨c8, by rw [nI_clamp (by omega)]; exact hasD_tt c12 (Int32.not_le.mpr c24)⟩), nI_clamp (by omega), nI_clamp (by omega)]; rfl, rfl⟩)
      · refine V.bipush X (v := (-2)) dX11_part_27 (by decide) ?_
        exact V.iret X rfl hA hk ht hQ rfl dX11_part_29 (⟨by rw [if_neg (fun q => by rw [nI_clamp (by omega)] at q; rw [hasD_f2 (n := npt σ j) (Int32.not_lt.mp c24)] at q; cases q.2)], rfl⟩)

def encR (σ : St) (d p : Int32) : Int32 := if hasD (gN σ 1) d = true ∧ hasD (gN σ 1) p = true then (if p < d then (if gA σ 1 (gN σ 1) < 4000 then nI (npt σ d.toNatClampNeg + 1) else -4) else -3) else -2
def encS (σ : St) (d p : Int32) : St := if hasD (gN σ 1) d = true ∧ hasD (gN σ 1) p = true ∧ p < d ∧ gA σ 1 (gN σ 1) < 4000 then dAddP σ d.toNatClampNeg p.toNatClampNeg else σ
theorem dAddP_1 (σ : St) (d p : Nat) : gN (dAddP σ d p) 1 = gN σ 1 := rfl
theorem dAddP_st (σ : St) (d p j : Nat) : gA (dAddP σ d p) 1 j = if d < j ∧ j < gN σ 1 + 1 then gA σ 1 j + 1 else gA σ 1 j := rfl
set_option maxHeartbeats 4000000 in
set_option maxRecDepth 100000 in
theorem n_enclose (l : Launch) (G : Gx) (a : Nat → Nat) (σ : St) (d p : Int32) (hD : DOK σ) : MM l G ⟨"NestedDeeds", "enclose", "(II)I"⟩ prog_1_method_3_code 3 (some .int) 2 84 [.ref (a 0), .int d, .int p] (cw G a σ) (fun rv w => rv = some (.int (encR σ d p)) ∧ w = cw G a (encS σ d p)) := by
  refine MM.of (lv := [(0, .ref (a 0)), (1, .int d), (2, .int p)]) (by decide +kernel) rfl (Nat.le_of_ble_eq_true rfl) ?_
  intro Z hRf hRl hl hG hn hk ht hA hQ X
  subst hG hl
  have X : XC Z "NestedDeeds" prog_1_method_3_code (some .int) := X
  have hk0 : zk Z ≤ (zR Z).cells := hk ▸ Nat.zero_le _
  have ht0 : zt Z ≤ (zR Z).slots := ht ▸ Nat.zero_le _
  obtain ⟨h1, h2, h3⟩ := hD
  refine V.aload_n X 0 dX11_enclose_0 rfl rfl ?_
  refine Vg_c_0_deeds X tw_371 dX11_enclose_1 ?_
  refine V.iload_n X 1 dX11_enclose_4 rfl rfl ?_
  refine V.callV X rfl (c_has (zl Z) (zG Z) a σ d) cv_X11_113 rfl 1 rfl rfl (len hRf (by decide)) (len hRl (by decide)) hk0 ht0 [] rfl (Nat.le_of_ble_eq_true rfl) dX11_enclose_5 ?_
  rintro _ _ ⟨rfl, rfl⟩
  refine V.eqs (st' := [.int (bI (hasD (gN σ 1) d))]) rfl ?_
  refine V.if_eqB X 22 dX11_enclose_8 (by decide) (fun c8 => ?_) (fun c8 => ?_)
  · refine V.bipush X (v := (-2)) dX11_enclose_22 (by decide) ?_
    exact V.iret X rfl hA hk ht hQ rfl dX11_enclose_24 (⟨by rw [encR, if_neg (fun q => by rw [q.1] at c8; cases c8)], by rw [encS, if_neg (fun q => by rw [q.1] at c8; cases c8)]⟩)
  · refine V.aload_n X 0 dX11_enclose_11 rfl rfl ?_
    refine Vg_c_0_deeds X tw_371 dX11_enclose_12 ?_
    refine V.iload_n X 2 dX11_enclose_15 rfl rfl ?_
    refine V.callV X rfl (c_has (zl Z) (zG Z) a σ p) cv_X11_113 rfl 1 rfl rfl (len hRf (by decide)) (len hRl (by decide)) hk0 ht0 [] rfl (Nat.le_of_ble_eq_true rfl) dX11_enclose_16 ?_
    rintro _ _ ⟨rfl, rfl⟩
    refine V.eqs (st' := [.int (bI (hasD (gN σ 1) p))]) rfl ?_
    refine V.if_neB X 25 dX11_enclose_19 (by decide) (fun c19 => ?_) (fun c19 => ?_)
    · refine V.iload_n X 2 dX11_enclose_25 rfl rfl ?_
      refine V.iload_n X 1 dX11_enclose_26 rfl rfl ?_
      refine V.icmp_lt X 33 dX11_enclose_27 (by decide) (fun c27 => ?_) (fun c27 => ?_)
      · refine V.aload_n X 0 dX11_enclose_33 rfl rfl ?_
        refine Vg_c_0_deeds X tw_371 dX11_enclose_34 ?_
        refine V.iconst X (v := nI 0) dX11_enclose_37 (by decide) ?_
        refine V.iconst X (v := nI 1) dX11_enclose_38 (by decide) ?_
        refine V.callV X rfl (c_hasRoom (zl Z) (zG Z) a σ 0 1 (by exact h1) (by exact h2) (by omega) (by omega)) cv_X11_105 rfl 1 rfl rfl (len hRf (by decide)) (len hRl (by decide)) hk0 ht0 [] rfl (Nat.le_of_ble_eq_true rfl) dX11_enclose_39 ?_
        rintro _ _ ⟨rfl, rfl⟩
        refine V.eqs (st' := [.int (bI (decide ((gN σ 1) + 0 ≤ 1500 ∧ (gA σ 1) (gN σ 1) + 1 ≤ 4000)))]) rfl ?_
        refine V.if_neB X 48 dX11_enclose_42 (by decide) (fun c42 => ?_) (fun c42 => ?_)
        · have hroom : gA σ 1 (gN σ 1) < 4000 := by have := of_decide_eq_true c42; omega
          obtain ⟨j, hj, rfl⟩ := hasD_t (by omega) c8
          obtain ⟨i, hi, rfl⟩ := hasD_t (by omega) c19
          obtain ⟨⟨hd1, hd2, hd3, hd4⟩, hd5⟩ := h3 j hj
          have e1 : gA (dAddP σ j i) 1 (j + 1) = gA σ 1 (j + 1) + 1 := by rw [dAddP_st, if_pos (by omega)]
          have e2 : gA (dAddP σ j i) 1 j = gA σ 1 j := by rw [dAddP_st, if_neg (by omega)]
          have hpo : gA (dAddP σ j i) 1 (j + 1) - gA (dAddP σ j i) 1 j = npt σ j + 1 := by rw [e1, e2]; simp only [npt]; omega
          refine V.aload_n X 0 dX11_enclose_48 rfl rfl ?_
          refine Vg_c_0_deeds X tw_371 dX11_enclose_49 ?_
          refine V.iload_n X 1 dX11_enclose_52 rfl rfl ?_
          refine V.iload_n X 2 dX11_enclose_53 rfl rfl ?_
          refine V.callV X rfl (c_addPart (zl Z) (zG Z) a σ j i (by omega) (by omega) (by omega) (by omega)) cv_X11_116 rfl 1 rfl rfl (len hRf (by decide)) (len hRl (by decide)) hk0 ht0 [] rfl (Nat.le_of_ble_eq_true rfl) dX11_enclose_54 ?_
          rintro _ _ ⟨rfl, rfl⟩
          refine V.eqs (st' := []) rfl ?_
          refine V.aload_n X 0 dX11_enclose_57 rfl rfl ?_
          refine Vg_c_0_deeds X tw_371 dX11_enclose_58 ?_
          refine V.iload_n X 1 dX11_enclose_61 rfl rfl ?_
          refine V.callV X rfl (c_partsOf (zl Z) (zG Z) a (dAddP σ j i) j (by omega) (by rw [e1, e2]; omega)) cv_X11_120 rfl 1 rfl rfl (len hRf (by decide)) (len hRl (by decide)) hk0 ht0 [] rfl (Nat.le_of_ble_eq_true rfl) dX11_enclose_62 ?_
          rintro _ _ ⟨rfl, rfl⟩
          refine V.eqs (st' := [.int (nI (gA (dAddP σ j i) 1 (j + 1) - gA (dAddP σ j i) 1 j))]) rfl ?_
          exact V.iret X rfl hA hk ht hQ rfl dX11_enclose_65 (⟨by rw [encR, if_pos ⟨c8, c19⟩, if_pos c27, if_pos hroom, nI_clamp (by omega)]; exact congrArg (fun q => some (Value.int (nI q))) hpo, by rw [encS, if_pos ⟨c8, c19, c27, hroom⟩, nI_clamp (by omega), nI_clamp (by omega)]⟩)
        · refine V.bipush X (v := (-4)) dX11_enclose_45 (by decide) ?_
          exact V.iret X rfl hA hk ht hQ rfl dX11_enclose_47 (⟨by rw [encR, if_pos ⟨c8, c19⟩, if_pos c27, if_neg (fun q => by rw [decide_eq_true (show gN σ 1 + 0 ≤ 1500 ∧ gA σ 1 (gN σ 1) + 1 ≤ 4000 by omega)] at c42; cases c42)], by rw [encS, if_neg (fun q => by have q4 := q.2.2.2; rw [decide_eq_true (show gN σ 1 + 0 ≤ 1500 ∧ gA σ 1 (gN σ 1) + 1 ≤ 4000 by omega)] at c42; cases c42)]⟩)
      · refine V.bipush X (v := (-3)) dX11_enclose_30 (by decide) ?_
        exact V.iret X rfl hA hk ht hQ rfl dX11_enclose_32 (⟨by rw [encR, if_pos ⟨c8, c19⟩, if_neg c27], by rw [encS, if_neg (fun q => c27 q.2.2.1)]⟩)
    · refine V.bipush X (v := (-2)) dX11_enclose_22 (by decide) ?_
      exact V.iret X rfl hA hk ht hQ rfl dX11_enclose_24 (⟨by rw [encR, if_neg (fun q => by rw [q.2] at c19; cases c19)], by rw [encS, if_neg (fun q => by rw [q.2.1] at c19; cases c19)]⟩)

