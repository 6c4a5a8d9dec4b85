def begunL (k : Nat) (v : Int32) : Int64 := lN ((217 + k) * 31) + v.toInt64
def withL (h p : Int64) : Int64 := h * lN 1000003 ^^^ p
def endedL (h : Int64) : Int64 := h ^^^ (h.toUInt64 >>> ((nI 29).toInt64.toUInt64 &&& Int64.toUInt64 63)).toInt64
set_option maxHeartbeats 4000000 in
set_option maxRecDepth 100000 in
theorem k_begun (l : Launch) (G : Gx) (ws : va_W) (k : Nat) (v : Int32) (hk : k < 2 ^ 31) : MM l G ⟨"NestedDeeds$Marking", "begun", "(II)J"⟩ prog_6_method_2_code 2 (some .long) 0 0 [.int (nI k), .int v] (ws) (fun rv w => rv = some (.long (begunL k v)) ∧ w = ws) := by
  refine MM.of (lv := [(0, .int (nI k)), (1, .int v)]) (by decide +kernel) rfl (Nat.le_of_ble_eq_true rfl) ?_
  intro Z hRf hRl hl hG hn hk ht hA hQ X
  subst hG hl
  have X : XC Z "NestedDeeds$Marking" prog_6_method_2_code (some .long) := X
  have hk0 : zk Z ≤ (zR Z).cells := hk ▸ Nat.zero_le _
  have ht0 : zt Z ≤ (zR Z).slots := ht ▸ Nat.zero_le _
  refine V.ldc2 X dX4_begun_0 tw_523 ?_
  refine V.topl (y := lN 217) (by decide) ?_
  refine V.iload_n X 0 dX4_begun_3 rfl rfl ?_
  refine V.i2lN X dX4_begun_4 (by omega) ?_
  refine V.laddK X dX4_begun_5 ?_
  refine V.ldc2 X dX4_begun_6 tw_524 ?_
  refine V.topl (y := lN 31) (by decide) ?_
  refine V.lmulK X dX4_begun_9 ?_
  refine V.iload_n X 1 dX4_begun_10 rfl rfl ?_
  refine V.i2l X dX4_begun_11 rfl ?_
  refine V.ladd X dX4_begun_12 ?_
  exact V.lret X rfl hA hk ht hQ rfl dX4_begun_13 (⟨rfl, rfl⟩)

set_option maxHeartbeats 4000000 in
set_option maxRecDepth 100000 in
theorem k_with (l : Launch) (G : Gx) (ws : va_W) (h q : Int64) : MM l G ⟨"NestedDeeds$Marking", "with", "(JJ)J"⟩ prog_6_method_3_code 4 (some .long) 0 0 [.long h, .long q] (ws) (fun rv w => rv = some (.long (withL h q)) ∧ w = ws) := by
  refine MM.of (lv := [(0, .long h), (2, .long q)]) (by decide +kernel) rfl (Nat.le_of_ble_eq_true rfl) ?_
  intro Z hRf hRl hl hG hn hk ht hA hQ X
  subst hG hl
  have X : XC Z "NestedDeeds$Marking" prog_6_method_3_code (some .long) := X
  have hk0 : zk Z ≤ (zR Z).cells := hk ▸ Nat.zero_le _
  have ht0 : zt Z ≤ (zR Z).slots := ht ▸ Nat.zero_le _
  refine V.lload_n X 0 dX4_with_0 rfl rfl ?_
  refine V.ldc2 X dX4_with_1 tw_630 ?_
  refine V.topl (y := lN 1000003) (by decide) ?_
  refine V.lmul X dX4_with_4 ?_
  refine V.lload_n X 1 dX4_with_5 rfl rfl ?_
  refine V.lxor X dX4_with_6 ?_
  exact V.lret X rfl hA hk ht hQ rfl dX4_with_7 (⟨rfl, rfl⟩)

set_option maxHeartbeats 4000000 in
set_option maxRecDepth 100000 in
theorem k_ended (l : Launch) (G : Gx) (ws : va_W) (h : Int64) : MM l G ⟨"NestedDeeds$Marking", "ended", "(J)J"⟩ prog_6_method_4_code 2 (some .long) 0 0 [.long h] (ws) (fun rv w => rv = some (.long (endedL h)) ∧ w = ws) := by
  refine MM.of (lv := [(0, .long h)]) (by decide +kernel) rfl (Nat.le_of_ble_eq_true rfl) ?_
  intro Z hRf hRl hl hG hn hk ht hA hQ X
  subst hG hl
  have X : XC Z "NestedDeeds$Marking" prog_6_method_4_code (some .long) := X
  have hk0 : zk Z ≤ (zR Z).cells := hk ▸ Nat.zero_le _
  have ht0 : zt Z ≤ (zR Z).slots := ht ▸ Nat.zero_le _
  refine V.lload_n X 0 dX4_ended_0 rfl rfl ?_
  refine V.lload_n X 0 dX4_ended_1 rfl rfl ?_
  refine V.bipush X (v := nI 29) dX4_ended_2 (by decide) ?_
  refine V.lushr X dX4_ended_4 rfl ?_
  refine V.lxor X dX4_ended_5 ?_
  exact V.lret X rfl hA hk ht hQ rfl dX4_ended_6 (⟨rfl, rfl⟩)

set_option maxHeartbeats 4000000 in
set_option maxRecDepth 100000 in
theorem k_isKind (l : Launch) (G : Gx) (ws : va_W) (k : Int32) : MM l G ⟨"NestedDeeds", "isKind", "(I)Z"⟩ prog_1_method_28_code 1 (some .boolean) 0 0 [.int k] (ws) (fun rv w => rv = some (.int (bI (hasD 12 k))) ∧ w = ws) := by
  refine MM.of (lv := [(0, .int k)]) (by decide +kernel) rfl (Nat.le_of_ble_eq_true rfl) ?_
  intro Z hRf hRl hl hG hn hk ht hA hQ X
  subst hG hl
  have X : XC Z "NestedDeeds" prog_1_method_28_code (some .boolean) := X
  have hk0 : zk Z ≤ (zR Z).cells := hk ▸ Nat.zero_le _
  have ht0 : zt Z ≤ (zR Z).slots := ht ▸ Nat.zero_le _
  refine V.iload_n X 0 dX11_isKind_0 rfl rfl ?_
  refine V.if_lt X 14 dX11_isKind_1 (by decide) (fun c1 => ?_) (fun c1 => ?_)
  · refine V.iconst X (v := nI 0) dX11_isKind_14 (by decide) ?_
    refine V.topi (y := bI false) rfl ?_
    exact V.zret X rfl hA hk ht hQ rfl (bI_01 _) dX11_isKind_15 (⟨by first | rw [hasD_f1 c1] | rw [hasD_f2 c7] | rw [hasD_tt c1 c7], rfl⟩)
  · refine V.iload_n X 0 dX11_isKind_4 rfl rfl ?_
    refine V.bipush X (v := nI 12) dX11_isKind_5 (by decide) ?_
    refine V.icmp_ge X 14 dX11_isKind_7 (by decide) (fun c7 => ?_) (fun c7 => ?_)
    · refine V.iconst X (v := nI 0) dX11_isKind_14 (by decide) ?_
      refine V.topi (y := bI false) rfl ?_
      exact V.zret X rfl hA hk ht hQ rfl (bI_01 _) dX11_isKind_15 (⟨by first | rw [hasD_f1 c1] | rw [hasD_f2 c7] | rw [hasD_tt c1 c7], rfl⟩)
    · refine V.iconst X (v := nI 1) dX11_isKind_10 (by decide) ?_
      refine V.goto X 15 dX11_isKind_11 (by decide) ?_
      refine V.topi (y := bI true) rfl ?_
      exact V.zret X rfl hA hk ht hQ rfl (bI_01 _) dX11_isKind_15 (⟨by first | rw [hasD_f1 c1] | rw [hasD_f2 c7] | rw [hasD_tt c1 c7], rfl⟩)

set_option maxHeartbeats 4000000 in
set_option maxRecDepth 100000 in
theorem t20_enter (l : Launch) (G : Gx) (a : Nat → Nat) (σ : St) (k d : Nat) (hkk : k < 1501) (hd : OKd σ d) : MM l G ⟨"NestedDeeds$Task", "enter", "(II)V"⟩ prog_9_method_2_code 3 none 0 0 [.ref (a 20), .int (nI k), .int (nI d)] (cw G a σ) (fun rv w => rv = none ∧ w = cw G a σ) := by
  refine MM.of (lv := [(0, .ref (a 20)), (1, .int (nI k)), (2, .int (nI d))]) (by decide +kernel) rfl (Nat.le_of_ble_eq_true rfl) ?_
  intro Z hRf hRl hl hG hn hk ht hA hQ X
  subst hG hl
  have X : XC Z "NestedDeeds$Task" prog_9_method_2_code none := X
  have hk0 : zk Z ≤ (zR Z).cells := hk ▸ Nat.zero_le _
  have ht0 : zt Z ≤ (zR Z).slots := ht ▸ Nat.zero_le _
  obtain ⟨hd1, hd2, hd3, hd4⟩ := hd
  exact V.vret X rfl hA hk ht hQ rfl dX7_enter_0 (⟨rfl, rfl⟩)

set_option maxHeartbeats 4000000 in
set_option maxRecDepth 100000 in
theorem t20_choose (l : Launch) (G : Gx) (a : Nat → Nat) (σ : St) (k d t : Nat) (hkk : k < 1501) (hd : OKd σ d) (htn : t < npt σ d) : MM l G ⟨"NestedDeeds$Task", "choose", "(III)I"⟩ prog_9_method_3_code 4 (some .int) 1 22 [.ref (a 20), .int (nI k), .int (nI d), .int (nI t)] (cw G a σ) (fun rv w => rv = some (.int (oI (prt σ d t))) ∧ w = cw G a σ) := by
  refine MM.of (lv := [(0, .ref (a 20)), (1, .int (nI k)), (2, .int (nI d)), (3, .int (nI t))]) (by decide +kernel) rfl (Nat.le_of_ble_eq_true rfl) ?_
  intro Z hRf hRl hl hG hn hk ht hA hQ X
  subst hG hl
  have X : XC Z "NestedDeeds$Task" prog_9_method_3_code (some .int) := X
  have hk0 : zk Z ≤ (zR Z).cells := hk ▸ Nat.zero_le _
  have ht0 : zt Z ≤ (zR Z).slots := ht ▸ Nat.zero_le _
  obtain ⟨hd1, hd2, hd3, hd4⟩ := hd
  have hnp : t < gA σ 1 (d + 1) - gA σ 1 d := htn
  refine V.aload_n X 0 dX7_choose_0 rfl rfl ?_
  refine Vg_c_20_deeds X tw_186 dX7_choose_1 ?_
  refine V.iload_n X 2 dX7_choose_4 rfl rfl ?_
  refine V.iload_n X 3 dX7_choose_5 rfl rfl ?_
  refine V.callV X rfl (c_partAt (zl Z) (zG Z) a σ d t (by omega) (by omega) (by first | omega | exact hd2) (by first | omega | exact hd3)) cv_X7_13 rfl 1 rfl rfl (len hRf (by decide)) (len hRl (by decide)) hk0 ht0 [] rfl (Nat.le_of_ble_eq_true rfl) dX7_choose_6 ?_
  rintro _ _ ⟨rfl, rfl⟩
  refine V.eqs (st' := [.int (oI (if t < (gA σ 1) (d + 1) - (gA σ 1) d then some ((gA σ 2) ((gA σ 1) d + t)) else none))]) rfl ?_
  exact V.iret X rfl hA hk ht hQ rfl dX7_choose_9 (⟨rfl, rfl⟩)

set_option maxHeartbeats 4000000 in
set_option maxRecDepth 100000 in
theorem t20_takeUp (l : Launch) (G : Gx) (a : Nat → Nat) (σ : St) (k d t : Nat) (hkk : k < 1501) (hd : OKd σ d) (htn : t < npt σ d) : MM l G ⟨"NestedDeeds$Task", "takeUp", "(III)V"⟩ prog_9_method_4_code 4 none 0 0 [.ref (a 20), .int (nI k), .int (nI d), .int (nI t)] (cw G a σ) (fun rv w => rv = none ∧ w = cw G a σ) := by
  refine MM.of (lv := [(0, .ref (a 20)), (1, .int (nI k)), (2, .int (nI d)), (3, .int (nI t))]) (by decide +kernel) rfl (Nat.le_of_ble_eq_true rfl) ?_
  intro Z hRf hRl hl hG hn hk ht hA hQ X
  subst hG hl
  have X : XC Z "NestedDeeds$Task" prog_9_method_4_code none := X
  have hk0 : zk Z ≤ (zR Z).cells := hk ▸ Nat.zero_le _
  have ht0 : zt Z ≤ (zR Z).slots := ht ▸ Nat.zero_le _
  obtain ⟨hd1, hd2, hd3, hd4⟩ := hd
  have hnp : t < gA σ 1 (d + 1) - gA σ 1 d := htn
  exact V.vret X rfl hA hk ht hQ rfl dX7_takeUp_0 (⟨rfl, rfl⟩)

set_option maxHeartbeats 4000000 in
set_option maxRecDepth 100000 in
theorem t20_leave (l : Launch) (G : Gx) (a : Nat → Nat) (σ : St) (k d : Nat) (hkk : k < 1501) (hd : OKd σ d) : MM l G ⟨"NestedDeeds$Task", "leave", "(II)V"⟩ prog_9_method_5_code 3 none 0 0 [.ref (a 20), .int (nI k), .int (nI d)] (cw G a σ) (fun rv w => rv = none ∧ w = cw G a σ) := by
  refine MM.of (lv := [(0, .ref (a 20)), (1, .int (nI k)), (2, .int (nI d))]) (by decide +kernel) rfl (Nat.le_of_ble_eq_true rfl) ?_
  intro Z hRf hRl hl hG hn hk ht hA hQ X
  subst hG hl
  have X : XC Z "NestedDeeds$Task" prog_9_method_5_code none := X
  have hk0 : zk Z ≤ (zR Z).cells := hk ▸ Nat.zero_le _
  have ht0 : zt Z ≤ (zR Z).slots := ht ▸ Nat.zero_le _
  obtain ⟨hd1, hd2, hd3, hd4⟩ := hd
  exact V.vret X rfl hA hk ht hQ rfl dX7_leave_0 (⟨rfl, rfl⟩)

def tE23 (σ : St) (k d : Nat) : St := sL σ 0 (va_up (gL σ 0) k (begunL (gA σ 0 d) (gJ σ 0 d)))
def tT23 (σ : St) (k : Nat) : St := sL σ 0 (va_up (gL σ 0) k (withL (gL σ 0 k) (gL σ 0 (k + 1))))
def tL23 (σ : St) (k : Nat) : St := sL σ 0 (va_up (gL σ 0) k (endedL (gL σ 0 k)))
set_option maxHeartbeats 4000000 in
set_option maxRecDepth 100000 in
theorem t23_enter (l : Launch) (G : Gx) (a : Nat → Nat) (σ : St) (k d : Nat) (hkk : k < 1501) (hd : OKd σ d) : MM l G ⟨"NestedDeeds$Marking", "enter", "(II)V"⟩ prog_6_method_5_code 3 none 1 21 [.ref (a 23), .int (nI k), .int (nI d)] (cw G a σ) (fun rv w => rv = none ∧ w = cw G a (tE23 σ k d)) := by
  refine MM.of (lv := [(0, .ref (a 23)), (1, .int (nI k)), (2, .int (nI d))]) (by decide +kernel) rfl (Nat.le_of_ble_eq_true rfl) ?_
  intro Z hRf hRl hl hG hn hk ht hA hQ X
  subst hG hl
  have X : XC Z "NestedDeeds$Marking" prog_6_method_5_code none := X
  have hk0 : zk Z ≤ (zR Z).cells := hk ▸ Nat.zero_le _
  have ht0 : zt Z ≤ (zR Z).slots := ht ▸ Nat.zero_le _
  obtain ⟨hd1, hd2, hd3, hd4⟩ := hd
  refine V.aload_n X 0 dX4_enter_0 rfl rfl ?_
  refine Vg_c_23_markAt X tw_235 dX4_enter_1 ?_
  refine V.iload_n X 1 dX4_enter_4 rfl rfl ?_
  refine V.aload_n X 0 dX4_enter_5 rfl rfl ?_
  refine Vg_c_23_deeds X (Or.inr tw_198) tw_197 dX4_enter_6 ?_
  refine Vg_c_1_kind X tw_84 dX4_enter_9 ?_
  refine V.iload_n X 2 dX4_enter_12 rfl rfl ?_
  refine Va_c_kind (x := gA σ 0 d) X (by omega) dX4_enter_13 rfl ?_
  refine V.aload_n X 0 dX4_enter_14 rfl rfl ?_
  refine Vg_c_23_deeds X (Or.inr tw_198) tw_197 dX4_enter_15 ?_
  refine Vg_c_1_number X tw_92 dX4_enter_18 ?_
  refine V.iload_n X 2 dX4_enter_21 rfl rfl ?_
  refine Va_c_number (x := gJ σ 0 d) X (by omega) dX4_enter_22 rfl ?_
  refine V.callS X rfl (k_begun (zl Z) (zG Z) (cw (zG Z) a σ) (gA σ 0 d) (gJ σ 0 d) (by omega)) cs_X4_32 rfl (len hRf (by decide)) (len hRl (by decide)) hk0 ht0 [.int (nI k), .ref (a 19)] rfl (Nat.le_of_ble_eq_true rfl) dX4_enter_23 ?_
  rintro _ _ ⟨rfl, rfl⟩
  refine V.eqs (st' := [.long (begunL (gA σ 0 d) (gJ σ 0 d)), .int (nI k), .ref (a 19)]) rfl ?_
  refine Vs_c_reckoned (f := gL σ 0) (i := k) (x := begunL (gA σ 0 d) (gJ σ 0 d)) X (by omega) dX4_enter_26 rfl ?_
  exact V.vret X rfl hA hk ht hQ rfl dX4_enter_27 (⟨rfl, rfl⟩)

set_option maxHeartbeats 4000000 in
set_option maxRecDepth 100000 in
theorem t23_takeUp (l : Launch) (G : Gx) (a : Nat → Nat) (σ : St) (k d t : Nat) (hkk : k < 1501) (hd : OKd σ d) (htn : t < npt σ d) : MM l G ⟨"NestedDeeds$Marking", "takeUp", "(III)V"⟩ prog_6_method_6_code 4 none 1 23 [.ref (a 23), .int (nI k), .int (nI d), .int (nI t)] (cw G a σ) (fun rv w => rv = none ∧ w = cw G a (tT23 σ k)) := by
  refine MM.of (lv := [(0, .ref (a 23)), (1, .int (nI k)), (2, .int (nI d)), (3, .int (nI t))]) (by decide +kernel) rfl (Nat.le_of_ble_eq_true rfl) ?_
  intro Z hRf hRl hl hG hn hk ht hA hQ X
  subst hG hl
  have X : XC Z "NestedDeeds$Marking" prog_6_method_6_code none := X
  have hk0 : zk Z ≤ (zR Z).cells := hk ▸ Nat.zero_le _
  have ht0 : zt Z ≤ (zR Z).slots := ht ▸ Nat.zero_le _
  obtain ⟨hd1, hd2, hd3, hd4⟩ := hd
  have hnp : t < gA σ 1 (d + 1) - gA σ 1 d := htn
  refine V.aload_n X 0 dX4_takeUp_0 rfl rfl ?_
  refine Vg_c_23_markAt X tw_235 dX4_takeUp_1 ?_
  refine V.iload_n X 1 dX4_takeUp_4 rfl rfl ?_
  refine V.aload_n X 0 dX4_takeUp_5 rfl rfl ?_
  refine Vg_c_23_markAt X tw_235 dX4_takeUp_6 ?_
  refine V.iload_n X 1 dX4_takeUp_9 rfl rfl ?_
  refine Va_c_reckoned (x := gL σ 0 k) X (by omega) dX4_takeUp_10 rfl ?_
  refine V.aload_n X 0 dX4_takeUp_11 rfl rfl ?_
  refine Vg_c_23_markAt X tw_235 dX4_takeUp_12 ?_
  refine V.iload_n X 1 dX4_takeUp_15 rfl rfl ?_
  refine V.iconst X (v := nI 1) dX4_takeUp_16 (by decide) ?_
  refine V.iaddN X dX4_takeUp_17 ?_
  refine Va_c_reckoned (x := gL σ 0 (k + 1)) X (by omega) dX4_takeUp_18 rfl ?_
  refine V.callS X rfl (k_with (zl Z) (zG Z) (cw (zG Z) a σ) (gL σ 0 k) (gL σ 0 (k + 1))) cs_X4_36 rfl (len hRf (by decide)) (len hRl (by decide)) hk0 ht0 [.int (nI k), .ref (a 19)] rfl (Nat.le_of_ble_eq_true rfl) dX4_takeUp_19 ?_
  rintro _ _ ⟨rfl, rfl⟩
  refine V.eqs (st' := [.long (withL (gL σ 0 k) (gL σ 0 (k + 1))), .int (nI k), .ref (a 19)]) rfl ?_
  refine Vs_c_reckoned (f := gL σ 0) (i := k) (x := withL (gL σ 0 k) (gL σ 0 (k + 1))) X (by omega) dX4_takeUp_22 rfl ?_
  exact V.vret X rfl hA hk ht hQ rfl dX4_takeUp_23 (⟨rfl, rfl⟩)

set_option maxHeartbeats 4000000 in
set_option maxRecDepth 100000 in
theorem t23_leave (l : Launch) (G : Gx) (a : Nat → Nat) (σ : St) (k d : Nat) (hkk : k < 1501) (hd : OKd σ d) : MM l G ⟨"NestedDeeds$Marking", "leave", "(II)V"⟩ prog_6_method_7_code 3 none 1 21 [.ref (a 23), .int (nI k), .int (nI d)] (cw G a σ) (fun rv w => rv = none ∧ w = cw G a (tL23 σ k)) := by
  refine MM.of (lv := [(0, .ref (a 23)), (1, .int (nI k)), (2, .int (nI d))]) (by decide +kernel) rfl (Nat.le_of_ble_eq_true rfl) ?_
  intro Z hRf hRl hl hG hn hk ht hA hQ X
  subst hG hl
  have X : XC Z "NestedDeeds$Marking" prog_6_method_7_code none := X
  have hk0 : zk Z ≤ (zR Z).cells := hk ▸ Nat.zero_le _
  have ht0 : zt Z ≤ (zR Z).slots := ht ▸ Nat.zero_le _
  obtain ⟨hd1, hd2, hd3, hd4⟩ := hd
  refine V.aload_n X 0 dX4_leave_0 rfl rfl ?_
  refine Vg_c_23_markAt X tw_235 dX4_leave_1 ?_
  refine V.iload_n X 1 dX4_leave_4 rfl rfl ?_
  refine V.aload_n X 0 dX4_leave_5 rfl rfl ?_
  refine Vg_c_23_markAt X tw_235 dX4_leave_6 ?_
  refine V.iload_n X 1 dX4_leave_9 rfl rfl ?_
  refine Va_c_reckoned (x := gL σ 0 k) X (by omega) dX4_leave_10 rfl ?_
  refine V.callS X rfl (k_ended (zl Z) (zG Z) (cw (zG Z) a σ) (gL σ 0 k)) cs_X4_40 rfl (len hRf (by decide)) (len hRl (by decide)) hk0 ht0 [.int (nI k), .ref (a 19)] rfl (Nat.le_of_ble_eq_true rfl) dX4_leave_11 ?_
  rintro _ _ ⟨rfl, rfl⟩
  refine V.eqs (st' := [.long (endedL (gL σ 0 k)), .int (nI k), .ref (a 19)]) rfl ?_
  refine Vs_c_reckoned (f := gL σ 0) (i := k) (x := endedL (gL σ 0 k)) X (by omega) dX4_leave_14 rfl ?_
  exact V.vret X rfl hA hk ht hQ rfl dX4_leave_15 (⟨rfl, rfl⟩)

def wInit (kd : Nat) (v : Int32) (n : Nat) : Int64 := if kd = 6 then lN 0 else if kd = 9 then lN 1 else if kd = 11 then v.toInt64 + lN n else v.toInt64
def tE21 (σ : St) (k d : Nat) : St := sL σ 0 (va_up (gL σ 0) k (wInit (gA σ 0 d) (gJ σ 0 d) (npt σ d)))
def plc (σ : St) (k d t : Nat) : Option Nat := if t = 0 then some 0 else if t = 1 ∧ 2 ≤ npt σ d then some (1 + fmodN (gL σ 0 k) (npt σ d - 1)) else none
def tC21 (σ : St) (k d t : Nat) : Option Nat := if gA σ 0 d = 0 then none else if gA σ 0 d = 7 then (plc σ k d t).bind (prt σ d) else if gA σ 0 d = 8 then (if 0 < t ∧ ¬ gL σ 0 (k + 1) = lN 0 then none else prt σ d t) else prt σ d t
def rotL (w : Int64) (n : Nat) : Int64 := (w <<< ((nI n).toInt64 &&& 63)) ||| (w.toUInt64 >>> ((-nI n : Int32).toInt64.toUInt64 &&& Int64.toUInt64 63)).toInt64
def wUp (kd : Nat) (v : Int32) (t : Nat) (r w : Int64) : Int64 := if kd = 1 then r + w else if kd = 2 then r * w else if kd = 3 then (if t = 0 then w else r - w) else if kd = 4 then (if r < w then w else r) else if kd = 5 then (if w < r then w else r) else if kd = 6 then r * v.toInt64 + w else if kd = 7 then w else if kd = 8 then (if w = lN 0 then r else w) else if kd = 10 then r ^^^ rotL w (t % 64) else r
def tT21 (σ : St) (k d t : Nat) : St := if gA σ 0 d = 9 then (if t = 0 then sL σ 1 (va_up (gL σ 1) k (gL σ 0 (k + 1))) else if gL σ 1 k = gL σ 0 (k + 1) then σ else sL σ 0 (va_up (gL σ 0) k (lN 0))) else if gA σ 0 d = 0 ∨ gA σ 0 d = 11 then σ else sL σ 0 (va_up (gL σ 0) k (wUp (gA σ 0 d) (gJ σ 0 d) t (gL σ 0 k) (gL σ 0 (k + 1))))
set_option maxHeartbeats 4000000 in
set_option maxRecDepth 100000 in
theorem t21_enter (l : Launch) (G : Gx) (a : Nat → Nat) (σ : St) (k d : Nat) (hkk : k < 1501) (hd : OKd σ d) : MM l G ⟨"NestedDeeds$Weighing", "enter", "(II)V"⟩ prog_11_method_2_code 4 none 1 21 [.ref (a 21), .int (nI k), .int (nI d)] (cw G a σ) (fun rv w => rv = none ∧ w = cw G a (tE21 σ k d)) := by
  refine MM.of (lv := [(0, .ref (a 21)), (1, .int (nI k)), (2, .int (nI d))]) (by decide +kernel) rfl (Nat.le_of_ble_eq_true rfl) ?_
  intro Z hRf hRl hl hG hn hk ht hA hQ X
  subst hG hl
  have X : XC Z "NestedDeeds$Weighing" prog_11_method_2_code none := X
  have hk0 : zk Z ≤ (zR Z).cells := hk ▸ Nat.zero_le _
  have ht0 : zt Z ≤ (zR Z).slots := ht ▸ Nat.zero_le _
  obtain ⟨hd1, hd2, hd3, hd4⟩ := hd
  refine V.aload_n X 0 dX9_enter_0 rfl rfl ?_
  refine Vg_c_21_deeds X (Or.inr tw_188) tw_187 dX9_enter_1 ?_
  refine Vg_c_1_number X tw_87 dX9_enter_4 ?_
  refine V.iload_n X 2 dX9_enter_7 rfl rfl ?_
  refine Va_c_number (x := gJ σ 0 d) X (by omega) dX9_enter_8 rfl ?_
  refine V.istore_n X (lv' := [(3, .int (gJ σ 0 d)), (0, .ref (a 21)), (1, .int (nI k)), (2, .int (nI d))]) dX9_enter_9 rfl (ltn hn (by decide)) rfl ?_
  refine V.aload_n X 1 dX9_enter_10 rfl rfl ?_
  refine Vg_c_21_deeds X (Or.inr tw_188) tw_187 dX9_enter_11 ?_
  refine Vg_c_1_kind X tw_80 dX9_enter_14 ?_
  refine V.iload_n X 3 dX9_enter_17 rfl rfl ?_
  refine Va_c_kind (x := gA σ 0 d) X (by omega) dX9_enter_18 rfl ?_
  rcases (show (gA σ 0 d) = 6 ∨ (gA σ 0 d) = 9 ∨ (gA σ 0 d) = 11 ∨ ((gA σ 0 d) ≠ 6 ∧ (gA σ 0 d) ≠ 9 ∧ (gA σ 0 d) ≠ 11) by omega) with s19 | s19 | s19 | s19
  · refine V.topi (y := nI 6) (by rw [s19]) (V.lookup X 52 dX9_enter_19 (by decide) (off := 33) (by decide) (by decide) ?_)
    refine V.aload_n X 1 dX9_enter_52 rfl rfl ?_
    refine Vg_c_21_worthAt X tw_220 dX9_enter_53 ?_
    refine V.iload_n X 2 dX9_enter_56 rfl rfl ?_
    refine V.lconst X (v := lN 0) dX9_enter_57 (by decide) ?_
    refine Vs_c_reckoned (f := gL σ 0) (i := k) (x := lN 0) X (by omega) dX9_enter_58 rfl ?_
    refine V.goto X 101 dX9_enter_59 (by decide) ?_
    exact V.vret X rfl hA hk ht hQ rfl dX9_enter_101 (⟨rfl, by simp [tE21, wInit, s19, npt]⟩)
  · refine V.topi (y := nI 9) (by rw [s19]) (V.lookup X 62 dX9_enter_19 (by decide) (off := 43) (by decide) (by decide) ?_)
    refine V.aload_n X 1 dX9_enter_62 rfl rfl ?_
    refine Vg_c_21_worthAt X tw_220 dX9_enter_63 ?_
    refine V.iload_n X 2 dX9_enter_66 rfl rfl ?_
    refine V.lconst X (v := lN 1) dX9_enter_67 (by decide) ?_
    refine Vs_c_reckoned (f := gL σ 0) (i := k) (x := lN 1) X (by omega) dX9_enter_68 rfl ?_
    refine V.goto X 101 dX9_enter_69 (by decide) ?_
    exact V.vret X rfl hA hk ht hQ rfl dX9_enter_101 (⟨rfl, by simp [tE21, wInit, s19, npt]⟩)
  · refine V.topi (y := nI 11) (by rw [s19]) (V.lookup X 72 dX9_enter_19 (by decide) (off := 53) (by decide) (by decide) ?_)
    refine V.aload_n X 1 dX9_enter_72 rfl rfl ?_
    refine Vg_c_21_worthAt X tw_220 dX9_enter_73 ?_
    refine V.iload_n X 2 dX9_enter_76 rfl rfl ?_
    refine V.iload_n X 0 dX9_enter_77 rfl rfl ?_
    refine V.i2l X dX9_enter_78 rfl ?_
    refine V.aload_n X 1 dX9_enter_79 rfl rfl ?_
    refine Vg_c_21_deeds X (Or.inr tw_188) tw_187 dX9_enter_80 ?_
    refine V.iload_n X 3 dX9_enter_83 rfl rfl ?_
    refine V.callV X rfl (c_partsOf (zl Z) (zG Z) a σ d (by omega) (by first | omega | exact hd2)) cv_X9_31 rfl 1 rfl rfl (len hRf (by decide)) (len hRl (by decide)) hk0 ht0 [.long (Int32.toInt64 (gJ σ 0 d)), .int (nI k), .ref (a 19)] rfl (Nat.le_of_ble_eq_true rfl) dX9_enter_84 ?_
    rintro _ _ ⟨rfl, rfl⟩
    refine V.eqs (st' := [.int (nI ((gA σ 1) (d + 1) - (gA σ 1) d)), .long (Int32.toInt64 (gJ σ 0 d)), .int (nI k), .ref (a 19)]) rfl ?_
    refine V.i2lN X dX9_enter_87 (by omega) ?_
    refine V.ladd X dX9_enter_88 ?_
    refine Vs_c_reckoned (f := gL σ 0) (i := k) (x := (Int32.toInt64 (gJ σ 0 d)) + (lN ((gA σ 1) (d + 1) - (gA σ 1) d))) X (by omega) dX9_enter_89 rfl ?_
    refine V.goto X 101 dX9_enter_90 (by decide) ?_
    exact V.vret X rfl hA hk ht hQ rfl dX9_enter_101 (⟨rfl, by simp [tE21, wInit, s19, npt]⟩)
  · refine V.lookN X 93 dX9_enter_19 (by decide) (by omega) (off := 74) (by show (if (6 : Int) = ((gA σ 0 d : Nat) : Int) then (33 : Int) else if (9 : Int) = ((gA σ 0 d : Nat) : Int) then (43 : Int) else if (11 : Int) = ((gA σ 0 d : Nat) : Int) then (53 : Int) else (74 : Int)) = _; rw [if_neg (by omega), if_neg (by omega), if_neg (by omega)]) (by decide) ?_
    refine V.aload_n X 1 dX9_enter_93 rfl rfl ?_
    refine Vg_c_21_worthAt X tw_220 dX9_enter_94 ?_
    refine V.iload_n X 2 dX9_enter_97 rfl rfl ?_
    refine V.iload_n X 0 dX9_enter_98 rfl rfl ?_
    refine V.i2l X dX9_enter_99 rfl ?_
    refine Vs_c_reckoned (f := gL σ 0) (i := k) (x := Int32.toInt64 (gJ σ 0 d)) X (by omega) dX9_enter_100 rfl ?_
    exact V.vret X rfl hA hk ht hQ rfl dX9_enter_101 (⟨rfl, by simp [tE21, wInit, s19, npt]⟩)

set_option maxHeartbeats 4000000 in
set_option maxRecDepth 100000 in
theorem t21_placeOfChoice (l : Launch) (G : Gx) (a : Nat → Nat) (σ : St) (k d t : Nat) (hkk : k < 1501) (hd : OKd σ d) (htn : t < npt σ d) : MM l G ⟨"NestedDeeds$Weighing", "placeOfChoice", "(III)I"⟩ prog_11_method_4_code 6 (some .int) 1 25 [.ref (a 21), .int (nI k), .int (nI d), .int (nI t)] (cw G a σ) (fun rv w => rv = some (.int (oI (plc σ k d t))) ∧ w = cw G a σ) := by
  refine MM.of (lv := [(0, .ref (a 21)), (1, .int (nI k)), (2, .int (nI d)), (3, .int (nI t))]) (by decide +kernel) rfl (Nat.le_of_ble_eq_true rfl) ?_
  intro Z hRf hRl hl hG hn hk ht hA hQ X
  subst hG hl
  have X : XC Z "NestedDeeds$Weighing" prog_11_method_4_code (some .int) := X
  have hk0 : zk Z ≤ (zR Z).cells := hk ▸ Nat.zero_le _
  have ht0 : zt Z ≤ (zR Z).slots := ht ▸ Nat.zero_le _
  obtain ⟨hd1, hd2, hd3, hd4⟩ := hd
  have hnp : t < gA σ 1 (d + 1) - gA σ 1 d := htn
  refine V.iload_n X 3 dX9_placeOfChoice_0 rfl rfl ?_
  refine V.if_neN X 6 dX9_placeOfChoice_1 (by decide) (by omega) (fun c1 => ?_) (fun c1 => ?_)
  · refine V.aload_n X 0 dX9_placeOfChoice_6 rfl rfl ?_
    refine Vg_c_21_deeds X (Or.inr tw_188) tw_187 dX9_placeOfChoice_7 ?_
    refine V.iload_n X 2 dX9_placeOfChoice_10 rfl rfl ?_
    refine V.callV X rfl (c_partsOf (zl Z) (zG Z) a σ d (by omega) (by first | omega | exact hd2)) cv_X9_31 rfl 1 rfl rfl (len hRf (by decide)) (len hRl (by decide)) hk0 ht0 [] rfl (Nat.le_of_ble_eq_true rfl) dX9_placeOfChoice_11 ?_
    rintro _ _ ⟨rfl, rfl⟩
    refine V.eqs (st' := [.int (nI ((gA σ 1) (d + 1) - (gA σ 1) d))]) rfl ?_
    refine V.iconst X (v := nI 1) dX9_placeOfChoice_14 (by decide) ?_
    refine V.isubN X dX9_placeOfChoice_15 (by omega) ?_
    refine V.i2lN X dX9_placeOfChoice_16 (by omega) ?_
    refine V.lstore X (lv' := [(4, .long (lN (((gA σ 1) (d + 1) - (gA σ 1) d) - 1))), (0, .ref (a 21)), (1, .int (nI k)), (2, .int (nI d)), (3, .int (nI t))]) dX9_placeOfChoice_17 (ltn hn (by decide)) rfl ?_
    refine V.iload_n X 4 dX9_placeOfChoice_19 rfl rfl ?_
    refine V.iconst X (v := nI 1) dX9_placeOfChoice_20 (by decide) ?_
    refine V.icmp_gtN X 31 dX9_placeOfChoice_21 (by decide) (by omega) (by decide) (fun c21 => ?_) (fun c21 => ?_)
    · refine V.iconst X (v := -1) dX9_placeOfChoice_31 (by decide) ?_
      exact V.iret X rfl hA hk ht hQ rfl dX9_placeOfChoice_32 (⟨by rw [plc, if_neg c1, if_neg (show ¬ (t = 1 ∧ 2 ≤ npt σ d) by simp only [npt]; omega)]; rfl, rfl⟩)
    · refine V.lload X 0 dX9_placeOfChoice_24 rfl ?_
      refine V.lconst X (v := lN 1) dX9_placeOfChoice_26 (by decide) ?_
      refine V.lif_geK X 33 dX9_placeOfChoice_27 dX9_placeOfChoice_28 (by decide) (by omega) (by omega) (fun c27 => ?_) (fun c27 => ?_)
      · refine V.iconst X (v := nI 1) dX9_placeOfChoice_33 (by decide) ?_
        refine V.aload_n X 1 dX9_placeOfChoice_34 rfl rfl ?_
        refine Vg_c_21_worthAt X tw_220 dX9_placeOfChoice_35 ?_
        refine V.iload_n X 2 dX9_placeOfChoice_38 rfl rfl ?_
        refine Va_c_reckoned (x := gL σ 0 k) X (by omega) dX9_placeOfChoice_39 rfl ?_
        refine V.lload X 0 dX9_placeOfChoice_40 rfl ?_
        refine V.callS X rfl (k_jfmod (zl Z) (zG Z) (cw (zG Z) a σ) (gL σ 0 k) (lN (((gA σ 1) (d + 1) - (gA σ 1) d) - 1)) (by exact lN_ne0 (by omega) (by omega))) cs_X9_43 rfl (len hRf (by decide)) (len hRl (by decide)) hk0 ht0 [.int (nI 1)] rfl (Nat.le_of_ble_eq_true rfl) dX9_placeOfChoice_42 ?_
        rintro _ _ ⟨rfl, rfl⟩
        refine V.eqs (st' := [.long (fmodL (gL σ 0 k) (lN (((gA σ 1) (d + 1) - (gA σ 1) d) - 1))), .int (nI 1)]) rfl ?_
        refine V.topl (fmodL_nat _ (by omega) (by omega)) ?_
        refine V.l2i X (v := nI (fmodN (gL σ 0 k) (gA σ 1 (d + 1) - gA σ 1 d - 1))) dX9_placeOfChoice_45 (lN_i _) ?_
        refine V.iaddN X dX9_placeOfChoice_46 ?_
        exact V.iret X rfl hA hk ht hQ rfl dX9_placeOfChoice_47 (⟨by rw [plc, if_neg c1, if_pos (show t = 1 ∧ 2 ≤ npt σ d by simp only [npt]; omega)]; rfl, rfl⟩)
      · refine V.iconst X (v := -1) dX9_placeOfChoice_31 (by decide) ?_
        exact V.iret X rfl hA hk ht hQ rfl dX9_placeOfChoice_32 (⟨by rw [plc, if_neg c1, if_neg (show ¬ (t = 1 ∧ 2 ≤ npt σ d) by simp only [npt]; omega)]; rfl, rfl⟩)
  · refine V.iconst X (v := nI 0) dX9_placeOfChoice_4 (by decide) ?_
    exact V.iret X rfl hA hk ht hQ rfl dX9_placeOfChoice_5 (⟨by rw [plc, if_pos c1]; rfl, rfl⟩)

theorem plc_lt {σ : St} {k d t i : Nat} (h : plc σ k d t = some i) (ht : t < npt σ d) (h3 : gA σ 1 (d + 1) ≤ 4000) : i < 2 ^ 31 := by
  simp only [plc] at h
  have hnp : npt σ d = gA σ 1 (d + 1) - gA σ 1 d := rfl
  by_cases h1 : t = 0
  · rw [if_pos h1] at h; cases h; decide
  · rw [if_neg h1] at h
    by_cases h2 : t = 1 ∧ 2 ≤ npt σ d
    · rw [if_pos h2] at h
      cases h
      have := fmodN_lt (gL σ 0 k) (show 0 < npt σ d - 1 by omega)
      omega
    · rw [if_neg h2] at h; cases h
set_option maxHeartbeats 4000000 in
set_option maxRecDepth 100000 in
theorem t21_choose (l : Launch) (G : Gx) (a : Nat → Nat) (σ : St) (k d t : Nat) (hkk : k < 1501) (hd : OKd σ d) (htn : t < npt σ d) : MM l G ⟨"NestedDeeds$Weighing", "choose", "(III)I"⟩ prog_11_method_3_code 4 (some .int) 2 50 [.ref (a 21), .int (nI k), .int (nI d), .int (nI t)] (cw G a σ) (fun rv w => rv = some (.int (oI (tC21 σ k d t))) ∧ w = cw G a σ) := by
  refine MM.of (lv := [(0, .ref (a 21)), (1, .int (nI k)), (2, .int (nI d)), (3, .int (nI t))]) (by decide +kernel) rfl (Nat.le_of_ble_eq_true rfl) ?_
  intro Z hRf hRl hl hG hn hk ht hA hQ X
  subst hG hl
  have X : XC Z "NestedDeeds$Weighing" prog_11_method_3_code (some .int) := X
  have hk0 : zk Z ≤ (zR Z).cells := hk ▸ Nat.zero_le _
  have ht0 : zt Z ≤ (zR Z).slots := ht ▸ Nat.zero_le _
  obtain ⟨hd1, hd2, hd3, hd4⟩ := hd
  have hnp : t < gA σ 1 (d + 1) - gA σ 1 d := htn
  refine V.aload_n X 0 dX9_choose_0 rfl rfl ?_
  refine Vg_c_21_deeds X (Or.inr tw_188) tw_187 dX9_choose_1 ?_
  refine Vg_c_1_kind X tw_80 dX9_choose_4 ?_
  refine V.iload_n X 2 dX9_choose_7 rfl rfl ?_
  refine Va_c_kind (x := gA σ 0 d) X (by omega) dX9_choose_8 rfl ?_
  rcases (show (gA σ 0 d) = 0 ∨ (gA σ 0 d) = 7 ∨ (gA σ 0 d) = 8 ∨ ((gA σ 0 d) ≠ 0 ∧ (gA σ 0 d) ≠ 7 ∧ (gA σ 0 d) ≠ 8) by omega) with s9 | s9 | s9 | s9
  · refine V.topi (y := nI 0) (by rw [s9]) (V.lookup X 44 dX9_choose_9 (by decide) (off := 35) (by decide) (by decide) ?_)
    refine V.iconst X (v := -1) dX9_choose_44 (by decide) ?_
    exact V.iret X rfl hA hk ht hQ rfl dX9_choose_45 (⟨by rw [tC21, if_pos s9]; rfl, rfl⟩)
  · refine V.topi (y := nI 7) (by rw [s9]) (V.lookup X 46 dX9_choose_9 (by decide) (off := 37) (by decide) (by decide) ?_)
    refine V.aload_n X 0 dX9_choose_46 rfl rfl ?_
    refine Vg_c_21_deeds X (Or.inr tw_188) tw_187 dX9_choose_47 ?_
    refine V.iload_n X 2 dX9_choose_50 rfl rfl ?_
    refine V.aload_n X 0 dX9_choose_51 rfl rfl ?_
    refine V.iload_n X 1 dX9_choose_52 rfl rfl ?_
    refine V.iload_n X 2 dX9_choose_53 rfl rfl ?_
    refine V.iload_n X 3 dX9_choose_54 rfl rfl ?_
    refine V.callV X rfl (t21_placeOfChoice (zl Z) (zG Z) a σ k d t hkk ⟨hd1, hd2, hd3, hd4⟩ htn) cv_X9_35 rfl 21 rfl rfl (len hRf (by decide)) (len hRl (by decide)) hk0 ht0 [.int (nI d), .ref (a 1)] rfl (Nat.le_of_ble_eq_true rfl) dX9_choose_55 ?_
    rintro _ _ ⟨rfl, rfl⟩
    refine V.eqs (st' := [.int (oI (plc σ k d t)), .int (nI d), .ref (a 1)]) rfl ?_
    rcases hpl : plc σ k d t with _ | i
    · refine V.topi (y := -1) rfl ?_
      refine V.callV X rfl (c_partAtM (zl Z) (zG Z) a σ d) cv_X9_39 rfl 1 rfl rfl (len hRf (by decide)) (len hRl (by decide)) hk0 ht0 [] rfl (Nat.le_of_ble_eq_true rfl) dX9_choose_58 ?_
      rintro _ _ ⟨rfl, rfl⟩
      refine V.eqs (st' := [.int (-1)]) rfl ?_
      exact V.iret X rfl hA hk ht hQ rfl dX9_choose_61 (⟨by rw [tC21, if_neg (show ¬ (gA σ 0 d = 0) by omega), if_pos s9, hpl]; rfl, rfl⟩)
    · have hi : i < 2 ^ 31 := plc_lt hpl htn hd3
      refine V.topi (y := nI i) rfl ?_
      refine V.callV X rfl (c_partAt (zl Z) (zG Z) a σ d i (by omega) (by omega) (by first | omega | exact hd2) (by first | omega | exact hd3)) cv_X9_39 rfl 1 rfl rfl (len hRf (by decide)) (len hRl (by decide)) hk0 ht0 [] rfl (Nat.le_of_ble_eq_true rfl) dX9_choose_58 ?_
      rintro _ _ ⟨rfl, rfl⟩
      refine V.eqs (st' := [.int (oI (if i < (gA σ 1) (d + 1) - (gA σ 1) d then some ((gA σ 2) ((gA σ 1) d + i)) else none))]) rfl ?_
      exact V.iret X rfl hA hk ht hQ rfl dX9_choose_61 (⟨by rw [tC21, if_neg (show ¬ (gA σ 0 d = 0) by omega), if_pos s9, hpl]; rfl, rfl⟩)
  · refine V.topi (y := nI 8) (by rw [s9]) (V.lookup X 62 dX9_choose_9 (by decide) (off := 53) (by decide) (by decide) ?_)
    refine V.iload_n X 3 dX9_choose_62 rfl rfl ?_
    refine V.if_leN X 83 dX9_choose_63 (by decide) (by omega) (fun c63 => ?_) (fun c63 => ?_)
    · refine V.aload_n X 0 dX9_choose_83 rfl rfl ?_
      refine Vg_c_21_deeds X (Or.inr tw_188) tw_187 dX9_choose_84 ?_
      refine V.iload_n X 2 dX9_choose_87 rfl rfl ?_
      refine V.iload_n X 3 dX9_choose_88 rfl rfl ?_
      refine V.callV X rfl (c_partAt (zl Z) (zG Z) a σ d t (by omega) (by omega) (by first | omega | exact hd2) (by first | omega | exact hd3)) cv_X9_39 rfl 1 rfl rfl (len hRf (by decide)) (len hRl (by decide)) hk0 ht0 [] rfl (Nat.le_of_ble_eq_true rfl) dX9_choose_89 ?_
      rintro _ _ ⟨rfl, rfl⟩
      refine V.eqs (st' := [.int (oI (if t < (gA σ 1) (d + 1) - (gA σ 1) d then some ((gA σ 2) ((gA σ 1) d + t)) else none))]) rfl ?_
      exact V.iret X rfl hA hk ht hQ rfl dX9_choose_92 (⟨by rw [tC21, if_neg (show ¬ (gA σ 0 d = 0) by omega), if_neg (show ¬ (gA σ 0 d = 7) by omega), if_pos s9, if_neg (show ¬ (0 < t ∧ ¬ gL σ 0 (k + 1) = lN 0) by omega)]; rfl, rfl⟩)
    · refine V.aload_n X 0 dX9_choose_66 rfl rfl ?_
      refine Vg_c_21_worthAt X tw_220 dX9_choose_67 ?_
      refine V.iload_n X 1 dX9_choose_70 rfl rfl ?_
      refine V.iconst X (v := nI 1) dX9_choose_71 (by decide) ?_
      refine V.iaddN X dX9_choose_72 ?_
      refine Va_c_reckoned (x := gL σ 0 (k + 1)) X (by omega) dX9_choose_73 rfl ?_
      refine V.lconst X (v := lN 0) dX9_choose_74 (by decide) ?_
      refine V.lif_eq X 83 dX9_choose_75 dX9_choose_76 (by decide) (fun c75 => ?_) (fun c75 => ?_)
      · refine V.aload_n X 0 dX9_choose_83 rfl rfl ?_
        refine Vg_c_21_deeds X (Or.inr tw_188) tw_187 dX9_choose_84 ?_
        refine V.iload_n X 2 dX9_choose_87 rfl rfl ?_
        refine V.iload_n X 3 dX9_choose_88 rfl rfl ?_
        refine V.callV X rfl (c_partAt (zl Z) (zG Z) a σ d t (by omega) (by omega) (by first | omega | exact hd2) (by first | omega | exact hd3)) cv_X9_39 rfl 1 rfl rfl (len hRf (by decide)) (len hRl (by decide)) hk0 ht0 [] rfl (Nat.le_of_ble_eq_true rfl) dX9_choose_89 ?_
        rintro _ _ ⟨rfl, rfl⟩
        refine V.eqs (st' := [.int (oI (if t < (gA σ 1) (d + 1) - (gA σ 1) d then some ((gA σ 2) ((gA σ 1) d + t)) else none))]) rfl ?_
        exact V.iret X rfl hA hk ht hQ rfl dX9_choose_92 (⟨by rw [tC21, if_neg (show ¬ (gA σ 0 d = 0) by omega), if_neg (show ¬ (gA σ 0 d = 7) by omega), if_pos s9, if_neg (show ¬ (0 < t ∧ ¬ gL σ 0 (k + 1) = lN 0) from fun q => q.2 c75)]; rfl, rfl⟩)
      · refine V.iconst X (v := -1) dX9_choose_79 (by decide) ?_
        refine V.goto X 92 dX9_choose_80 (by decide) ?_
        exact V.iret X rfl hA hk ht hQ rfl dX9_choose_92 (⟨by rw [tC21, if_neg (show ¬ (gA σ 0 d = 0) by omega), if_neg (show ¬ (gA σ 0 d = 7) by omega), if_pos s9, if_pos (show 0 < t ∧ ¬ gL σ 0 (k + 1) = lN 0 from ⟨c63, c75⟩)]; rfl, rfl⟩)
  · refine V.lookN X 93 dX9_choose_9 (by decide) (by omega) (off := 84) (by show (if (0 : Int) = ((gA σ 0 d : Nat) : Int) then (35 : Int) else if (7 : Int) = ((gA σ 0 d : Nat) : Int) then (37 : Int) else if (8 : Int) = ((gA σ 0 d : Nat) : Int) then (53 : Int) else (84 : Int)) = _; rw [if_neg (by omega), if_neg (by omega), if_neg (by omega)]) (by decide) ?_
    refine V.aload_n X 0 dX9_choose_93 rfl rfl ?_
    refine Vg_c_21_deeds X (Or.inr tw_188) tw_187 dX9_choose_94 ?_
    refine V.iload_n X 2 dX9_choose_97 rfl rfl ?_
    refine V.iload_n X 3 dX9_choose_98 rfl rfl ?_
    refine V.callV X rfl (c_partAt (zl Z) (zG Z) a σ d t (by omega) (by omega) (by first | omega | exact hd2) (by first | omega | exact hd3)) cv_X9_39 rfl 1 rfl rfl (len hRf (by decide)) (len hRl (by decide)) hk0 ht0 [] rfl (Nat.le_of_ble_eq_true rfl) dX9_choose_99 ?_
    rintro _ _ ⟨rfl, rfl⟩
    refine V.eqs (st' := [.int (oI (if t < (gA σ 1) (d + 1) - (gA σ 1) d then some ((gA σ 2) ((gA σ 1) d + t)) else none))]) rfl ?_
    exact V.iret X rfl hA hk ht hQ rfl dX9_choose_102 (⟨by rw [tC21, if_neg (show ¬ (gA σ 0 d = 0) by omega), if_neg (show ¬ (gA σ 0 d = 7) by omega), if_neg (show ¬ (gA σ 0 d = 8) by omega)]; rfl, rfl⟩)

set_option maxHeartbeats 4000000 in
set_option maxRecDepth 100000 in
theorem t21_takeUpLike (l : Launch) (G : Gx) (a : Nat → Nat) (σ : St) (k t : Nat) (x : Int64) (hkk : k < 1501) (htl : t < 2 ^ 31) : MM l G ⟨"NestedDeeds$Weighing", "takeUpLike", "(IIJ)V"⟩ prog_11_method_6_code 5 none 0 0 [.ref (a 21), .int (nI k), .int (nI t), .long x] (cw G a σ) (fun rv w => rv = none ∧ w = cw G a (if t = 0 then sL σ 1 (va_up (gL σ 1) k x) else if gL σ 1 k = x then σ else sL σ 0 (va_up (gL σ 0) k (lN 0)))) := by
  refine MM.of (lv := [(0, .ref (a 21)), (1, .int (nI k)), (2, .int (nI t)), (3, .long x)]) (by decide +kernel) rfl (Nat.le_of_ble_eq_true rfl) ?_
  intro Z hRf hRl hl hG hn hk ht hA hQ X
  subst hG hl
  have X : XC Z "NestedDeeds$Weighing" prog_11_method_6_code none := X
  have hk0 : zk Z ≤ (zR Z).cells := hk ▸ Nat.zero_le _
  have ht0 : zt Z ≤ (zR Z).slots := ht ▸ Nat.zero_le _
  refine V.iload_n X 2 dX9_takeUpLike_0 rfl rfl ?_
  refine V.if_neN X 14 dX9_takeUpLike_1 (by decide) (by omega) (fun c1 => ?_) (fun c1 => ?_)
  · refine V.aload_n X 0 dX9_takeUpLike_14 rfl rfl ?_
    refine Vg_c_21_firstAt X tw_221 dX9_takeUpLike_15 ?_
    refine V.iload_n X 1 dX9_takeUpLike_18 rfl rfl ?_
    refine Va_c_firstAt (x := gL σ 1 k) X (by omega) dX9_takeUpLike_19 rfl ?_
    refine V.lload_n X 3 dX9_takeUpLike_20 rfl rfl ?_
    refine V.lif_eq X 32 dX9_takeUpLike_21 dX9_takeUpLike_22 (by decide) (fun c21 => ?_) (fun c21 => ?_)
    · exact V.vret X rfl hA hk ht hQ rfl dX9_takeUpLike_32 (⟨rfl, by rw [if_neg c1, if_pos c21]⟩)
    · refine V.aload_n X 0 dX9_takeUpLike_25 rfl rfl ?_
      refine Vg_c_21_worthAt X tw_220 dX9_takeUpLike_26 ?_
      refine V.iload_n X 1 dX9_takeUpLike_29 rfl rfl ?_
      refine V.lconst X (v := lN 0) dX9_takeUpLike_30 (by decide) ?_
      refine Vs_c_reckoned (f := gL σ 0) (i := k) (x := lN 0) X (by omega) dX9_takeUpLike_31 rfl ?_
      exact V.vret X rfl hA hk ht hQ rfl dX9_takeUpLike_32 (⟨rfl, by rw [if_neg c1, if_neg c21]⟩)
  · refine V.aload_n X 0 dX9_takeUpLike_4 rfl rfl ?_
    refine Vg_c_21_firstAt X tw_221 dX9_takeUpLike_5 ?_
    refine V.iload_n X 1 dX9_takeUpLike_8 rfl rfl ?_
    refine V.lload_n X 3 dX9_takeUpLike_9 rfl rfl ?_
    refine Vs_c_firstAt (f := gL σ 1) (i := k) (x := x) X (by omega) dX9_takeUpLike_10 rfl ?_
    refine V.goto X 32 dX9_takeUpLike_11 (by decide) ?_
    exact V.vret X rfl hA hk ht hQ rfl dX9_takeUpLike_32 (⟨rfl, by rw [if_pos c1]⟩)

set_option maxHeartbeats 4000000 in
set_option maxRecDepth 100000 in
theorem t21_takeUp (l : Launch) (G : Gx) (a : Nat → Nat) (σ : St) (k d t : Nat) (hkk : k < 1501) (hd : OKd σ d) (htn : t < npt σ d) : MM l G ⟨"NestedDeeds$Weighing", "takeUp", "(III)V"⟩ prog_11_method_5_code 8 none 1 24 [.ref (a 21), .int (nI k), .int (nI d), .int (nI t)] (cw G a σ) (fun rv w => rv = none ∧ w = cw G a (tT21 σ k d t)) := by
  refine MM.of (lv := [(0, .ref (a 21)), (1, .int (nI k)), (2, .int (nI d)), (3, .int (nI t))]) (by decide +kernel) rfl (Nat.le_of_ble_eq_true rfl) ?_
  intro Z hRf hRl hl hG hn hk ht hA hQ X
  subst hG hl
  have X : XC Z "NestedDeeds$Weighing" prog_11_method_5_code none := X
  have hk0 : zk Z ≤ (zR Z).cells := hk ▸ Nat.zero_le _
  have ht0 : zt Z ≤ (zR Z).slots := ht ▸ Nat.zero_le _
  obtain ⟨hd1, hd2, hd3, hd4⟩ := hd
  have hnp : t < gA σ 1 (d + 1) - gA σ 1 d := htn
  refine V.aload_n X 0 dX9_takeUp_0 rfl rfl ?_
  refine Vg_c_21_worthAt X tw_220 dX9_takeUp_1 ?_
  refine V.iload_n X 1 dX9_takeUp_4 rfl rfl ?_
  refine V.iconst X (v := nI 1) dX9_takeUp_5 (by decide) ?_
  refine V.iaddN X dX9_takeUp_6 ?_
  refine Va_c_reckoned (x := gL σ 0 (k + 1)) X (by omega) dX9_takeUp_7 rfl ?_
  refine V.lstore X (lv' := [(4, .long (gL σ 0 (k + 1))), (0, .ref (a 21)), (1, .int (nI k)), (2, .int (nI d)), (3, .int (nI t))]) dX9_takeUp_8 (ltn hn (by decide)) rfl ?_
  refine V.aload_n X 1 dX9_takeUp_10 rfl rfl ?_
  refine Vg_c_21_worthAt X tw_220 dX9_takeUp_11 ?_
  refine V.iload_n X 2 dX9_takeUp_14 rfl rfl ?_
  refine Va_c_reckoned (x := gL σ 0 k) X (by omega) dX9_takeUp_15 rfl ?_
  refine V.lstore X (lv' := [(6, .long (gL σ 0 k)), (4, .long (gL σ 0 (k + 1))), (0, .ref (a 21)), (1, .int (nI k)), (2, .int (nI d)), (3, .int (nI t))]) dX9_takeUp_16 (ltn hn (by decide)) rfl ?_
  refine V.aload_n X 2 dX9_takeUp_18 rfl rfl ?_
  refine Vg_c_21_deeds X (Or.inr tw_188) tw_187 dX9_takeUp_19 ?_
  refine Vg_c_1_kind X tw_80 dX9_takeUp_22 ?_
  refine V.iload_n X 4 dX9_takeUp_25 rfl rfl ?_
  refine Va_c_kind (x := gA σ 0 d) X (by omega) dX9_takeUp_26 rfl ?_
  rcases (show (gA σ 0 d) = 1 ∨ (gA σ 0 d) = 2 ∨ (gA σ 0 d) = 3 ∨ (gA σ 0 d) = 4 ∨ (gA σ 0 d) = 5 ∨ (gA σ 0 d) = 6 ∨ (gA σ 0 d) = 7 ∨ (gA σ 0 d) = 8 ∨ (gA σ 0 d) = 9 ∨ (gA σ 0 d) = 10 ∨ ((gA σ 0 d) ≠ 1 ∧ (gA σ 0 d) ≠ 2 ∧ (gA σ 0 d) ≠ 3 ∧ (gA σ 0 d) ≠ 4 ∧ (gA σ 0 d) ≠ 5 ∧ (gA σ 0 d) ≠ 6 ∧ (gA σ 0 d) ≠ 7 ∧ (gA σ 0 d) ≠ 8 ∧ (gA σ 0 d) ≠ 9 ∧ (gA σ 0 d) ≠ 10) by omega) with s27 | s27 | s27 | s27 | s27 | s27 | s27 | s27 | s27 | s27 | s27
  · refine V.topi (y := nI 1) (by rw [s27]) (V.tableIn X 80 dX9_takeUp_27 (by decide) (by decide) rfl (by decide) ?_)
    refine V.aload_n X 2 dX9_takeUp_80 rfl rfl ?_
    refine Vg_c_21_worthAt X tw_220 dX9_takeUp_81 ?_
    refine V.iload_n X 3 dX9_takeUp_84 rfl rfl ?_
    refine V.lload X 0 dX9_takeUp_85 rfl ?_
    refine V.lload X 1 dX9_takeUp_87 rfl ?_
    refine V.ladd X dX9_takeUp_89 ?_
    refine Vs_c_reckoned (f := gL σ 0) (i := k) (x := (gL σ 0 k) + (gL σ 0 (k + 1))) X (by omega) dX9_takeUp_90 rfl ?_
    refine V.goto X 254 dX9_takeUp_91 (by decide) ?_
    exact V.vret X rfl hA hk ht hQ rfl dX9_takeUp_254 (⟨rfl, by rw [tT21, if_neg (show ¬ (gA σ 0 d = 9) by omega), if_neg (show ¬ (gA σ 0 d = 0 ∨ gA σ 0 d = 11) by omega), wUp, if_pos s27]⟩)
  · refine V.topi (y := nI 2) (by rw [s27]) (V.tableIn X 94 dX9_takeUp_27 (by decide) (by decide) rfl (by decide) ?_)
    refine V.aload_n X 2 dX9_takeUp_94 rfl rfl ?_
    refine Vg_c_21_worthAt X tw_220 dX9_takeUp_95 ?_
    refine V.iload_n X 3 dX9_takeUp_98 rfl rfl ?_
    refine V.lload X 0 dX9_takeUp_99 rfl ?_
    refine V.lload X 1 dX9_takeUp_101 rfl ?_
    refine V.lmul X dX9_takeUp_103 ?_
    refine Vs_c_reckoned (f := gL σ 0) (i := k) (x := (gL σ 0 k) * (gL σ 0 (k + 1))) X (by omega) dX9_takeUp_104 rfl ?_
    refine V.goto X 254 dX9_takeUp_105 (by decide) ?_
    exact V.vret X rfl hA hk ht hQ rfl dX9_takeUp_254 (⟨rfl, by rw [tT21, if_neg (show ¬ (gA σ 0 d = 9) by omega), if_neg (show ¬ (gA σ 0 d = 0 ∨ gA σ 0 d = 11) by omega), wUp, if_neg (show ¬ (gA σ 0 d = 1) by omega), if_pos s27]⟩)
  · refine V.topi (y := nI 3) (by rw [s27]) (V.tableIn X 108 dX9_takeUp_27 (by decide) (by decide) rfl (by decide) ?_)
    refine V.aload_n X 2 dX9_takeUp_108 rfl rfl ?_
    refine Vg_c_21_worthAt X tw_220 dX9_takeUp_109 ?_
    refine V.iload_n X 3 dX9_takeUp_112 rfl rfl ?_
    refine V.iload_n X 5 dX9_takeUp_113 rfl rfl ?_
    refine V.if_neN X 122 dX9_takeUp_114 (by decide) (by omega) (fun c114 => ?_) (fun c114 => ?_)
    · refine V.lload X 0 dX9_takeUp_122 rfl ?_
      refine V.lload X 1 dX9_takeUp_124 rfl ?_
      refine V.lsub X dX9_takeUp_126 ?_
      refine Vs_c_reckoned (f := gL σ 0) (i := k) (x := (gL σ 0 k) - (gL σ 0 (k + 1))) X (by omega) dX9_takeUp_127 rfl ?_
      refine V.goto X 254 dX9_takeUp_128 (by decide) ?_
      exact V.vret X rfl hA hk ht hQ rfl dX9_takeUp_254 (⟨rfl, by rw [tT21, if_neg (show ¬ (gA σ 0 d = 9) by omega), if_neg (show ¬ (gA σ 0 d = 0 ∨ gA σ 0 d = 11) by omega), wUp, if_neg (show ¬ (gA σ 0 d = 1) by omega), if_neg (show ¬ (gA σ 0 d = 2) by omega), if_pos s27, if_neg c114]⟩)
    · refine V.lload X 1 dX9_takeUp_117 rfl ?_
      refine V.goto X 127 dX9_takeUp_119 (by decide) ?_
      refine Vs_c_reckoned (f := gL σ 0) (i := k) (x := gL σ 0 (k + 1)) X (by omega) dX9_takeUp_127 rfl ?_
      refine V.goto X 254 dX9_takeUp_128 (by decide) ?_
      exact V.vret X rfl hA hk ht hQ rfl dX9_takeUp_254 (⟨rfl, by rw [tT21, if_neg (show ¬ (gA σ 0 d = 9) by omega), if_neg (show ¬ (gA σ 0 d = 0 ∨ gA σ 0 d = 11) by omega), wUp, if_neg (show ¬ (gA σ 0 d = 1) by omega), if_neg (show ¬ (gA σ 0 d = 2) by omega), if_pos s27, if_pos c114]⟩)
  · refine V.topi (y := nI 4) (by rw [s27]) (V.tableIn X 131 dX9_takeUp_27 (by decide) (by decide) rfl (by decide) ?_)
    refine V.aload_n X 2 dX9_takeUp_131 rfl rfl ?_
    refine Vg_c_21_worthAt X tw_220 dX9_takeUp_132 ?_
    refine V.iload_n X 3 dX9_takeUp_135 rfl rfl ?_
    refine V.lload X 0 dX9_takeUp_136 rfl ?_
    refine V.lload X 1 dX9_takeUp_138 rfl ?_
    refine V.callS X rfl (k_jmaxl (zl Z) (zG Z) (cw (zG Z) a σ) (gL σ 0 k) (gL σ 0 (k + 1))) cs_X9_49 rfl (len hRf (by decide)) (len hRl (by decide)) hk0 ht0 [.int (nI k), .ref (a 19)] rfl (Nat.le_of_ble_eq_true rfl) dX9_takeUp_140 ?_
    rintro _ _ ⟨rfl, rfl⟩
    refine V.eqs (st' := [.long (if (gL σ 0 k) < (gL σ 0 (k + 1)) then (gL σ 0 (k + 1)) else (gL σ 0 k)), .int (nI k), .ref (a 19)]) rfl ?_
    refine Vs_c_reckoned (f := gL σ 0) (i := k) (x := if (gL σ 0 k) < (gL σ 0 (k + 1)) then (gL σ 0 (k + 1)) else (gL σ 0 k)) X (by omega) dX9_takeUp_143 rfl ?_
    refine V.goto X 254 dX9_takeUp_144 (by decide) ?_
    exact V.vret X rfl hA hk ht hQ rfl dX9_takeUp_254 (⟨rfl, by rw [tT21, if_neg (show ¬ (gA σ 0 d = 9) by omega), if_neg (show ¬ (gA σ 0 d = 0 ∨ gA σ 0 d = 11) by omega), wUp, if_neg (show ¬ (gA σ 0 d = 1) by omega), if_neg (show ¬ (gA σ 0 d = 2) by omega), if_neg (show ¬ (gA σ 0 d = 3) by omega), if_pos s27]⟩)
  · refine V.topi (y := nI 5) (by rw [s27]) (V.tableIn X 147 dX9_takeUp_27 (by decide) (by decide) rfl (by decide) ?_)
    refine V.aload_n X 2 dX9_takeUp_147 rfl rfl ?_
    refine Vg_c_21_worthAt X tw_220 dX9_takeUp_148 ?_
    refine V.iload_n X 3 dX9_takeUp_151 rfl rfl ?_
    refine V.lload X 0 dX9_takeUp_152 rfl ?_
    refine V.lload X 1 dX9_takeUp_154 rfl ?_
    refine V.callS X rfl (k_jminl (zl Z) (zG Z) (cw (zG Z) a σ) (gL σ 0 k) (gL σ 0 (k + 1))) cs_X9_52 rfl (len hRf (by decide)) (len hRl (by decide)) hk0 ht0 [.int (nI k), .ref (a 19)] rfl (Nat.le_of_ble_eq_true rfl) dX9_takeUp_156 ?_
    rintro _ _ ⟨rfl, rfl⟩
    refine V.eqs (st' := [.long (if (gL σ 0 (k + 1)) < (gL σ 0 k) then (gL σ 0 (k + 1)) else (gL σ 0 k)), .int (nI k), .ref (a 19)]) rfl ?_
    refine Vs_c_reckoned (f := gL σ 0) (i := k) (x := if (gL σ 0 (k + 1)) < (gL σ 0 k) then (gL σ 0 (k + 1)) else (gL σ 0 k)) X (by omega) dX9_takeUp_159 rfl ?_
    refine V.goto X 254 dX9_takeUp_160 (by decide) ?_
    exact V.vret X rfl hA hk ht hQ rfl dX9_takeUp_254 (⟨rfl, by rw [tT21, if_neg (show ¬ (gA σ 0 d = 9) by omega), if_neg (show ¬ (gA σ 0 d = 0 ∨ gA σ 0 d = 11) by omega), wUp, if_neg (show ¬ (gA σ 0 d = 1) by omega), if_neg (show ¬ (gA σ 0 d = 2) by omega), if_neg (show ¬ (gA σ 0 d = 3) by omega), if_neg (show ¬ (gA σ 0 d = 4) by omega), if_pos s27]⟩)
  · refine V.topi (y := nI 6) (by rw [s27]) (V.tableIn X 163 dX9_takeUp_27 (by decide) (by decide) rfl (by decide) ?_)
    refine V.aload_n X 2 dX9_takeUp_163 rfl rfl ?_
    refine Vg_c_21_worthAt X tw_220 dX9_takeUp_164 ?_
    refine V.iload_n X 3 dX9_takeUp_167 rfl rfl ?_
    refine V.lload X 0 dX9_takeUp_168 rfl ?_
    refine V.aload_n X 2 dX9_takeUp_170 rfl rfl ?_
    refine Vg_c_21_deeds X (Or.inr tw_188) tw_187 dX9_takeUp_171 ?_
    refine Vg_c_1_number X tw_87 dX9_takeUp_174 ?_
    refine V.iload_n X 4 dX9_takeUp_177 rfl rfl ?_
    refine Va_c_number (x := gJ σ 0 d) X (by omega) dX9_takeUp_178 rfl ?_
    refine V.i2l X dX9_takeUp_179 rfl ?_
    refine V.lmul X dX9_takeUp_180 ?_
    refine V.lload X 1 dX9_takeUp_181 rfl ?_
    refine V.ladd X dX9_takeUp_183 ?_
    refine Vs_c_reckoned (f := gL σ 0) (i := k) (x := ((gL σ 0 k) * (Int32.toInt64 (gJ σ 0 d))) + (gL σ 0 (k + 1))) X (by omega) dX9_takeUp_184 rfl ?_
    refine V.goto X 254 dX9_takeUp_185 (by decide) ?_
    exact V.vret X rfl hA hk ht hQ rfl dX9_takeUp_254 (⟨rfl, by rw [tT21, if_neg (show ¬ (gA σ 0 d = 9) by omega), if_neg (show ¬ (gA σ 0 d = 0 ∨ gA σ 0 d = 11) by omega), wUp, if_neg (show ¬ (gA σ 0 d = 1) by omega), if_neg (show ¬ (gA σ 0 d = 2) by omega), if_neg (show ¬ (gA σ 0 d = 3) by omega), if_neg (show ¬ (gA σ 0 d = 4) by omega), if_neg (show ¬ (gA σ 0 d = 5) by omega), if_pos s27]⟩)
  · refine V.topi (y := nI 7) (by rw [s27]) (V.tableIn X 188 dX9_takeUp_27 (by decide) (by decide) rfl (by decide) ?_)
    refine V.aload_n X 2 dX9_takeUp_188 rfl rfl ?_
    refine Vg_c_21_worthAt X tw_220 dX9_takeUp_189 ?_
    refine V.iload_n X 3 dX9_takeUp_192 rfl rfl ?_
    refine V.lload X 1 dX9_takeUp_193 rfl ?_
    refine Vs_c_reckoned (f := gL σ 0) (i := k) (x := gL σ 0 (k + 1)) X (by omega) dX9_takeUp_195 rfl ?_
    refine V.goto X 254 dX9_takeUp_196 (by decide) ?_
    exact V.vret X rfl hA hk ht hQ rfl dX9_takeUp_254 (⟨rfl, by rw [tT21, if_neg (show ¬ (gA σ 0 d = 9) by omega), if_neg (show ¬ (gA σ 0 d = 0 ∨ gA σ 0 d = 11) by omega), wUp, if_neg (show ¬ (gA σ 0 d = 1) by omega), if_neg (show ¬ (gA σ 0 d = 2) by omega), if_neg (show ¬ (gA σ 0 d = 3) by omega), if_neg (show ¬ (gA σ 0 d = 4) by omega), if_neg (show ¬ (gA σ 0 d = 5) by omega), if_neg (show ¬ (gA σ 0 d = 6) by omega), if_pos s27]⟩)
  · refine V.topi (y := nI 8) (by rw [s27]) (V.tableIn X 199 dX9_takeUp_27 (by decide) (by decide) rfl (by decide) ?_)
    refine V.aload_n X 2 dX9_takeUp_199 rfl rfl ?_
    refine Vg_c_21_worthAt X tw_220 dX9_takeUp_200 ?_
    refine V.iload_n X 3 dX9_takeUp_203 rfl rfl ?_
    refine V.lload X 1 dX9_takeUp_204 rfl ?_
    refine V.lconst X (v := lN 0) dX9_takeUp_206 (by decide) ?_
    refine V.lif_eq X 216 dX9_takeUp_207 dX9_takeUp_208 (by decide) (fun c207 => ?_) (fun c207 => ?_)
    · refine V.lload X 0 dX9_takeUp_216 rfl ?_
      refine Vs_c_reckoned (f := gL σ 0) (i := k) (x := gL σ 0 k) X (by omega) dX9_takeUp_218 rfl ?_
      refine V.goto X 254 dX9_takeUp_219 (by decide) ?_
      exact V.vret X rfl hA hk ht hQ rfl dX9_takeUp_254 (⟨rfl, by rw [tT21, if_neg (show ¬ (gA σ 0 d = 9) by omega), if_neg (show ¬ (gA σ 0 d = 0 ∨ gA σ 0 d = 11) by omega), wUp, if_neg (show ¬ (gA σ 0 d = 1) by omega), if_neg (show ¬ (gA σ 0 d = 2) by omega), if_neg (show ¬ (gA σ 0 d = 3) by omega), if_neg (show ¬ (gA σ 0 d = 4) by omega), if_neg (show ¬ (gA σ 0 d = 5) by omega), if_neg (show ¬ (gA σ 0 d = 6) by omega), if_neg (show ¬ (gA σ 0 d = 7) by omega), if_pos s27, if_pos c207]⟩)
    · refine V.lload X 1 dX9_takeUp_211 rfl ?_
      refine V.goto X 218 dX9_takeUp_213 (by decide) ?_
      refine Vs_c_reckoned (f := gL σ 0) (i := k) (x := gL σ 0 (k + 1)) X (by omega) dX9_takeUp_218 rfl ?_
      refine V.goto X 254 dX9_takeUp_219 (by decide) ?_
      exact V.vret X rfl hA hk ht hQ rfl dX9_takeUp_254 (⟨rfl, by rw [tT21, if_neg (show ¬ (gA σ 0 d = 9) by omega), if_neg (show ¬ (gA σ 0 d = 0 ∨ gA σ 0 d = 11) by omega), wUp, if_neg (show ¬ (gA σ 0 d = 1) by omega), if_neg (show ¬ (gA σ 0 d = 2) by omega), if_neg (show ¬ (gA σ 0 d = 3) by omega), if_neg (show ¬ (gA σ 0 d = 4) by omega), if_neg (show ¬ (gA σ 0 d = 5) by omega), if_neg (show ¬ (gA σ 0 d = 6) by omega), if_neg (show ¬ (gA σ 0 d = 7) by omega), if_pos s27, if_neg c207]⟩)
  · refine V.topi (y := nI 9) (by rw [s27]) (V.tableIn X 222 dX9_takeUp_27 (by decide) (by decide) rfl (by decide) ?_)
    refine V.aload_n X 2 dX9_takeUp_222 rfl rfl ?_
    refine V.iload_n X 3 dX9_takeUp_223 rfl rfl ?_
    refine V.iload_n X 5 dX9_takeUp_224 rfl rfl ?_
    refine V.lload X 1 dX9_takeUp_225 rfl ?_
    refine V.callV X rfl (t21_takeUpLike (zl Z) (zG Z) a σ k t (gL σ 0 (k + 1)) hkk (by omega)) cv_X9_55 rfl 21 rfl rfl (len hRf (by decide)) (len hRl (by decide)) hk0 ht0 [] rfl (Nat.le_of_ble_eq_true rfl) dX9_takeUp_227 ?_
    rintro _ _ ⟨rfl, rfl⟩
    refine V.eqs (st' := []) rfl ?_
    refine V.goto X 254 dX9_takeUp_230 (by decide) ?_
    exact V.vret X rfl hA hk ht hQ rfl dX9_takeUp_254 (⟨rfl, by rw [tT21, if_pos s27]⟩)
  · refine V.topi (y := nI 10) (by rw [s27]) (V.tableIn X 233 dX9_takeUp_27 (by decide) (by decide) rfl (by decide) ?_)
    refine V.aload_n X 2 dX9_takeUp_233 rfl rfl ?_
    refine Vg_c_21_worthAt X tw_220 dX9_takeUp_234 ?_
    refine V.iload_n X 3 dX9_takeUp_237 rfl rfl ?_
    refine V.lload X 0 dX9_takeUp_238 rfl ?_
    refine V.lload X 1 dX9_takeUp_240 rfl ?_
    refine V.iload_n X 5 dX9_takeUp_242 rfl rfl ?_
    refine V.bipush X (v := nI 64) dX9_takeUp_243 (by decide) ?_
    refine V.iremN X dX9_takeUp_245 (by omega) (by omega) (by omega) ?_
    refine V.callS X rfl (k_jrot (zl Z) (zG Z) (cw (zG Z) a σ) (gL σ 0 (k + 1)) (nI (t % 64))) cs_X9_59 rfl (len hRf (by decide)) (len hRl (by decide)) hk0 ht0 [.long (gL σ 0 k), .int (nI k), .ref (a 19)] rfl (Nat.le_of_ble_eq_true rfl) dX9_takeUp_246 ?_
    rintro _ _ ⟨rfl, rfl⟩
    refine V.eqs (st' := [.long (((gL σ 0 (k + 1)) <<< (Int32.toInt64 (nI (t % 64)) &&& 63)) ||| (Int64.toUInt64 (gL σ 0 (k + 1)) >>> ((-(nI (t % 64)) : Int32).toInt64.toUInt64 &&& Int64.toUInt64 63)).toInt64), .long (gL σ 0 k), .int (nI k), .ref (a 19)]) rfl ?_
    refine V.lxor X dX9_takeUp_249 ?_
    refine Vs_c_reckoned (f := gL σ 0) (i := k) (x := (gL σ 0 k) ^^^ (((gL σ 0 (k + 1)) <<< (Int32.toInt64 (nI (t % 64)) &&& 63)) ||| (Int64.toUInt64 (gL σ 0 (k + 1)) >>> ((-(nI (t % 64)) : Int32).toInt64.toUInt64 &&& Int64.toUInt64 63)).toInt64)) X (by omega) dX9_takeUp_250 rfl ?_
    refine V.goto X 254 dX9_takeUp_251 (by decide) ?_
    exact V.vret X rfl hA hk ht hQ rfl dX9_takeUp_254 (⟨rfl, by rw [tT21, if_neg (show ¬ (gA σ 0 d = 9) by omega), if_neg (show ¬ (gA σ 0 d = 0 ∨ gA σ 0 d = 11) by omega), wUp, if_neg (show ¬ (gA σ 0 d = 1) by omega), if_neg (show ¬ (gA σ 0 d = 2) by omega), if_neg (show ¬ (gA σ 0 d = 3) by omega), if_neg (show ¬ (gA σ 0 d = 4) by omega), if_neg (show ¬ (gA σ 0 d = 5) by omega), if_neg (show ¬ (gA σ 0 d = 6) by omega), if_neg (show ¬ (gA σ 0 d = 7) by omega), if_neg (show ¬ (gA σ 0 d = 8) by omega), if_pos s27]; rfl⟩)
  · refine V.tabOutN X 254 dX9_takeUp_27 (by omega) (by omega) (by decide) ?_
    exact V.vret X rfl hA hk ht hQ rfl dX9_takeUp_254 (⟨rfl, by rw [tT21, if_neg (show ¬ (gA σ 0 d = 9) by omega), if_pos (show gA σ 0 d = 0 ∨ gA σ 0 d = 11 by omega)]⟩)

def dif (σ : St) (d o : Nat) : Bool := decide (¬ (gA σ 0 d = gA σ 0 o ∧ gJ σ 0 d = gJ σ 0 o ∧ npt σ d = npt σ o))
def tE24 (σ : St) (k d : Nat) : St := sB σ 24 (dif σ d (gA σ 9 k))
def tC24 (σ : St) (k d t : Nat) : St := if gA σ 9 k = d then σ else sA σ 9 (va_up (gA σ 9) (k + 1) (gA σ 2 (gA σ 1 (gA σ 9 k) + t)))
def tC24r (σ : St) (k d t : Nat) : Option Nat := if gA σ 9 k = d then none else prt σ d t
set_option maxHeartbeats 4000000 in
set_option maxRecDepth 100000 in
theorem t24_begin (l : Launch) (G : Gx) (a : Nat → Nat) (σ : St) (o : Nat) : MM l G ⟨"NestedDeeds$Comparing", "begin", "(I)V"⟩ prog_2_method_2_code 2 none 0 0 [.ref (a 24), .int (nI o)] (cw G a σ) (fun rv w => rv = none ∧ w = cw G a (sA σ 9 (va_up (gA σ 9) 1 o))) := by
  refine MM.of (lv := [(0, .ref (a 24)), (1, .int (nI o))]) (by decide +kernel) rfl (Nat.le_of_ble_eq_true rfl) ?_
  intro Z hRf hRl hl hG hn hk ht hA hQ X
  subst hG hl
  have X : XC Z "NestedDeeds$Comparing" prog_2_method_2_code none := X
  have hk0 : zk Z ≤ (zR Z).cells := hk ▸ Nat.zero_le _
  have ht0 : zt Z ≤ (zR Z).slots := ht ▸ Nat.zero_le _
  refine V.aload_n X 0 dX0_begin_0 rfl rfl ?_
  refine Vg_c_24_otherAt X tw_247 dX0_begin_1 ?_
  refine V.iconst X (v := nI 1) dX0_begin_4 (by decide) ?_
  refine V.iload_n X 1 dX0_begin_5 rfl rfl ?_
  refine Vs_c_otherAt (f := gA σ 9) (i := 1) (x := o) X (by omega) dX0_begin_6 rfl ?_
  exact V.vret X rfl hA hk ht hQ rfl dX0_begin_7 (⟨rfl, rfl⟩)

set_option maxHeartbeats 4000000 in
set_option maxRecDepth 100000 in
theorem t24_enter (l : Launch) (G : Gx) (a : Nat → Nat) (σ : St) (k d : Nat) (hkk : k < 1501) (hd : OKd σ d) (ho : OKd σ (gA σ 9 k)) : MM l G ⟨"NestedDeeds$Comparing", "enter", "(II)V"⟩ prog_2_method_3_code 4 none 1 21 [.ref (a 24), .int (nI k), .int (nI d)] (cw G a σ) (fun rv w => rv = none ∧ w = cw G a (tE24 σ k d)) := by
  refine MM.of (lv := [(0, .ref (a 24)), (1, .int (nI k)), (2, .int (nI d))]) (by decide +kernel) rfl (Nat.le_of_ble_eq_true rfl) ?_
  intro Z hRf hRl hl hG hn hk ht hA hQ X
  subst hG hl
  have X : XC Z "NestedDeeds$Comparing" prog_2_method_3_code none := X
  have hk0 : zk Z ≤ (zR Z).cells := hk ▸ Nat.zero_le _
  have ht0 : zt Z ≤ (zR Z).slots := ht ▸ Nat.zero_le _
  obtain ⟨hd1, hd2, hd3, hd4⟩ := hd
  obtain ⟨ho1, ho2, ho3, ho4⟩ := ho
  refine V.aload_n X 0 dX0_enter_0 rfl rfl ?_
  refine Vg_c_24_otherAt X tw_247 dX0_enter_1 ?_
  refine V.iload_n X 1 dX0_enter_4 rfl rfl ?_
  refine Va_c_otherAt (x := gA σ 9 k) X (by omega) dX0_enter_5 rfl ?_
  refine V.istore_n X (lv' := [(3, .int (nI (gA σ 9 k))), (0, .ref (a 24)), (1, .int (nI k)), (2, .int (nI d))]) dX0_enter_6 rfl (ltn hn (by decide)) rfl ?_
  refine V.aload_n X 1 dX0_enter_7 rfl rfl ?_
  refine V.aload_n X 1 dX0_enter_8 rfl rfl ?_
  refine Vg_c_24_deeds X (Or.inr tw_194) tw_193 dX0_enter_9 ?_
  refine Vg_c_1_kind X tw_82 dX0_enter_12 ?_
  refine V.iload_n X 3 dX0_enter_15 rfl rfl ?_
  refine Va_c_kind (x := gA σ 0 d) X (by omega) dX0_enter_16 rfl ?_
  refine V.aload_n X 1 dX0_enter_17 rfl rfl ?_
  refine Vg_c_24_deeds X (Or.inr tw_194) tw_193 dX0_enter_18 ?_
  refine Vg_c_1_kind X tw_82 dX0_enter_21 ?_
  refine V.iload_n X 0 dX0_enter_24 rfl rfl ?_
  refine Va_c_kind (x := gA σ 0 (gA σ 9 k)) X (by omega) dX0_enter_25 rfl ?_
  refine V.icmp_neN X 69 dX0_enter_26 (by decide) (by omega) (by omega) (fun c26 => ?_) (fun c26 => ?_)
  · refine V.iconst X (v := nI 1) dX0_enter_69 (by decide) ?_
    refine V.goto X 74 dX0_enter_70 (by decide) ?_
    refine V.topi (y := bI true) rfl ?_
    refine Vp_c_24_over (x := true) X (Or.inr tw_205) tw_204 dX0_enter_74 ?_
    exact V.vret X rfl hA hk ht hQ rfl dX0_enter_77 (⟨rfl, by simp [tE24, dif, npt, c26]⟩)
  · refine V.aload_n X 1 dX0_enter_29 rfl rfl ?_
    refine Vg_c_24_deeds X (Or.inr tw_194) tw_193 dX0_enter_30 ?_
    refine Vg_c_1_number X tw_90 dX0_enter_33 ?_
    refine V.iload_n X 3 dX0_enter_36 rfl rfl ?_
    refine Va_c_number (x := gJ σ 0 d) X (by omega) dX0_enter_37 rfl ?_
    refine V.aload_n X 1 dX0_enter_38 rfl rfl ?_
    refine Vg_c_24_deeds X (Or.inr tw_194) tw_193 dX0_enter_39 ?_
    refine Vg_c_1_number X tw_90 dX0_enter_42 ?_
    refine V.iload_n X 0 dX0_enter_45 rfl rfl ?_
    refine Va_c_number (x := gJ σ 0 (gA σ 9 k)) X (by omega) dX0_enter_46 rfl ?_
    refine V.icmp_ne X 69 dX0_enter_47 (by decide) (fun c47 => ?_) (fun c47 => ?_)
    · refine V.iconst X (v := nI 1) dX0_enter_69 (by decide) ?_
      refine V.goto X 74 dX0_enter_70 (by decide) ?_
      refine V.topi (y := bI true) rfl ?_
      refine Vp_c_24_over (x := true) X (Or.inr tw_205) tw_204 dX0_enter_74 ?_
      exact V.vret X rfl hA hk ht hQ rfl dX0_enter_77 (⟨rfl, by simp [tE24, dif, npt, c26, c47]⟩)
    · refine V.aload_n X 1 dX0_enter_50 rfl rfl ?_
      refine Vg_c_24_deeds X (Or.inr tw_194) tw_193 dX0_enter_51 ?_
      refine V.iload_n X 3 dX0_enter_54 rfl rfl ?_
      refine V.callV X rfl (c_partsOf (zl Z) (zG Z) a σ d (by omega) (by first | omega | exact hd2)) cv_X0_27 rfl 1 rfl rfl (len hRf (by decide)) (len hRl (by decide)) hk0 ht0 [.ref (a 24)] rfl (Nat.le_of_ble_eq_true rfl) dX0_enter_55 ?_
      rintro _ _ ⟨rfl, rfl⟩
      refine V.eqs (st' := [.int (nI ((gA σ 1) (d + 1) - (gA σ 1) d)), .ref (a 24)]) rfl ?_
      refine V.aload_n X 1 dX0_enter_58 rfl rfl ?_
      refine Vg_c_24_deeds X (Or.inr tw_194) tw_193 dX0_enter_59 ?_
      refine V.iload_n X 0 dX0_enter_62 rfl rfl ?_
      refine V.callV X rfl (c_partsOf (zl Z) (zG Z) a σ (gA σ 9 k) (by omega) (by first | omega | exact hd2)) cv_X0_27 rfl 1 rfl rfl (len hRf (by decide)) (len hRl (by decide)) hk0 ht0 [.int (nI ((gA σ 1) (d + 1) - (gA σ 1) d)), .ref (a 24)] rfl (Nat.le_of_ble_eq_true rfl) dX0_enter_63 ?_
      rintro _ _ ⟨rfl, rfl⟩
      refine V.eqs (st' := [.int (nI ((gA σ 1) ((gA σ 9 k) + 1) - (gA σ 1) (gA σ 9 k))), .int (nI ((gA σ 1) (d + 1) - (gA σ 1) d)), .ref (a 24)]) rfl ?_
      refine V.icmp_eqN X 73 dX0_enter_66 (by decide) (by omega) (by omega) (fun c66 => ?_) (fun c66 => ?_)
      · refine V.iconst X (v := nI 0) dX0_enter_73 (by decide) ?_
        refine V.topi (y := bI false) rfl ?_
        refine Vp_c_24_over (x := false) X (Or.inr tw_205) tw_204 dX0_enter_74 ?_
        exact V.vret X rfl hA hk ht hQ rfl dX0_enter_77 (⟨rfl, by simp [tE24, dif, npt, c26, c47, c66]⟩)
      · refine V.iconst X (v := nI 1) dX0_enter_69 (by decide) ?_
        refine V.goto X 74 dX0_enter_70 (by decide) ?_
        refine V.topi (y := bI true) rfl ?_
        refine Vp_c_24_over (x := true) X (Or.inr tw_205) tw_204 dX0_enter_74 ?_
        exact V.vret X rfl hA hk ht hQ rfl dX0_enter_77 (⟨rfl, by simp [tE24, dif, npt, c26, c47, c66]⟩)

set_option maxHeartbeats 4000000 in
set_option maxRecDepth 100000 in
theorem t24_choose (l : Launch) (G : Gx) (a : Nat → Nat) (σ : St) (k d t : Nat) (hkk : k < 1501) (hd : OKd σ d) (htn : t < npt σ d) (ho : OKd σ (gA σ 9 k)) (hne : npt σ d = npt σ (gA σ 9 k)) : MM l G ⟨"NestedDeeds$Comparing", "choose", "(III)I"⟩ prog_2_method_4_code 5 (some .int) 1 22 [.ref (a 24), .int (nI k), .int (nI d), .int (nI t)] (cw G a σ) (fun rv w => rv = some (.int (oI (tC24r σ k d t))) ∧ w = cw G a (tC24 σ k d t)) := by
  refine MM.of (lv := [(0, .ref (a 24)), (1, .int (nI k)), (2, .int (nI d)), (3, .int (nI t))]) (by decide +kernel) rfl (Nat.le_of_ble_eq_true rfl) ?_
  intro Z hRf hRl hl hG hn hk ht hA hQ X
  subst hG hl
  have X : XC Z "NestedDeeds$Comparing" prog_2_method_4_code (some .int) := X
  have hk0 : zk Z ≤ (zR Z).cells := hk ▸ Nat.zero_le _
  have ht0 : zt Z ≤ (zR Z).slots := ht ▸ Nat.zero_le _
  obtain ⟨hd1, hd2, hd3, hd4⟩ := hd
  obtain ⟨ho1, ho2, ho3, ho4⟩ := ho
  have hnp : t < gA σ 1 (d + 1) - gA σ 1 d := htn
  have hnq : gA σ 1 (d + 1) - gA σ 1 d = gA σ 1 (gA σ 9 k + 1) - gA σ 1 (gA σ 9 k) := hne
  refine V.aload_n X 0 dX0_choose_0 rfl rfl ?_
  refine Vg_c_24_otherAt X tw_247 dX0_choose_1 ?_
  refine V.iload_n X 1 dX0_choose_4 rfl rfl ?_
  refine Va_c_otherAt (x := gA σ 9 k) X (by omega) dX0_choose_5 rfl ?_
  refine V.istore X (lv' := [(4, .int (nI (gA σ 9 k))), (0, .ref (a 24)), (1, .int (nI k)), (2, .int (nI d)), (3, .int (nI t))]) dX0_choose_6 (ltn hn (by decide)) rfl ?_
  refine V.iload X 0 dX0_choose_8 rfl ?_
  refine V.iload_n X 3 dX0_choose_10 rfl rfl ?_
  refine V.icmp_neN X 16 dX0_choose_11 (by decide) (by omega) (by omega) (fun c11 => ?_) (fun c11 => ?_)
  · refine V.aload_n X 1 dX0_choose_16 rfl rfl ?_
    refine Vg_c_24_otherAt X tw_247 dX0_choose_17 ?_
    refine V.iload_n X 2 dX0_choose_20 rfl rfl ?_
    refine V.iconst X (v := nI 1) dX0_choose_21 (by decide) ?_
    refine V.iaddN X dX0_choose_22 ?_
    refine V.aload_n X 1 dX0_choose_23 rfl rfl ?_
    refine Vg_c_24_deeds X (Or.inr tw_194) tw_193 dX0_choose_24 ?_
    refine V.iload X 0 dX0_choose_27 rfl ?_
    refine V.iload_n X 4 dX0_choose_29 rfl rfl ?_
    refine V.callV X rfl (c_partAt (zl Z) (zG Z) a σ (gA σ 9 k) t (by omega) (by omega) (by first | omega | exact hd2) (by first | omega | exact hd3)) cv_X0_35 rfl 1 rfl rfl (len hRf (by decide)) (len hRl (by decide)) hk0 ht0 [.int (nI (k + 1)), .ref (a 25)] rfl (Nat.le_of_ble_eq_true rfl) dX0_choose_30 ?_
    rintro _ _ ⟨rfl, rfl⟩
    refine V.eqs (st' := [.int (oI (if t < (gA σ 1) ((gA σ 9 k) + 1) - (gA σ 1) (gA σ 9 k) then some ((gA σ 2) ((gA σ 1) (gA σ 9 k) + t)) else none)), .int (nI (k + 1)), .ref (a 25)]) rfl ?_
    refine V.topi (y := nI (gA σ 2 (gA σ 1 (gA σ 9 k) + t))) (by rw [if_pos (by omega)]; rfl) ?_
    refine Vs_c_otherAt (f := gA σ 9) (i := k + 1) (x := gA σ 2 (gA σ 1 (gA σ 9 k) + t)) X (by omega) dX0_choose_33 rfl ?_
    refine V.aload_n X 1 dX0_choose_34 rfl rfl ?_
    refine Vg_c_24_deeds X (Or.inr tw_194) tw_193 dX0_choose_35 ?_
    refine V.iload_n X 3 dX0_choose_38 rfl rfl ?_
    refine V.iload_n X 4 dX0_choose_39 rfl rfl ?_
    refine V.callV X rfl (c_partAt (zl Z) (zG Z) a (sA σ 9 (va_up (gA σ 9) (k + 1) (gA σ 2 (gA σ 1 (gA σ 9 k) + t)))) d t (by omega) (by omega) (by first | omega | exact hd2) (by first | omega | exact hd3)) cv_X0_35 rfl 1 rfl rfl (len hRf (by decide)) (len hRl (by decide)) hk0 ht0 [] rfl (Nat.le_of_ble_eq_true rfl) dX0_choose_40 ?_
    rintro _ _ ⟨rfl, rfl⟩
    refine V.eqs (st' := [.int (oI (if t < (gA σ 1) (d + 1) - (gA σ 1) d then some ((gA σ 2) ((gA σ 1) d + t)) else none))]) rfl ?_
    exact V.iret X rfl hA hk ht hQ rfl dX0_choose_43 (⟨by rw [tC24r, if_neg c11]; rfl, by rw [tC24, if_neg c11]⟩)
  · refine V.iconst X (v := -1) dX0_choose_14 (by decide) ?_
    exact V.iret X rfl hA hk ht hQ rfl dX0_choose_15 (⟨by rw [tC24r, if_pos c11]; rfl, by rw [tC24, if_pos c11]⟩)

def tE26 (σ : St) (d : Nat) : St := pAdds σ ((97 + gA σ 0 d) :: numB (gJ σ 0 d) ++ (if 0 < npt σ d then [40] else []))
def tC26 (σ : St) (t : Nat) : St := sB (pAdds σ (if 0 < t then [44] else [])) 26 (gB (pAdds σ (if 0 < t then [44] else [])) 1)
def tC26r (σ : St) (d t : Nat) : Option Nat := if gB (pAdds σ (if 0 < t then [44] else [])) 1 = true then none else prt σ d t
def tL26 (σ : St) (d : Nat) : St := pAdds σ (if 0 < npt σ d then [41] else [])
theorem pAdds_nil {σ : St} (h : gN σ 3 ≤ 6000) : pAdds σ [] = σ := pAddsG_nil _ _ _ _ h
set_option maxHeartbeats 4000000 in
set_option maxRecDepth 100000 in
theorem t26_enter (l : Launch) (G : Gx) (a : Nat → Nat) (σ : St) (k d : Nat) (hkk : k < 1501) (hd : OKd σ d) (hdl : gN σ 3 ≤ 6000) : MM l G ⟨"NestedDeeds$Writing", "enter", "(II)V"⟩ prog_12_method_2_code 3 none 2 47 [.ref (a 26), .int (nI k), .int (nI d)] (cw G a σ) (fun rv w => rv = none ∧ w = cw G a (tE26 σ d)) := by
  refine MM.of (lv := [(0, .ref (a 26)), (1, .int (nI k)), (2, .int (nI d))]) (by decide +kernel) rfl (Nat.le_of_ble_eq_true rfl) ?_
  intro Z hRf hRl hl hG hn hk ht hA hQ X
  subst hG hl
  have X : XC Z "NestedDeeds$Writing" prog_12_method_2_code none := X
  have hk0 : zk Z ≤ (zR Z).cells := hk ▸ Nat.zero_le _
  have ht0 : zt Z ≤ (zR Z).slots := ht ▸ Nat.zero_le _
  obtain ⟨hd1, hd2, hd3, hd4⟩ := hd
  refine V.aload_n X 0 dX10_enter_0 rfl rfl ?_
  refine Vg_c_26_draft X tw_259 dX10_enter_1 ?_
  refine V.bipush X (v := nI 97) dX10_enter_4 (by decide) ?_
  refine V.aload_n X 0 dX10_enter_6 rfl rfl ?_
  refine Vg_c_26_deeds X (Or.inr tw_190) tw_189 dX10_enter_7 ?_
  refine Vg_c_1_kind X tw_79 dX10_enter_10 ?_
  refine V.iload_n X 2 dX10_enter_13 rfl rfl ?_
  refine Va_c_kind (x := gA σ 0 d) X (by omega) dX10_enter_14 rfl ?_
  refine V.iaddN X dX10_enter_15 ?_
  refine V.callV X rfl (c_paddD (zl Z) (zG Z) a σ (97 + (gA σ 0 d)) (by exact hdl)) cv_X10_25 rfl 9 rfl rfl (len hRf (by decide)) (len hRl (by decide)) hk0 ht0 [] rfl (Nat.le_of_ble_eq_true rfl) dX10_enter_16 ?_
  rintro _ _ ⟨rfl, rfl⟩
  refine V.eqs (st' := []) rfl ?_
  refine V.aload_n X 0 dX10_enter_19 rfl rfl ?_
  refine Vg_c_26_draft X tw_259 dX10_enter_20 ?_
  refine V.aload_n X 0 dX10_enter_23 rfl rfl ?_
  refine Vg_c_26_deeds X (Or.inr tw_190) tw_189 dX10_enter_24 ?_
  refine Vg_c_1_number X tw_88 dX10_enter_27 ?_
  refine V.iload_n X 2 dX10_enter_30 rfl rfl ?_
  refine Va_c_number (x := gJ σ 0 d) X (by omega) dX10_enter_31 rfl ?_
  refine V.callV X rfl (c_addFigures (zl Z) (zG Z) a (pAdds σ [97 + (gA σ 0 d)]) (gJ σ 0 d) (by exact pAdds_le)) cv_X10_34 rfl 9 rfl rfl (len hRf (by decide)) (len hRl (by decide)) hk0 ht0 [] rfl (Nat.le_of_ble_eq_true rfl) dX10_enter_32 ?_
  rintro _ _ ⟨rfl, rfl⟩
  refine V.eqs (st' := []) rfl ?_
  refine V.aload_n X 0 dX10_enter_35 rfl rfl ?_
  refine Vg_c_26_deeds X (Or.inr tw_190) tw_189 dX10_enter_36 ?_
  refine V.iload_n X 2 dX10_enter_39 rfl rfl ?_
  refine V.callV X rfl (c_partsOf (zl Z) (zG Z) a (pAdds (pAdds σ [97 + (gA σ 0 d)]) (numB (gJ σ 0 d))) d (by omega) (by first | omega | exact hd2)) cv_X10_37 rfl 1 rfl rfl (len hRf (by decide)) (len hRl (by decide)) hk0 ht0 [] rfl (Nat.le_of_ble_eq_true rfl) dX10_enter_40 ?_
  rintro _ _ ⟨rfl, rfl⟩
  refine V.eqs (st' := [.int (nI ((gA σ 1) (d + 1) - (gA σ 1) d))]) rfl ?_
  refine V.if_leN X 55 dX10_enter_43 (by decide) (by omega) (fun c43 => ?_) (fun c43 => ?_)
  · exact V.vret X rfl hA hk ht hQ rfl dX10_enter_55 (⟨rfl, by rw [tE26, if_neg (show ¬ 0 < npt σ d by simp only [npt]; omega), pAdds_app hdl, List.append_nil]; rfl⟩)
  · refine V.aload_n X 0 dX10_enter_46 rfl rfl ?_
    refine Vg_c_26_draft X tw_259 dX10_enter_47 ?_
    refine V.bipush X (v := nI 40) dX10_enter_50 (by decide) ?_
    refine V.callV X rfl (c_paddD (zl Z) (zG Z) a (pAdds (pAdds σ [97 + (gA σ 0 d)]) (numB (gJ σ 0 d))) 40 (by exact pAdds_le)) cv_X10_25 rfl 9 rfl rfl (len hRf (by decide)) (len hRl (by decide)) hk0 ht0 [] rfl (Nat.le_of_ble_eq_true rfl) dX10_enter_52 ?_
    rintro _ _ ⟨rfl, rfl⟩
    refine V.eqs (st' := []) rfl ?_
    exact V.vret X rfl hA hk ht hQ rfl dX10_enter_55 (⟨rfl, by rw [tE26, if_pos (show 0 < npt σ d by simp only [npt]; omega), pAdds_app hdl, pAdds_app hdl]; rfl⟩)

set_option maxHeartbeats 4000000 in
set_option maxRecDepth 100000 in
theorem t26_choose (l : Launch) (G : Gx) (a : Nat → Nat) (σ : St) (k d t : Nat) (hkk : k < 1501) (hd : OKd σ d) (htn : t < npt σ d) (hdl : gN σ 3 ≤ 6000) : MM l G ⟨"NestedDeeds$Writing", "choose", "(III)I"⟩ prog_12_method_3_code 4 (some .int) 1 22 [.ref (a 26), .int (nI k), .int (nI d), .int (nI t)] (cw G a σ) (fun rv w => rv = some (.int (oI (tC26r σ d t))) ∧ w = cw G a (tC26 σ t)) := by
  refine MM.of (lv := [(0, .ref (a 26)), (1, .int (nI k)), (2, .int (nI d)), (3, .int (nI t))]) (by decide +kernel) rfl (Nat.le_of_ble_eq_true rfl) ?_
  intro Z hRf hRl hl hG hn hk ht hA hQ X
  subst hG hl
  have X : XC Z "NestedDeeds$Writing" prog_12_method_3_code (some .int) := X
  have hk0 : zk Z ≤ (zR Z).cells := hk ▸ Nat.zero_le _
  have ht0 : zt Z ≤ (zR Z).slots := ht ▸ Nat.zero_le _
  obtain ⟨hd1, hd2, hd3, hd4⟩ := hd
  have hnp : t < gA σ 1 (d + 1) - gA σ 1 d := htn
  refine V.iload_n X 3 dX10_choose_0 rfl rfl ?_
  refine V.if_leN X 13 dX10_choose_1 (by decide) (by omega) (fun c1 => ?_) (fun c1 => ?_)
  · refine V.aload_n X 0 dX10_choose_13 rfl rfl ?_
    refine V.aload_n X 0 dX10_choose_14 rfl rfl ?_
    refine Vg_c_26_draft X tw_259 dX10_choose_15 ?_
    refine Vg_c_9_overfull (x := gB σ 1) X tw_129 dX10_choose_18 rfl ?_
    refine Vp_c_26_over (x := gB σ 1) X (Or.inr tw_200) tw_199 dX10_choose_21 ?_
    refine V.aload_n X 0 dX10_choose_24 rfl rfl ?_
    refine Vg_c_26_over (x := gB σ 1) X (Or.inr tw_200) tw_199 dX10_choose_25 rfl ?_
    refine V.if_eqB X 35 dX10_choose_28 (by decide) (fun c28 => ?_) (fun c28 => ?_)
    · refine V.aload_n X 0 dX10_choose_35 rfl rfl ?_
      refine Vg_c_26_deeds X (Or.inr tw_190) tw_189 dX10_choose_36 ?_
      refine V.iload_n X 2 dX10_choose_39 rfl rfl ?_
      refine V.iload_n X 3 dX10_choose_40 rfl rfl ?_
      refine V.callV X rfl (c_partAt (zl Z) (zG Z) a (sB σ 26 (gB σ 1)) d t (by omega) (by omega) (by first | omega | exact hd2) (by first | omega | exact hd3)) cv_X10_48 rfl 1 rfl rfl (len hRf (by decide)) (len hRl (by decide)) hk0 ht0 [] rfl (Nat.le_of_ble_eq_true rfl) dX10_choose_41 ?_
      rintro _ _ ⟨rfl, rfl⟩
      refine V.eqs (st' := [.int (oI (if t < (gA σ 1) (d + 1) - (gA σ 1) d then some ((gA σ 2) ((gA σ 1) d + t)) else none))]) rfl ?_
      exact V.iret X rfl hA hk ht hQ rfl dX10_choose_44 (⟨by rw [tC26r, if_neg (show ¬ 0 < t by omega), pAdds_nil hdl, if_neg (show ¬ gB σ 1 = true by rw [c28]; decide)]; rfl, by rw [tC26, if_neg (show ¬ 0 < t by omega), pAdds_nil hdl]⟩)
    · refine V.iconst X (v := -1) dX10_choose_31 (by decide) ?_
      refine V.goto X 44 dX10_choose_32 (by decide) ?_
      exact V.iret X rfl hA hk ht hQ rfl dX10_choose_44 (⟨by rw [tC26r, if_neg (show ¬ 0 < t by omega), pAdds_nil hdl, if_pos c28]; rfl, by rw [tC26, if_neg (show ¬ 0 < t by omega), pAdds_nil hdl]⟩)
  · refine V.aload_n X 0 dX10_choose_4 rfl rfl ?_
    refine Vg_c_26_draft X tw_259 dX10_choose_5 ?_
    refine V.bipush X (v := nI 44) dX10_choose_8 (by decide) ?_
    refine V.callV X rfl (c_paddD (zl Z) (zG Z) a σ 44 (by exact hdl)) cv_X10_25 rfl 9 rfl rfl (len hRf (by decide)) (len hRl (by decide)) hk0 ht0 [] rfl (Nat.le_of_ble_eq_true rfl) dX10_choose_10 ?_
    rintro _ _ ⟨rfl, rfl⟩
    refine V.eqs (st' := []) rfl ?_
    refine V.aload_n X 0 dX10_choose_13 rfl rfl ?_
    refine V.aload_n X 0 dX10_choose_14 rfl rfl ?_
    refine Vg_c_26_draft X tw_259 dX10_choose_15 ?_
    refine Vg_c_9_overfull (x := gB (pAdds σ [44]) 1) X tw_129 dX10_choose_18 rfl ?_
    refine Vp_c_26_over (x := gB (pAdds σ [44]) 1) X (Or.inr tw_200) tw_199 dX10_choose_21 ?_
    refine V.aload_n X 0 dX10_choose_24 rfl rfl ?_
    refine Vg_c_26_over (x := gB (pAdds σ [44]) 1) X (Or.inr tw_200) tw_199 dX10_choose_25 rfl ?_
    refine V.if_eqB X 35 dX10_choose_28 (by decide) (fun c28 => ?_) (fun c28 => ?_)
    · refine V.aload_n X 0 dX10_choose_35 rfl rfl ?_
      refine Vg_c_26_deeds X (Or.inr tw_190) tw_189 dX10_choose_36 ?_
      refine V.iload_n X 2 dX10_choose_39 rfl rfl ?_
      refine V.iload_n X 3 dX10_choose_40 rfl rfl ?_
      refine V.callV X rfl (c_partAt (zl Z) (zG Z) a (sB (pAdds σ [44]) 26 (gB (pAdds σ [44]) 1)) d t (by omega) (by omega) (by first | omega | exact hd2) (by first | omega | exact hd3)) cv_X10_48 rfl 1 rfl rfl (len hRf (by decide)) (len hRl (by decide)) hk0 ht0 [] rfl (Nat.le_of_ble_eq_true rfl) dX10_choose_41 ?_
      rintro _ _ ⟨rfl, rfl⟩
      refine V.eqs (st' := [.int (oI (if t < (gA σ 1) (d + 1) - (gA σ 1) d then some ((gA σ 2) ((gA σ 1) d + t)) else none))]) rfl ?_
      exact V.iret X rfl hA hk ht hQ rfl dX10_choose_44 (⟨by rw [tC26r, if_pos c1, if_neg (show ¬ gB (pAdds σ [44]) 1 = true by rw [c28]; decide)]; rfl, by rw [tC26, if_pos c1]⟩)
    · refine V.iconst X (v := -1) dX10_choose_31 (by decide) ?_
      refine V.goto X 44 dX10_choose_32 (by decide) ?_
      exact V.iret X rfl hA hk ht hQ rfl dX10_choose_44 (⟨by rw [tC26r, if_pos c1, if_pos c28]; rfl, by rw [tC26, if_pos c1]⟩)

set_option maxHeartbeats 4000000 in
set_option maxRecDepth 100000 in
theorem t26_leave (l : Launch) (G : Gx) (a : Nat → Nat) (σ : St) (k d : Nat) (hkk : k < 1501) (hd : OKd σ d) (hdl : gN σ 3 ≤ 6000) : MM l G ⟨"NestedDeeds$Writing", "leave", "(II)V"⟩ prog_12_method_4_code 3 none 1 21 [.ref (a 26), .int (nI k), .int (nI d)] (cw G a σ) (fun rv w => rv = none ∧ w = cw G a (tL26 σ d)) := by
  refine MM.of (lv := [(0, .ref (a 26)), (1, .int (nI k)), (2, .int (nI d))]) (by decide +kernel) rfl (Nat.le_of_ble_eq_true rfl) ?_
  intro Z hRf hRl hl hG hn hk ht hA hQ X
  subst hG hl
  have X : XC Z "NestedDeeds$Writing" prog_12_method_4_code none := X
  have hk0 : zk Z ≤ (zR Z).cells := hk ▸ Nat.zero_le _
  have ht0 : zt Z ≤ (zR Z).slots := ht ▸ Nat.zero_le _
  obtain ⟨hd1, hd2, hd3, hd4⟩ := hd
  refine V.aload_n X 0 dX10_leave_0 rfl rfl ?_
  refine Vg_c_26_deeds X (Or.inr tw_190) tw_189 dX10_leave_1 ?_
  refine V.iload_n X 2 dX10_leave_4 rfl rfl ?_
  refine V.callV X rfl (c_partsOf (zl Z) (zG Z) a σ d (by omega) (by first | omega | exact hd2)) cv_X10_37 rfl 1 rfl rfl (len hRf (by decide)) (len hRl (by decide)) hk0 ht0 [] rfl (Nat.le_of_ble_eq_true rfl) dX10_leave_5 ?_
  rintro _ _ ⟨rfl, rfl⟩
  refine V.eqs (st' := [.int (nI ((gA σ 1) (d + 1) - (gA σ 1) d))]) rfl ?_
  refine V.if_leN X 20 dX10_leave_8 (by decide) (by omega) (fun c8 => ?_) (fun c8 => ?_)
  · exact V.vret X rfl hA hk ht hQ rfl dX10_leave_20 (⟨rfl, by rw [tL26, if_neg (show ¬ 0 < npt σ d by simp only [npt]; omega), pAdds_nil hdl]⟩)
  · refine V.aload_n X 0 dX10_leave_11 rfl rfl ?_
    refine Vg_c_26_draft X tw_259 dX10_leave_12 ?_
    refine V.bipush X (v := nI 41) dX10_leave_15 (by decide) ?_
    refine V.callV X rfl (c_paddD (zl Z) (zG Z) a σ 41 (by exact hdl)) cv_X10_25 rfl 9 rfl rfl (len hRf (by decide)) (len hRl (by decide)) hk0 ht0 [] rfl (Nat.le_of_ble_eq_true rfl) dX10_leave_17 ?_
    rintro _ _ ⟨rfl, rfl⟩
    refine V.eqs (st' := []) rfl ?_
    exact V.vret X rfl hA hk ht hQ rfl dX10_leave_20 (⟨rfl, by rw [tL26, if_pos (show 0 < npt σ d by simp only [npt]; omega)]⟩)

def tE27 (σ : St) (d : Nat) : St := sB σ 27 (decide (nI (gA σ 0 d) = gI σ 4 ∧ gJ σ 0 d = gI σ 5))
set_option maxHeartbeats 4000000 in
set_option maxRecDepth 100000 in
theorem t27_begin (l : Launch) (G : Gx) (a : Nat → Nat) (σ : St) (kk v : Int32) : MM l G ⟨"NestedDeeds$Finding", "begin", "(II)V"⟩ prog_5_method_2_code 3 none 0 0 [.ref (a 27), .int kk, .int v] (cw G a σ) (fun rv w => rv = none ∧ w = cw G a (sI (sI σ 4 kk) 5 v)) := by
  refine MM.of (lv := [(0, .ref (a 27)), (1, .int kk), (2, .int v)]) (by decide +kernel) rfl (Nat.le_of_ble_eq_true rfl) ?_
  intro Z hRf hRl hl hG hn hk ht hA hQ X
  subst hG hl
  have X : XC Z "NestedDeeds$Finding" prog_5_method_2_code none := X
  have hk0 : zk Z ≤ (zR Z).cells := hk ▸ Nat.zero_le _
  have ht0 : zt Z ≤ (zR Z).slots := ht ▸ Nat.zero_le _
  refine V.aload_n X 0 dX3_begin_0 rfl rfl ?_
  refine V.iload_n X 1 dX3_begin_1 rfl rfl ?_
  refine Vp_c_27_kind (x := kk) X tw_271 dX3_begin_2 ?_
  refine V.aload_n X 0 dX3_begin_5 rfl rfl ?_
  refine V.iload_n X 2 dX3_begin_6 rfl rfl ?_
  refine Vp_c_27_number (x := v) X tw_272 dX3_begin_7 ?_
  exact V.vret X rfl hA hk ht hQ rfl dX3_begin_10 (⟨rfl, rfl⟩)

set_option maxHeartbeats 4000000 in
set_option maxRecDepth 100000 in
theorem t27_enter (l : Launch) (G : Gx) (a : Nat → Nat) (σ : St) (k d : Nat) (hkk : k < 1501) (hd : OKd σ d) : MM l G ⟨"NestedDeeds$Finding", "enter", "(II)V"⟩ prog_5_method_3_code 3 none 0 0 [.ref (a 27), .int (nI k), .int (nI d)] (cw G a σ) (fun rv w => rv = none ∧ w = cw G a (tE27 σ d)) := by
  refine MM.of (lv := [(0, .ref (a 27)), (1, .int (nI k)), (2, .int (nI d))]) (by decide +kernel) rfl (Nat.le_of_ble_eq_true rfl) ?_
  intro Z hRf hRl hl hG hn hk ht hA hQ X
  subst hG hl
  have X : XC Z "NestedDeeds$Finding" prog_5_method_3_code none := X
  have hk0 : zk Z ≤ (zR Z).cells := hk ▸ Nat.zero_le _
  have ht0 : zt Z ≤ (zR Z).slots := ht ▸ Nat.zero_le _
  obtain ⟨hd1, hd2, hd3, hd4⟩ := hd
  refine V.aload_n X 0 dX3_enter_0 rfl rfl ?_
  refine V.aload_n X 0 dX3_enter_1 rfl rfl ?_
  refine Vg_c_27_deeds X (Or.inr tw_192) tw_191 dX3_enter_2 ?_
  refine Vg_c_1_kind X tw_81 dX3_enter_5 ?_
  refine V.iload_n X 2 dX3_enter_8 rfl rfl ?_
  refine Va_c_kind (x := gA σ 0 d) X (by omega) dX3_enter_9 rfl ?_
  refine V.aload_n X 0 dX3_enter_10 rfl rfl ?_
  refine Vg_c_27_kind (x := gI σ 4) X tw_271 dX3_enter_11 rfl ?_
  refine V.icmp_ne X 37 dX3_enter_14 (by decide) (fun c14 => ?_) (fun c14 => ?_)
  · refine V.iconst X (v := nI 0) dX3_enter_37 (by decide) ?_
    refine V.topi (y := bI false) rfl ?_
    refine Vp_c_27_over (x := false) X (Or.inr tw_203) tw_202 dX3_enter_38 ?_
    exact V.vret X rfl hA hk ht hQ rfl dX3_enter_41 (⟨rfl, by simp [tE27, c14]⟩)
  · refine V.aload_n X 0 dX3_enter_17 rfl rfl ?_
    refine Vg_c_27_deeds X (Or.inr tw_192) tw_191 dX3_enter_18 ?_
    refine Vg_c_1_number X tw_89 dX3_enter_21 ?_
    refine V.iload_n X 2 dX3_enter_24 rfl rfl ?_
    refine Va_c_number (x := gJ σ 0 d) X (by omega) dX3_enter_25 rfl ?_
    refine V.aload_n X 0 dX3_enter_26 rfl rfl ?_
    refine Vg_c_27_number (x := gI σ 5) X tw_272 dX3_enter_27 rfl ?_
    refine V.icmp_ne X 37 dX3_enter_30 (by decide) (fun c30 => ?_) (fun c30 => ?_)
    · refine V.iconst X (v := nI 0) dX3_enter_37 (by decide) ?_
      refine V.topi (y := bI false) rfl ?_
      refine Vp_c_27_over (x := false) X (Or.inr tw_203) tw_202 dX3_enter_38 ?_
      exact V.vret X rfl hA hk ht hQ rfl dX3_enter_41 (⟨rfl, by simp [tE27, c14, c30]⟩)
    · refine V.iconst X (v := nI 1) dX3_enter_33 (by decide) ?_
      refine V.goto X 38 dX3_enter_34 (by decide) ?_
      refine V.topi (y := bI true) rfl ?_
      refine Vp_c_27_over (x := true) X (Or.inr tw_203) tw_202 dX3_enter_38 ?_
      exact V.vret X rfl hA hk ht hQ rfl dX3_enter_41 (⟨rfl, by simp [tE27, c14, c30]⟩)

