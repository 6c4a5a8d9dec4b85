set_option maxHeartbeats 4000000 in
set_option maxRecDepth 100000 in
theorem t21_leave (l : Launch) (G : Gx) (a : Nat → Nat) (σ : St) (k d : Nat) (hkk : k < 1501) (hd : OKd σ d) : MM l G ⟨"NestedDeeds$Task", "leave", "(II)V"⟩ prog_9_method_5_code 3 none 0 0 [.ref (a 21), .int (nI k), .int (nI d)] (cw G a σ) (fun rv w => rv = none ∧ w = cw G a σ) := by
  refine MM.of (lv := [(0, .ref (a 21)), (1, .int (nI k)), (2, .int (nI d))]) (by decide +kernel) rfl (Nat.le_of_ble_eq_true rfl) ?_
  intro Z hRf hRl hl hG hn hk ht hA hQ X
  subst hG hl
  have X : XC Z "NestedDeeds$Task" prog_9_method_5_code none := X
  have hk0 : zk Z ≤ (zR Z).cells := hk ▸ Nat.zero_le _
  have ht0 : zt Z ≤ (zR Z).slots := ht ▸ Nat.zero_le _
  obtain ⟨hd1, hd2, hd3, hd4⟩ := hd
  exact V.vret X rfl hA hk ht hQ rfl dX7_leave_0 (⟨rfl, rfl⟩)

set_option maxHeartbeats 4000000 in
set_option maxRecDepth 100000 in
theorem t23_choose (l : Launch) (G : Gx) (a : Nat → Nat) (σ : St) (k d t : Nat) (hkk : k < 1501) (hd : OKd σ d) (htn : t < npt σ d) : MM l G ⟨"NestedDeeds$Task", "choose", "(III)I"⟩ prog_9_method_3_code 4 (some .int) 1 22 [.ref (a 23), .int (nI k), .int (nI d), .int (nI t)] (cw G a σ) (fun rv w => rv = some (.int (oI (prt σ d t))) ∧ w = cw G a σ) := by
  refine MM.of (lv := [(0, .ref (a 23)), (1, .int (nI k)), (2, .int (nI d)), (3, .int (nI t))]) (by decide +kernel) rfl (Nat.le_of_ble_eq_true rfl) ?_
  intro Z hRf hRl hl hG hn hk ht hA hQ X
  subst hG hl
  have X : XC Z "NestedDeeds$Task" prog_9_method_3_code (some .int) := X
  have hk0 : zk Z ≤ (zR Z).cells := hk ▸ Nat.zero_le _
  have ht0 : zt Z ≤ (zR Z).slots := ht ▸ Nat.zero_le _
  obtain ⟨hd1, hd2, hd3, hd4⟩ := hd
  have hnp : t < gA σ 1 (d + 1) - gA σ 1 d := htn
  refine V.aload_n X 0 dX7_choose_0 rfl rfl ?_
  refine Vg_c_23_deeds X (Or.inl rfl) tw_186 dX7_choose_1 ?_
  refine V.iload_n X 2 dX7_choose_4 rfl rfl ?_
  refine V.iload_n X 3 dX7_choose_5 rfl rfl ?_
  refine V.callV X rfl (c_partAt (zl Z) (zG Z) a σ d t (by omega) (by omega) (by first | omega | exact hd2) (by first | omega | exact hd3)) cv_X7_13 rfl 1 rfl rfl (len hRf (by decide)) (len hRl (by decide)) hk0 ht0 [] rfl (Nat.le_of_ble_eq_true rfl) dX7_choose_6 ?_
  rintro _ _ ⟨rfl, rfl⟩
  refine V.eqs (st' := [.int (oI (if t < (gA σ 1) (d + 1) - (gA σ 1) d then some ((gA σ 2) ((gA σ 1) d + t)) else none))]) rfl ?_
  exact V.iret X rfl hA hk ht hQ rfl dX7_choose_9 (⟨rfl, rfl⟩)

set_option maxHeartbeats 4000000 in
set_option maxRecDepth 100000 in
theorem t24_takeUp (l : Launch) (G : Gx) (a : Nat → Nat) (σ : St) (k d t : Nat) (hkk : k < 1501) (hd : OKd σ d) (htn : t < npt σ d) : MM l G ⟨"NestedDeeds$Task", "takeUp", "(III)V"⟩ prog_9_method_4_code 4 none 0 0 [.ref (a 24), .int (nI k), .int (nI d), .int (nI t)] (cw G a σ) (fun rv w => rv = none ∧ w = cw G a σ) := by
  refine MM.of (lv := [(0, .ref (a 24)), (1, .int (nI k)), (2, .int (nI d)), (3, .int (nI t))]) (by decide +kernel) rfl (Nat.le_of_ble_eq_true rfl) ?_
  intro Z hRf hRl hl hG hn hk ht hA hQ X
  subst hG hl
  have X : XC Z "NestedDeeds$Task" prog_9_method_4_code none := X
  have hk0 : zk Z ≤ (zR Z).cells := hk ▸ Nat.zero_le _
  have ht0 : zt Z ≤ (zR Z).slots := ht ▸ Nat.zero_le _
  obtain ⟨hd1, hd2, hd3, hd4⟩ := hd
  have hnp : t < gA σ 1 (d + 1) - gA σ 1 d := htn
  exact V.vret X rfl hA hk ht hQ rfl dX7_takeUp_0 (⟨rfl, rfl⟩)

set_option maxHeartbeats 4000000 in
set_option maxRecDepth 100000 in
theorem t24_leave (l : Launch) (G : Gx) (a : Nat → Nat) (σ : St) (k d : Nat) (hkk : k < 1501) (hd : OKd σ d) : MM l G ⟨"NestedDeeds$Task", "leave", "(II)V"⟩ prog_9_method_5_code 3 none 0 0 [.ref (a 24), .int (nI k), .int (nI d)] (cw G a σ) (fun rv w => rv = none ∧ w = cw G a σ) := by
  refine MM.of (lv := [(0, .ref (a 24)), (1, .int (nI k)), (2, .int (nI d))]) (by decide +kernel) rfl (Nat.le_of_ble_eq_true rfl) ?_
  intro Z hRf hRl hl hG hn hk ht hA hQ X
  subst hG hl
  have X : XC Z "NestedDeeds$Task" prog_9_method_5_code none := X
  have hk0 : zk Z ≤ (zR Z).cells := hk ▸ Nat.zero_le _
  have ht0 : zt Z ≤ (zR Z).slots := ht ▸ Nat.zero_le _
  obtain ⟨hd1, hd2, hd3, hd4⟩ := hd
  exact V.vret X rfl hA hk ht hQ rfl dX7_leave_0 (⟨rfl, rfl⟩)

set_option maxHeartbeats 4000000 in
set_option maxRecDepth 100000 in
theorem t26_takeUp (l : Launch) (G : Gx) (a : Nat → Nat) (σ : St) (k d t : Nat) (hkk : k < 1501) (hd : OKd σ d) (htn : t < npt σ d) : MM l G ⟨"NestedDeeds$Task", "takeUp", "(III)V"⟩ prog_9_method_4_code 4 none 0 0 [.ref (a 26), .int (nI k), .int (nI d), .int (nI t)] (cw G a σ) (fun rv w => rv = none ∧ w = cw G a σ) := by
  refine MM.of (lv := [(0, .ref (a 26)), (1, .int (nI k)), (2, .int (nI d)), (3, .int (nI t))]) (by decide +kernel) rfl (Nat.le_of_ble_eq_true rfl) ?_
  intro Z hRf hRl hl hG hn hk ht hA hQ X
  subst hG hl
  have X : XC Z "NestedDeeds$Task" prog_9_method_4_code none := X
  have hk0 : zk Z ≤ (zR Z).cells := hk ▸ Nat.zero_le _
  have ht0 : zt Z ≤ (zR Z).slots := ht ▸ Nat.zero_le _
  obtain ⟨hd1, hd2, hd3, hd4⟩ := hd
  have hnp : t < gA σ 1 (d + 1) - gA σ 1 d := htn
  exact V.vret X rfl hA hk ht hQ rfl dX7_takeUp_0 (⟨rfl, rfl⟩)

set_option maxHeartbeats 4000000 in
set_option maxRecDepth 100000 in
theorem t27_choose (l : Launch) (G : Gx) (a : Nat → Nat) (σ : St) (k d t : Nat) (hkk : k < 1501) (hd : OKd σ d) (htn : t < npt σ d) : MM l G ⟨"NestedDeeds$Task", "choose", "(III)I"⟩ prog_9_method_3_code 4 (some .int) 1 22 [.ref (a 27), .int (nI k), .int (nI d), .int (nI t)] (cw G a σ) (fun rv w => rv = some (.int (oI (prt σ d t))) ∧ w = cw G a σ) := by
  refine MM.of (lv := [(0, .ref (a 27)), (1, .int (nI k)), (2, .int (nI d)), (3, .int (nI t))]) (by decide +kernel) rfl (Nat.le_of_ble_eq_true rfl) ?_
  intro Z hRf hRl hl hG hn hk ht hA hQ X
  subst hG hl
  have X : XC Z "NestedDeeds$Task" prog_9_method_3_code (some .int) := X
  have hk0 : zk Z ≤ (zR Z).cells := hk ▸ Nat.zero_le _
  have ht0 : zt Z ≤ (zR Z).slots := ht ▸ Nat.zero_le _
  obtain ⟨hd1, hd2, hd3, hd4⟩ := hd
  have hnp : t < gA σ 1 (d + 1) - gA σ 1 d := htn
  refine V.aload_n X 0 dX7_choose_0 rfl rfl ?_
  refine Vg_c_27_deeds X (Or.inl rfl) tw_186 dX7_choose_1 ?_
  refine V.iload_n X 2 dX7_choose_4 rfl rfl ?_
  refine V.iload_n X 3 dX7_choose_5 rfl rfl ?_
  refine V.callV X rfl (c_partAt (zl Z) (zG Z) a σ d t (by omega) (by omega) (by first | omega | exact hd2) (by first | omega | exact hd3)) cv_X7_13 rfl 1 rfl rfl (len hRf (by decide)) (len hRl (by decide)) hk0 ht0 [] rfl (Nat.le_of_ble_eq_true rfl) dX7_choose_6 ?_
  rintro _ _ ⟨rfl, rfl⟩
  refine V.eqs (st' := [.int (oI (if t < (gA σ 1) (d + 1) - (gA σ 1) d then some ((gA σ 2) ((gA σ 1) d + t)) else none))]) rfl ?_
  exact V.iret X rfl hA hk ht hQ rfl dX7_choose_9 (⟨rfl, rfl⟩)

set_option maxHeartbeats 4000000 in
set_option maxRecDepth 100000 in
theorem t27_takeUp (l : Launch) (G : Gx) (a : Nat → Nat) (σ : St) (k d t : Nat) (hkk : k < 1501) (hd : OKd σ d) (htn : t < npt σ d) : MM l G ⟨"NestedDeeds$Task", "takeUp", "(III)V"⟩ prog_9_method_4_code 4 none 0 0 [.ref (a 27), .int (nI k), .int (nI d), .int (nI t)] (cw G a σ) (fun rv w => rv = none ∧ w = cw G a σ) := by
  refine MM.of (lv := [(0, .ref (a 27)), (1, .int (nI k)), (2, .int (nI d)), (3, .int (nI t))]) (by decide +kernel) rfl (Nat.le_of_ble_eq_true rfl) ?_
  intro Z hRf hRl hl hG hn hk ht hA hQ X
  subst hG hl
  have X : XC Z "NestedDeeds$Task" prog_9_method_4_code none := X
  have hk0 : zk Z ≤ (zR Z).cells := hk ▸ Nat.zero_le _
  have ht0 : zt Z ≤ (zR Z).slots := ht ▸ Nat.zero_le _
  obtain ⟨hd1, hd2, hd3, hd4⟩ := hd
  have hnp : t < gA σ 1 (d + 1) - gA σ 1 d := htn
  exact V.vret X rfl hA hk ht hQ rfl dX7_takeUp_0 (⟨rfl, rfl⟩)

set_option maxHeartbeats 4000000 in
set_option maxRecDepth 100000 in
theorem t27_leave (l : Launch) (G : Gx) (a : Nat → Nat) (σ : St) (k d : Nat) (hkk : k < 1501) (hd : OKd σ d) : MM l G ⟨"NestedDeeds$Task", "leave", "(II)V"⟩ prog_9_method_5_code 3 none 0 0 [.ref (a 27), .int (nI k), .int (nI d)] (cw G a σ) (fun rv w => rv = none ∧ w = cw G a σ) := by
  refine MM.of (lv := [(0, .ref (a 27)), (1, .int (nI k)), (2, .int (nI d))]) (by decide +kernel) rfl (Nat.le_of_ble_eq_true rfl) ?_
  intro Z hRf hRl hl hG hn hk ht hA hQ X
  subst hG hl
  have X : XC Z "NestedDeeds$Task" prog_9_method_5_code none := X
  have hk0 : zk Z ≤ (zR Z).cells := hk ▸ Nat.zero_le _
  have ht0 : zt Z ≤ (zR Z).slots := ht ▸ Nat.zero_le _
  obtain ⟨hd1, hd2, hd3, hd4⟩ := hd
  exact V.vret X rfl hA hk ht hQ rfl dX7_leave_0 (⟨rfl, rfl⟩)

/-- what the task does, whichever it is -/
def tEnter (σ : St) (k d : Nat) : St := if gN σ 12 = 21 then tE21 σ k d else if gN σ 12 = 23 then tE23 σ k d else if gN σ 12 = 24 then tE24 σ k d else if gN σ 12 = 26 then tE26 σ d else if gN σ 12 = 27 then tE27 σ d else if gN σ 12 = 28 then tE28 σ k d else σ
def tChS (σ : St) (k d t : Nat) : St := if gN σ 12 = 24 then tC24 σ k d t else if gN σ 12 = 26 then tC26 σ t else σ
def tChR (σ : St) (k d t : Nat) : Option Nat := if gN σ 12 = 21 then tC21 σ k d t else if gN σ 12 = 24 then tC24r σ k d t else if gN σ 12 = 26 then tC26r σ d t else if gN σ 12 = 28 then tC28 σ d t else prt σ d t
def tTake (σ : St) (k d t : Nat) : St := if gN σ 12 = 21 then tT21 σ k d t else if gN σ 12 = 23 then tT23 σ k else if gN σ 12 = 28 then tT28 σ k else σ
def tLeave (σ : St) (k d : Nat) : St := if gN σ 12 = 23 then tL23 σ k else if gN σ 12 = 26 then tL26 σ d else if gN σ 12 = 28 then tL28 σ k d else σ
def pE (σ : St) (k d : Nat) : Prop := k < 1501 ∧ OKd σ d ∧ (gN σ 12 = 24 → OKd σ (gA σ 9 k)) ∧ (gN σ 12 = 26 → gN σ 3 ≤ 6000) ∧ (gN σ 12 = 28 → 1 ≤ k ∧ (gB σ 4 = true → ∀ j, gA σ 1 d ≤ j → j < gA σ 1 (d + 1) → gA σ 11 j < 1500))
def pC (σ : St) (k d t : Nat) : Prop := k < 1501 ∧ OKd σ d ∧ t < npt σ d ∧ (gN σ 12 = 24 → OKd σ (gA σ 9 k) ∧ npt σ d = npt σ (gA σ 9 k)) ∧ (gN σ 12 = 26 → gN σ 3 ≤ 6000)
def pT (σ : St) (k d t : Nat) : Prop := k < 1501 ∧ OKd σ d ∧ t < npt σ d
def pL (σ : St) (k d : Nat) : Prop := k < 1501 ∧ OKd σ d ∧ (gN σ 12 = 26 → gN σ 3 ≤ 6000) ∧ (gN σ 12 = 28 → gB σ 3 = true → gZ σ 0 k = true → gN σ 1 < 1500 ∧ gA σ 10 k ≤ gN σ 0 ∧ gN σ 0 ≤ 1500 ∧ gN σ 0 - gA σ 10 k < 1500 ∧ gA σ 1 (gN σ 1) + gA σ 10 k ≤ 4000)

theorem Wk_enter {Z : Cx} {cc : ByteArray} {rt : Option FieldType} {lv : List (Nat × Value)} {pc : Nat} {st : List Value} {a : Nat → Nat} {σ : St} (X : XC Z "NestedDeeds$Walker" cc rt) {k d : Nat} (hT : isT (gN σ 12)) (hp : pE σ k d) (hf : 3 ≤ (zR Z).frames) (hl : 107 ≤ (zR Z).locals) (hk0 : zk Z ≤ (zR Z).cells) (ht0 : zt Z ≤ (zR Z).slots) (hcat : (st.map fun v => v.category).sum ≤ 8) (hd : decode cc pc = .ok (.invokevirtual 91, 3)) (kk : V Z (cw (zG Z) a (tEnter σ k d)) lv (pc + 3) (st)) : V Z (cw (zG Z) a σ) lv pc (.int (nI d) :: .int (nI k) :: .ref (a (gN σ 12)) :: st) := by
  have e12 : a (gN σ 12) = a (gN σ 12) := rfl
  rcases hT with e | e | e | e | e | e | e
  · rw [e]
    refine V.callU X rfl (t20_enter (zl Z) (zG Z) a σ k d hp.1 hp.2.1) cu_X8_91_0 rfl 20 rfl rfl (Nat.le_trans (by decide) hf) (Nat.le_trans (by decide) hl) hk0 ht0 st rfl hcat hd ?_
    rintro _ _ ⟨rfl, rfl⟩
    simp only [tEnter, e] at kk
    exact kk
  · rw [e]
    refine V.callU X rfl (t21_enter (zl Z) (zG Z) a σ k d hp.1 hp.2.1) cu_X8_91_1 rfl 21 rfl rfl (Nat.le_trans (by decide) hf) (Nat.le_trans (by decide) hl) hk0 ht0 st rfl hcat hd ?_
    rintro _ _ ⟨rfl, rfl⟩
    simp only [tEnter, e] at kk
    exact kk
  · rw [e]
    refine V.callU X rfl (t23_enter (zl Z) (zG Z) a σ k d hp.1 hp.2.1) cu_X8_91_2 rfl 23 rfl rfl (Nat.le_trans (by decide) hf) (Nat.le_trans (by decide) hl) hk0 ht0 st rfl hcat hd ?_
    rintro _ _ ⟨rfl, rfl⟩
    simp only [tEnter, e] at kk
    exact kk
  · rw [e]
    refine V.callU X rfl (t24_enter (zl Z) (zG Z) a σ k d hp.1 hp.2.1 (hp.2.2.1 e)) cu_X8_91_3 rfl 24 rfl rfl (Nat.le_trans (by decide) hf) (Nat.le_trans (by decide) hl) hk0 ht0 st rfl hcat hd ?_
    rintro _ _ ⟨rfl, rfl⟩
    simp only [tEnter, e] at kk
    exact kk
  · rw [e]
    refine V.callU X rfl (t26_enter (zl Z) (zG Z) a σ k d hp.1 hp.2.1 (hp.2.2.2.1 e)) cu_X8_91_4 rfl 26 rfl rfl (Nat.le_trans (by decide) hf) (Nat.le_trans (by decide) hl) hk0 ht0 st rfl hcat hd ?_
    rintro _ _ ⟨rfl, rfl⟩
    simp only [tEnter, e] at kk
    exact kk
  · rw [e]
    refine V.callU X rfl (t27_enter (zl Z) (zG Z) a σ k d hp.1 hp.2.1) cu_X8_91_5 rfl 27 rfl rfl (Nat.le_trans (by decide) hf) (Nat.le_trans (by decide) hl) hk0 ht0 st rfl hcat hd ?_
    rintro _ _ ⟨rfl, rfl⟩
    simp only [tEnter, e] at kk
    exact kk
  · rw [e]
    refine V.callU X rfl (t28_enter (zl Z) (zG Z) a σ k d hp.1 hp.2.1 (hp.2.2.2.2 e).1 (hp.2.2.2.2 e).2) cu_X8_91_6 rfl 28 rfl rfl (Nat.le_trans (by decide) hf) (Nat.le_trans (by decide) hl) hk0 ht0 st rfl hcat hd ?_
    rintro _ _ ⟨rfl, rfl⟩
    simp only [tEnter, e] at kk
    exact kk
theorem Wk_choose {Z : Cx} {cc : ByteArray} {rt : Option FieldType} {lv : List (Nat × Value)} {pc : Nat} {st : List Value} {a : Nat → Nat} {σ : St} (X : XC Z "NestedDeeds$Walker" cc rt) {k d t : Nat} (hT : isT (gN σ 12)) (hp : pC σ k d t) (hf : 3 ≤ (zR Z).frames) (hl : 107 ≤ (zR Z).locals) (hk0 : zk Z ≤ (zR Z).cells) (ht0 : zt Z ≤ (zR Z).slots) (hcat : (st.map fun v => v.category).sum ≤ 8) (hd : decode cc pc = .ok (.invokevirtual 98, 3)) (kk : V Z (cw (zG Z) a (tChS σ k d t)) lv (pc + 3) (.int (oI (tChR σ k d t)) :: st)) : V Z (cw (zG Z) a σ) lv pc (.int (nI t) :: .int (nI d) :: .int (nI k) :: .ref (a (gN σ 12)) :: st) := by
  have e12 : a (gN σ 12) = a (gN σ 12) := rfl
  rcases hT with e | e | e | e | e | e | e
  · rw [e]
    refine V.callU X rfl (t20_choose (zl Z) (zG Z) a σ k d t hp.1 hp.2.1 hp.2.2.1) cu_X8_98_0 rfl 20 rfl rfl (Nat.le_trans (by decide) hf) (Nat.le_trans (by decide) hl) hk0 ht0 st rfl hcat hd ?_
    rintro _ _ ⟨rfl, rfl⟩
    simp only [tChS, tChR, e] at kk
    exact kk
  · rw [e]
    refine V.callU X rfl (t21_choose (zl Z) (zG Z) a σ k d t hp.1 hp.2.1 hp.2.2.1) cu_X8_98_1 rfl 21 rfl rfl (Nat.le_trans (by decide) hf) (Nat.le_trans (by decide) hl) hk0 ht0 st rfl hcat hd ?_
    rintro _ _ ⟨rfl, rfl⟩
    simp only [tChS, tChR, e] at kk
    exact kk
  · rw [e]
    refine V.callU X rfl (t23_choose (zl Z) (zG Z) a σ k d t hp.1 hp.2.1 hp.2.2.1) cu_X8_98_2 rfl 23 rfl rfl (Nat.le_trans (by decide) hf) (Nat.le_trans (by decide) hl) hk0 ht0 st rfl hcat hd ?_
    rintro _ _ ⟨rfl, rfl⟩
    simp only [tChS, tChR, e] at kk
    exact kk
  · rw [e]
    refine V.callU X rfl (t24_choose (zl Z) (zG Z) a σ k d t hp.1 hp.2.1 hp.2.2.1 (hp.2.2.2.1 e).1 (hp.2.2.2.1 e).2) cu_X8_98_3 rfl 24 rfl rfl (Nat.le_trans (by decide) hf) (Nat.le_trans (by decide) hl) hk0 ht0 st rfl hcat hd ?_
    rintro _ _ ⟨rfl, rfl⟩
    simp only [tChS, tChR, e] at kk
    exact kk
  · rw [e]
    refine V.callU X rfl (t26_choose (zl Z) (zG Z) a σ k d t hp.1 hp.2.1 hp.2.2.1 (hp.2.2.2.2 e)) cu_X8_98_4 rfl 26 rfl rfl (Nat.le_trans (by decide) hf) (Nat.le_trans (by decide) hl) hk0 ht0 st rfl hcat hd ?_
    rintro _ _ ⟨rfl, rfl⟩
    simp only [tChS, tChR, e] at kk
    exact kk
  · rw [e]
    refine V.callU X rfl (t27_choose (zl Z) (zG Z) a σ k d t hp.1 hp.2.1 hp.2.2.1) cu_X8_98_5 rfl 27 rfl rfl (Nat.le_trans (by decide) hf) (Nat.le_trans (by decide) hl) hk0 ht0 st rfl hcat hd ?_
    rintro _ _ ⟨rfl, rfl⟩
    simp only [tChS, tChR, e] at kk
    exact kk
  · rw [e]
    refine V.callU X rfl (t28_choose (zl Z) (zG Z) a σ k d t hp.1 hp.2.1 hp.2.2.1) cu_X8_98_6 rfl 28 rfl rfl (Nat.le_trans (by decide) hf) (Nat.le_trans (by decide) hl) hk0 ht0 st rfl hcat hd ?_
    rintro _ _ ⟨rfl, rfl⟩
    simp only [tChS, tChR, e] at kk
    exact kk
theorem Wk_takeUp {Z : Cx} {cc : ByteArray} {rt : Option FieldType} {lv : List (Nat × Value)} {pc : Nat} {st : List Value} {a : Nat → Nat} {σ : St} (X : XC Z "NestedDeeds$Walker" cc rt) {k d t : Nat} (hT : isT (gN σ 12)) (hp : pT σ k d t) (hf : 3 ≤ (zR Z).frames) (hl : 107 ≤ (zR Z).locals) (hk0 : zk Z ≤ (zR Z).cells) (ht0 : zt Z ≤ (zR Z).slots) (hcat : (st.map fun v => v.category).sum ≤ 8) (hd : decode cc pc = .ok (.invokevirtual 105, 3)) (kk : V Z (cw (zG Z) a (tTake σ k d t)) lv (pc + 3) (st)) : V Z (cw (zG Z) a σ) lv pc (.int (nI t) :: .int (nI d) :: .int (nI k) :: .ref (a (gN σ 12)) :: st) := by
  have e12 : a (gN σ 12) = a (gN σ 12) := rfl
  rcases hT with e | e | e | e | e | e | e
  · rw [e]
    refine V.callU X rfl (t20_takeUp (zl Z) (zG Z) a σ k d t hp.1 hp.2.1 hp.2.2) cu_X8_105_0 rfl 20 rfl rfl (Nat.le_trans (by decide) hf) (Nat.le_trans (by decide) hl) hk0 ht0 st rfl hcat hd ?_
    rintro _ _ ⟨rfl, rfl⟩
    simp only [tTake, e] at kk
    exact kk
  · rw [e]
    refine V.callU X rfl (t21_takeUp (zl Z) (zG Z) a σ k d t hp.1 hp.2.1 hp.2.2) cu_X8_105_1 rfl 21 rfl rfl (Nat.le_trans (by decide) hf) (Nat.le_trans (by decide) hl) hk0 ht0 st rfl hcat hd ?_
    rintro _ _ ⟨rfl, rfl⟩
    simp only [tTake, e] at kk
    exact kk
  · rw [e]
    refine V.callU X rfl (t23_takeUp (zl Z) (zG Z) a σ k d t hp.1 hp.2.1 hp.2.2) cu_X8_105_2 rfl 23 rfl rfl (Nat.le_trans (by decide) hf) (Nat.le_trans (by decide) hl) hk0 ht0 st rfl hcat hd ?_
    rintro _ _ ⟨rfl, rfl⟩
    simp only [tTake, e] at kk
    exact kk
  · rw [e]
    refine V.callU X rfl (t24_takeUp (zl Z) (zG Z) a σ k d t hp.1 hp.2.1 hp.2.2) cu_X8_105_3 rfl 24 rfl rfl (Nat.le_trans (by decide) hf) (Nat.le_trans (by decide) hl) hk0 ht0 st rfl hcat hd ?_
    rintro _ _ ⟨rfl, rfl⟩
    simp only [tTake, e] at kk
    exact kk
  · rw [e]
    refine V.callU X rfl (t26_takeUp (zl Z) (zG Z) a σ k d t hp.1 hp.2.1 hp.2.2) cu_X8_105_4 rfl 26 rfl rfl (Nat.le_trans (by decide) hf) (Nat.le_trans (by decide) hl) hk0 ht0 st rfl hcat hd ?_
    rintro _ _ ⟨rfl, rfl⟩
    simp only [tTake, e] at kk
    exact kk
  · rw [e]
    refine V.callU X rfl (t27_takeUp (zl Z) (zG Z) a σ k d t hp.1 hp.2.1 hp.2.2) cu_X8_105_5 rfl 27 rfl rfl (Nat.le_trans (by decide) hf) (Nat.le_trans (by decide) hl) hk0 ht0 st rfl hcat hd ?_
    rintro _ _ ⟨rfl, rfl⟩
    simp only [tTake, e] at kk
    exact kk
  · rw [e]
    refine V.callU X rfl (t28_takeUp (zl Z) (zG Z) a σ k d t hp.1 hp.2.1 hp.2.2) cu_X8_105_6 rfl 28 rfl rfl (Nat.le_trans (by decide) hf) (Nat.le_trans (by decide) hl) hk0 ht0 st rfl hcat hd ?_
    rintro _ _ ⟨rfl, rfl⟩
    simp only [tTake, e] at kk
    exact kk
theorem Wk_leave {Z : Cx} {cc : ByteArray} {rt : Option FieldType} {lv : List (Nat × Value)} {pc : Nat} {st : List Value} {a : Nat → Nat} {σ : St} (X : XC Z "NestedDeeds$Walker" cc rt) {k d : Nat} (hT : isT (gN σ 12)) (hp : pL σ k d) (hf : 3 ≤ (zR Z).frames) (hl : 107 ≤ (zR Z).locals) (hk0 : zk Z ≤ (zR Z).cells) (ht0 : zt Z ≤ (zR Z).slots) (hcat : (st.map fun v => v.category).sum ≤ 8) (hd : decode cc pc = .ok (.invokevirtual 109, 3)) (kk : V Z (cw (zG Z) a (tLeave σ k d)) lv (pc + 3) (st)) : V Z (cw (zG Z) a σ) lv pc (.int (nI d) :: .int (nI k) :: .ref (a (gN σ 12)) :: st) := by
  have e12 : a (gN σ 12) = a (gN σ 12) := rfl
  rcases hT with e | e | e | e | e | e | e
  · rw [e]
    refine V.callU X rfl (t20_leave (zl Z) (zG Z) a σ k d hp.1 hp.2.1) cu_X8_109_0 rfl 20 rfl rfl (Nat.le_trans (by decide) hf) (Nat.le_trans (by decide) hl) hk0 ht0 st rfl hcat hd ?_
    rintro _ _ ⟨rfl, rfl⟩
    simp only [tLeave, e] at kk
    exact kk
  · rw [e]
    refine V.callU X rfl (t21_leave (zl Z) (zG Z) a σ k d hp.1 hp.2.1) cu_X8_109_1 rfl 21 rfl rfl (Nat.le_trans (by decide) hf) (Nat.le_trans (by decide) hl) hk0 ht0 st rfl hcat hd ?_
    rintro _ _ ⟨rfl, rfl⟩
    simp only [tLeave, e] at kk
    exact kk
  · rw [e]
    refine V.callU X rfl (t23_leave (zl Z) (zG Z) a σ k d hp.1 hp.2.1) cu_X8_109_2 rfl 23 rfl rfl (Nat.le_trans (by decide) hf) (Nat.le_trans (by decide) hl) hk0 ht0 st rfl hcat hd ?_
    rintro _ _ ⟨rfl, rfl⟩
    simp only [tLeave, e] at kk
    exact kk
  · rw [e]
    refine V.callU X rfl (t24_leave (zl Z) (zG Z) a σ k d hp.1 hp.2.1) cu_X8_109_3 rfl 24 rfl rfl (Nat.le_trans (by decide) hf) (Nat.le_trans (by decide) hl) hk0 ht0 st rfl hcat hd ?_
    rintro _ _ ⟨rfl, rfl⟩
    simp only [tLeave, e] at kk
    exact kk
  · rw [e]
    refine V.callU X rfl (t26_leave (zl Z) (zG Z) a σ k d hp.1 hp.2.1 (hp.2.2.1 e)) cu_X8_109_4 rfl 26 rfl rfl (Nat.le_trans (by decide) hf) (Nat.le_trans (by decide) hl) hk0 ht0 st rfl hcat hd ?_
    rintro _ _ ⟨rfl, rfl⟩
    simp only [tLeave, e] at kk
    exact kk
  · rw [e]
    refine V.callU X rfl (t27_leave (zl Z) (zG Z) a σ k d hp.1 hp.2.1) cu_X8_109_5 rfl 27 rfl rfl (Nat.le_trans (by decide) hf) (Nat.le_trans (by decide) hl) hk0 ht0 st rfl hcat hd ?_
    rintro _ _ ⟨rfl, rfl⟩
    simp only [tLeave, e] at kk
    exact kk
  · rw [e]
    refine V.callU X rfl (t28_leave (zl Z) (zG Z) a σ k d hp.1 hp.2.1 (hp.2.2.2 e)) cu_X8_109_6 rfl 28 rfl rfl (Nat.le_trans (by decide) hf) (Nat.le_trans (by decide) hl) hk0 ht0 st rfl hcat hd ?_
    rintro _ _ ⟨rfl, rfl⟩
    simp only [tLeave, e] at kk
    exact kk
