set_option maxHeartbeats 4000000 in
set_option maxRecDepth 100000 in
theorem n_size (l : Launch) (G : Gx) (a : Nat → Nat) (σ : St) (d : Int32) (h1 : gN σ 1 ≤ 1500) (hgo : ∀ j, j < gN σ 1 → d = nI j → preG σ 20 j) : MM l G ⟨"NestedDeeds", "size", "(I)I"⟩ prog_1_method_10_code 3 (some .int) 257 6277 [.ref (a 0), .int d] (cw G a σ) (fun rv w => if hasD (gN σ 1) d = true then ∃ j, j < gN σ 1 ∧ d = nI j ∧ ∃ x y, rv = some (.int (if gI (goF σ 20 j) 2 = 0 then nI (gN (goF σ 20 j) 9) else gI (goF σ 20 j) 2)) ∧ w = cw G a (ee (goF σ 20 j) x y) else rv = some (.int (-2)) ∧ w = cw G a (sI σ 2 (-2))) := by
  refine MM.of (lv := [(0, .ref (a 0)), (1, .int d)]) (by decide +kernel) rfl (Nat.le_of_ble_eq_true rfl) ?_
  intro Z hRf hRl hl hG hn hk ht hA hQ X
  subst hG hl
  have X : XC Z "NestedDeeds" prog_1_method_10_code (some .int) := X
  have hk0 : zk Z ≤ (zR Z).cells := hk ▸ Nat.zero_le _
  have ht0 : zt Z ≤ (zR Z).slots := ht ▸ Nat.zero_le _
  rcases hh : hasD (gN σ 1) d with _ | _
  · refine V.aload_n X 0 dX11_size_0 rfl rfl ?_
    refine Vg_c_0_walker X tw_375 dX11_size_1 ?_
    refine V.aload_n X 0 dX11_size_4 rfl rfl ?_
    refine Vg_c_0_visiting X tw_377 dX11_size_5 ?_
    refine V.iload_n X 1 dX11_size_8 rfl rfl ?_
    refine V.callV X rfl (w_go (zl Z) (zG Z) a σ 20 d (h1) hgo) cv_X11_146 rfl 15 rfl rfl (len hRf (by decide)) (len hRl (by decide)) hk0 ht0 [] rfl (Nat.le_of_ble_eq_true rfl) dX11_size_9 ?_
    rintro rv w hw; rw [if_neg (show ¬ hasD (gN σ 1) d = true from fun q => absurd (q.symm.trans hh) (by decide))] at hw; obtain ⟨rfl, rfl⟩ := hw
    refine V.eqs (st' := [.int (-2)]) rfl ?_
    refine V.istore_n X (lv' := [(2, .int (-2)), (0, .ref (a 0)), (1, .int d)]) dX11_size_12 rfl (ltn hn (by decide)) rfl ?_
    refine V.iload_n X 0 dX11_size_13 rfl rfl ?_
    refine V.if_ne X 27 dX11_size_14 (by decide) (fun c14 => ?_) (fun c14 => by exfalso; exact absurd c14 (by decide))
    refine V.iload_n X 0 dX11_size_27 rfl rfl ?_
    exact V.iret X rfl hA hk ht hQ rfl dX11_size_28 (by rw [if_neg (by rw [hh]; decide)]; exact ⟨rfl, rfl⟩)
  · refine V.aload_n X 0 dX11_size_0 rfl rfl ?_
    refine Vg_c_0_walker X tw_375 dX11_size_1 ?_
    refine V.aload_n X 0 dX11_size_4 rfl rfl ?_
    refine Vg_c_0_visiting X tw_377 dX11_size_5 ?_
    refine V.iload_n X 1 dX11_size_8 rfl rfl ?_
    refine V.callV X rfl (w_go (zl Z) (zG Z) a σ 20 d (h1) hgo) cv_X11_146 rfl 15 rfl rfl (len hRf (by decide)) (len hRl (by decide)) hk0 ht0 [] rfl (Nat.le_of_ble_eq_true rfl) dX11_size_9 ?_
    rintro rv w hw; rw [if_pos (show hasD (gN σ 1) d = true from hh)] at hw; obtain ⟨j, hj, hje, x, y, rfl, rfl⟩ := hw
    refine V.eqs (st' := [.int (gI (goF σ 20 j) 2)]) rfl ?_
    refine V.istore_n X (lv' := [(2, .int (gI (goF σ 20 j) 2)), (0, .ref (a 0)), (1, .int d)]) dX11_size_12 rfl (ltn hn (by decide)) rfl ?_
    refine V.iload_n X 0 dX11_size_13 rfl rfl ?_
    refine V.if_ne X 27 dX11_size_14 (by decide) (fun c14 => ?_) (fun c14 => ?_)
    · refine V.iload_n X 0 dX11_size_27 rfl rfl ?_
      exact V.iret X rfl hA hk ht hQ rfl dX11_size_28 (by rw [if_pos hh]; exact ⟨j, hj, hje, x, y, by rw [if_neg c14], rfl⟩)
    · refine V.aload_n X 1 dX11_size_17 rfl rfl ?_
      refine Vg_c_0_walker X tw_375 dX11_size_18 ?_
      refine Vg_c_15_visited (x := gN (ee (goF σ 20 j) x y) 9) X tw_333 dX11_size_21 rfl ?_
      refine V.goto X 28 dX11_size_24 (by decide) ?_
      exact V.iret X rfl hA hk ht hQ rfl dX11_size_28 (by rw [if_pos hh]; exact ⟨j, hj, hje, x, y, by rw [if_pos c14]; rfl, rfl⟩)

set_option maxHeartbeats 4000000 in
set_option maxRecDepth 100000 in
theorem n_depth (l : Launch) (G : Gx) (a : Nat → Nat) (σ : St) (d : Int32) (h1 : gN σ 1 ≤ 1500) (hgo : ∀ j, j < gN σ 1 → d = nI j → preG σ 20 j) : MM l G ⟨"NestedDeeds", "depth", "(I)I"⟩ prog_1_method_11_code 3 (some .int) 257 6277 [.ref (a 0), .int d] (cw G a σ) (fun rv w => if hasD (gN σ 1) d = true then ∃ j, j < gN σ 1 ∧ d = nI j ∧ ∃ x y, rv = some (.int (if gI (goF σ 20 j) 2 = 0 then nI (gN (goF σ 20 j) 10) else gI (goF σ 20 j) 2)) ∧ w = cw G a (ee (goF σ 20 j) x y) else rv = some (.int (-2)) ∧ w = cw G a (sI σ 2 (-2))) := by
  refine MM.of (lv := [(0, .ref (a 0)), (1, .int d)]) (by decide +kernel) rfl (Nat.le_of_ble_eq_true rfl) ?_
  intro Z hRf hRl hl hG hn hk ht hA hQ X
  subst hG hl
  have X : XC Z "NestedDeeds" prog_1_method_11_code (some .int) := X
  have hk0 : zk Z ≤ (zR Z).cells := hk ▸ Nat.zero_le _
  have ht0 : zt Z ≤ (zR Z).slots := ht ▸ Nat.zero_le _
  rcases hh : hasD (gN σ 1) d with _ | _
  · refine V.aload_n X 0 dX11_depth_0 rfl rfl ?_
    refine Vg_c_0_walker X tw_375 dX11_depth_1 ?_
    refine V.aload_n X 0 dX11_depth_4 rfl rfl ?_
    refine Vg_c_0_visiting X tw_377 dX11_depth_5 ?_
    refine V.iload_n X 1 dX11_depth_8 rfl rfl ?_
    refine V.callV X rfl (w_go (zl Z) (zG Z) a σ 20 d (h1) hgo) cv_X11_146 rfl 15 rfl rfl (len hRf (by decide)) (len hRl (by decide)) hk0 ht0 [] rfl (Nat.le_of_ble_eq_true rfl) dX11_depth_9 ?_
    rintro rv w hw; rw [if_neg (show ¬ hasD (gN σ 1) d = true from fun q => absurd (q.symm.trans hh) (by decide))] at hw; obtain ⟨rfl, rfl⟩ := hw
    refine V.eqs (st' := [.int (-2)]) rfl ?_
    refine V.istore_n X (lv' := [(2, .int (-2)), (0, .ref (a 0)), (1, .int d)]) dX11_depth_12 rfl (ltn hn (by decide)) rfl ?_
    refine V.iload_n X 0 dX11_depth_13 rfl rfl ?_
    refine V.if_ne X 27 dX11_depth_14 (by decide) (fun c14 => ?_) (fun c14 => by exfalso; exact absurd c14 (by decide))
    refine V.iload_n X 0 dX11_depth_27 rfl rfl ?_
    exact V.iret X rfl hA hk ht hQ rfl dX11_depth_28 (by rw [if_neg (by rw [hh]; decide)]; exact ⟨rfl, rfl⟩)
  · refine V.aload_n X 0 dX11_depth_0 rfl rfl ?_
    refine Vg_c_0_walker X tw_375 dX11_depth_1 ?_
    refine V.aload_n X 0 dX11_depth_4 rfl rfl ?_
    refine Vg_c_0_visiting X tw_377 dX11_depth_5 ?_
    refine V.iload_n X 1 dX11_depth_8 rfl rfl ?_
    refine V.callV X rfl (w_go (zl Z) (zG Z) a σ 20 d (h1) hgo) cv_X11_146 rfl 15 rfl rfl (len hRf (by decide)) (len hRl (by decide)) hk0 ht0 [] rfl (Nat.le_of_ble_eq_true rfl) dX11_depth_9 ?_
    rintro rv w hw; rw [if_pos (show hasD (gN σ 1) d = true from hh)] at hw; obtain ⟨j, hj, hje, x, y, rfl, rfl⟩ := hw
    refine V.eqs (st' := [.int (gI (goF σ 20 j) 2)]) rfl ?_
    refine V.istore_n X (lv' := [(2, .int (gI (goF σ 20 j) 2)), (0, .ref (a 0)), (1, .int d)]) dX11_depth_12 rfl (ltn hn (by decide)) rfl ?_
    refine V.iload_n X 0 dX11_depth_13 rfl rfl ?_
    refine V.if_ne X 27 dX11_depth_14 (by decide) (fun c14 => ?_) (fun c14 => ?_)
    · refine V.iload_n X 0 dX11_depth_27 rfl rfl ?_
      exact V.iret X rfl hA hk ht hQ rfl dX11_depth_28 (by rw [if_pos hh]; exact ⟨j, hj, hje, x, y, by rw [if_neg c14], rfl⟩)
    · refine V.aload_n X 1 dX11_depth_17 rfl rfl ?_
      refine Vg_c_0_walker X tw_375 dX11_depth_18 ?_
      refine Vg_c_15_deepest (x := gN (ee (goF σ 20 j) x y) 10) X tw_335 dX11_depth_21 rfl ?_
      refine V.goto X 28 dX11_depth_24 (by decide) ?_
      exact V.iret X rfl hA hk ht hQ rfl dX11_depth_28 (by rw [if_pos hh]; exact ⟨j, hj, hje, x, y, by rw [if_pos c14]; rfl, rfl⟩)

set_option maxHeartbeats 4000000 in
set_option maxRecDepth 100000 in
theorem n_worth (l : Launch) (G : Gx) (a : Nat → Nat) (σ : St) (d : Int32) (h1 : gN σ 1 ≤ 1500) (hgo : ∀ j, j < gN σ 1 → d = nI j → preG σ 21 j) : MM l G ⟨"NestedDeeds", "worth", "(I)J"⟩ prog_1_method_12_code 2 (some .long) 257 6277 [.ref (a 0), .int d] (cw G a σ) (fun rv w => if hasD (gN σ 1) d = true then ∃ j, j < gN σ 1 ∧ d = nI j ∧ ∃ x y, rv = some (.long (if gI (goF σ 21 j) 2 = 0 then gL (goF σ 21 j) 0 1 else lN 0)) ∧ w = cw G a (ee (goF σ 21 j) x y) else rv = some (.long (lN 0)) ∧ w = cw G a (sI σ 2 (-2))) := by
  refine MM.of (lv := [(0, .ref (a 0)), (1, .int d)]) (by decide +kernel) rfl (Nat.le_of_ble_eq_true rfl) ?_
  intro Z hRf hRl hl hG hn hk ht hA hQ X
  subst hG hl
  have X : XC Z "NestedDeeds" prog_1_method_12_code (some .long) := X
  have hk0 : zk Z ≤ (zR Z).cells := hk ▸ Nat.zero_le _
  have ht0 : zt Z ≤ (zR Z).slots := ht ▸ Nat.zero_le _
  rcases hh : hasD (gN σ 1) d with _ | _
  · refine V.aload_n X 0 dX11_worth_0 rfl rfl ?_
    refine Vg_c_0_walker X tw_375 dX11_worth_1 ?_
    refine V.aload_n X 0 dX11_worth_4 rfl rfl ?_
    refine Vg_c_0_weighing X tw_378 dX11_worth_5 ?_
    refine V.iload_n X 1 dX11_worth_8 rfl rfl ?_
    refine V.callV X rfl (w_go (zl Z) (zG Z) a σ 21 d (h1) hgo) cv_X11_146 rfl 15 rfl rfl (len hRf (by decide)) (len hRl (by decide)) hk0 ht0 [] rfl (Nat.le_of_ble_eq_true rfl) dX11_worth_9 ?_
    rintro rv w hw; rw [if_neg (show ¬ hasD (gN σ 1) d = true from fun q => absurd (q.symm.trans hh) (by decide))] at hw; obtain ⟨rfl, rfl⟩ := hw
    refine V.eqs (st' := [.int (-2)]) rfl ?_
    refine V.if_ne X 24 dX11_worth_12 (by decide) (fun c12 => ?_) (fun c12 => by exfalso; exact absurd c12 (by decide))
    refine V.lconst X (v := lN 0) dX11_worth_24 (by decide) ?_
    exact V.lret X rfl hA hk ht hQ rfl dX11_worth_25 (by rw [if_neg (by rw [hh]; decide)]; exact ⟨rfl, rfl⟩)
  · refine V.aload_n X 0 dX11_worth_0 rfl rfl ?_
    refine Vg_c_0_walker X tw_375 dX11_worth_1 ?_
    refine V.aload_n X 0 dX11_worth_4 rfl rfl ?_
    refine Vg_c_0_weighing X tw_378 dX11_worth_5 ?_
    refine V.iload_n X 1 dX11_worth_8 rfl rfl ?_
    refine V.callV X rfl (w_go (zl Z) (zG Z) a σ 21 d (h1) hgo) cv_X11_146 rfl 15 rfl rfl (len hRf (by decide)) (len hRl (by decide)) hk0 ht0 [] rfl (Nat.le_of_ble_eq_true rfl) dX11_worth_9 ?_
    rintro rv w hw; rw [if_pos (show hasD (gN σ 1) d = true from hh)] at hw; obtain ⟨j, hj, hje, x, y, rfl, rfl⟩ := hw
    refine V.eqs (st' := [.int (gI (goF σ 21 j) 2)]) rfl ?_
    refine V.if_ne X 24 dX11_worth_12 (by decide) (fun c12 => ?_) (fun c12 => ?_)
    · refine V.lconst X (v := lN 0) dX11_worth_24 (by decide) ?_
      exact V.lret X rfl hA hk ht hQ rfl dX11_worth_25 (by rw [if_pos hh]; exact ⟨j, hj, hje, x, y, by rw [if_neg c12], rfl⟩)
    · refine V.aload_n X 0 dX11_worth_15 rfl rfl ?_
      refine Vg_c_0_reckoned X tw_376 dX11_worth_16 ?_
      refine V.iconst X (v := nI 1) dX11_worth_19 (by decide) ?_
      refine Va_c_reckoned (x := gL (ee (goF σ 21 j) x y) 0 1) X (by omega) dX11_worth_20 rfl ?_
      refine V.goto X 25 dX11_worth_21 (by decide) ?_
      exact V.lret X rfl hA hk ht hQ rfl dX11_worth_25 (by rw [if_pos hh]; exact ⟨j, hj, hje, x, y, by rw [if_pos c12]; rfl, rfl⟩)

set_option maxHeartbeats 4000000 in
set_option maxRecDepth 100000 in
theorem n_mark (l : Launch) (G : Gx) (a : Nat → Nat) (σ : St) (d : Int32) (h1 : gN σ 1 ≤ 1500) (hgo : ∀ j, j < gN σ 1 → d = nI j → preG σ 23 j) : MM l G ⟨"NestedDeeds", "mark", "(I)J"⟩ prog_1_method_13_code 2 (some .long) 257 6277 [.ref (a 0), .int d] (cw G a σ) (fun rv w => if hasD (gN σ 1) d = true then ∃ j, j < gN σ 1 ∧ d = nI j ∧ ∃ x y, rv = some (.long (if gI (goF σ 23 j) 2 = 0 then gL (goF σ 23 j) 0 1 else lN 0)) ∧ w = cw G a (ee (goF σ 23 j) x y) else rv = some (.long (lN 0)) ∧ w = cw G a (sI σ 2 (-2))) := by
  refine MM.of (lv := [(0, .ref (a 0)), (1, .int d)]) (by decide +kernel) rfl (Nat.le_of_ble_eq_true rfl) ?_
  intro Z hRf hRl hl hG hn hk ht hA hQ X
  subst hG hl
  have X : XC Z "NestedDeeds" prog_1_method_13_code (some .long) := X
  have hk0 : zk Z ≤ (zR Z).cells := hk ▸ Nat.zero_le _
  have ht0 : zt Z ≤ (zR Z).slots := ht ▸ Nat.zero_le _
  rcases hh : hasD (gN σ 1) d with _ | _
  · refine V.aload_n X 0 dX11_mark_0 rfl rfl ?_
    refine Vg_c_0_walker X tw_375 dX11_mark_1 ?_
    refine V.aload_n X 0 dX11_mark_4 rfl rfl ?_
    refine Vg_c_0_marking X tw_379 dX11_mark_5 ?_
    refine V.iload_n X 1 dX11_mark_8 rfl rfl ?_
    refine V.callV X rfl (w_go (zl Z) (zG Z) a σ 23 d (h1) hgo) cv_X11_146 rfl 15 rfl rfl (len hRf (by decide)) (len hRl (by decide)) hk0 ht0 [] rfl (Nat.le_of_ble_eq_true rfl) dX11_mark_9 ?_
    rintro rv w hw; rw [if_neg (show ¬ hasD (gN σ 1) d = true from fun q => absurd (q.symm.trans hh) (by decide))] at hw; obtain ⟨rfl, rfl⟩ := hw
    refine V.eqs (st' := [.int (-2)]) rfl ?_
    refine V.if_ne X 24 dX11_mark_12 (by decide) (fun c12 => ?_) (fun c12 => by exfalso; exact absurd c12 (by decide))
    refine V.lconst X (v := lN 0) dX11_mark_24 (by decide) ?_
    exact V.lret X rfl hA hk ht hQ rfl dX11_mark_25 (by rw [if_neg (by rw [hh]; decide)]; exact ⟨rfl, rfl⟩)
  · refine V.aload_n X 0 dX11_mark_0 rfl rfl ?_
    refine Vg_c_0_walker X tw_375 dX11_mark_1 ?_
    refine V.aload_n X 0 dX11_mark_4 rfl rfl ?_
    refine Vg_c_0_marking X tw_379 dX11_mark_5 ?_
    refine V.iload_n X 1 dX11_mark_8 rfl rfl ?_
    refine V.callV X rfl (w_go (zl Z) (zG Z) a σ 23 d (h1) hgo) cv_X11_146 rfl 15 rfl rfl (len hRf (by decide)) (len hRl (by decide)) hk0 ht0 [] rfl (Nat.le_of_ble_eq_true rfl) dX11_mark_9 ?_
    rintro rv w hw; rw [if_pos (show hasD (gN σ 1) d = true from hh)] at hw; obtain ⟨j, hj, hje, x, y, rfl, rfl⟩ := hw
    refine V.eqs (st' := [.int (gI (goF σ 23 j) 2)]) rfl ?_
    refine V.if_ne X 24 dX11_mark_12 (by decide) (fun c12 => ?_) (fun c12 => ?_)
    · refine V.lconst X (v := lN 0) dX11_mark_24 (by decide) ?_
      exact V.lret X rfl hA hk ht hQ rfl dX11_mark_25 (by rw [if_pos hh]; exact ⟨j, hj, hje, x, y, by rw [if_neg c12], rfl⟩)
    · refine V.aload_n X 0 dX11_mark_15 rfl rfl ?_
      refine Vg_c_0_reckoned X tw_376 dX11_mark_16 ?_
      refine V.iconst X (v := nI 1) dX11_mark_19 (by decide) ?_
      refine Va_c_reckoned (x := gL (ee (goF σ 23 j) x y) 0 1) X (by omega) dX11_mark_20 rfl ?_
      refine V.goto X 25 dX11_mark_21 (by decide) ?_
      exact V.lret X rfl hA hk ht hQ rfl dX11_mark_25 (by rw [if_pos hh]; exact ⟨j, hj, hje, x, y, by rw [if_pos c12]; rfl, rfl⟩)

def wdR (σ : St) (x : Int32) (j : Nat) : Int32 := if gI (goF σ 20 j) 2 = 0 then (if x = 0 then nI (bestF (gA (goF σ 20 j) 8) (gN (goF σ 20 j) 10)) else nI (gA (goF σ 20 j) 8 (bestF (gA (goF σ 20 j) 8) (gN (goF σ 20 j) 10)))) else gI (goF σ 20 j) 2
set_option maxHeartbeats 4000000 in
set_option maxRecDepth 100000 in
theorem n_widest (l : Launch) (G : Gx) (a : Nat → Nat) (σ : St) (d x : Int32) (h1 : gN σ 1 ≤ 1500) (hgo : ∀ j, j < gN σ 1 → d = nI j → preG σ 20 j) (hwd : ∀ j, j < gN σ 1 → d = nI j → gN (goF σ 20 j) 10 < 1501 ∧ ∀ q, q < 1502 → gA (goF σ 20 j) 8 q < 2 ^ 30) : MM l G ⟨"NestedDeeds", "widest", "(II)I"⟩ prog_1_method_17_code 5 (some .int) 257 6277 [.ref (a 0), .int d, .int x] (cw G a σ) (fun rv w => if hasD (gN σ 1) d = true ∧ inR x (nI 0) (nI 1) = true then ∃ j, j < gN σ 1 ∧ d = nI j ∧ ∃ x1 y, rv = some (.int (wdR σ x j)) ∧ w = cw G a (ee (goF σ 20 j) x1 y) else rv = some (.int (-2)) ∧ w = cw G a (sI σ 2 (-2))) := by
  refine MM.of (lv := [(0, .ref (a 0)), (1, .int d), (2, .int x)]) (by decide +kernel) rfl (Nat.le_of_ble_eq_true rfl) ?_
  intro Z hRf hRl hl hG hn hk ht hA hQ X
  subst hG hl
  have X : XC Z "NestedDeeds" prog_1_method_17_code (some .int) := X
  have hk0 : zk Z ≤ (zR Z).cells := hk ▸ Nat.zero_le _
  have ht0 : zt Z ≤ (zR Z).slots := ht ▸ Nat.zero_le _
  rcases hx : inR x (nI 0) (nI 1) with _ | _
  · refine V.iload_n X 2 dX11_widest_0 rfl rfl ?_
    refine V.if_lt X 9 dX11_widest_1 (by decide) (fun c1 => ?_) (fun c1 => ?_)
    · refine V.aload_n X 0 dX11_widest_9 rfl rfl ?_
      refine Vg_c_0_walker X tw_375 dX11_widest_10 ?_
      refine V.callV X rfl (w_refuse (zl Z) (zG Z) a σ) cv_X11_156 rfl 15 rfl rfl (len hRf (by decide)) (len hRl (by decide)) hk0 ht0 [] rfl (Nat.le_of_ble_eq_true rfl) dX11_widest_13 ?_
      rintro _ _ ⟨rfl, rfl⟩
      refine V.eqs (st' := [.int (-2)]) rfl ?_
      exact V.iret X rfl hA hk ht hQ rfl dX11_widest_16 (by rw [if_neg (fun q => by rw [hx] at q; cases q.2)]; exact ⟨rfl, rfl⟩)
    · refine V.iload_n X 2 dX11_widest_4 rfl rfl ?_
      refine V.iconst X (v := nI 1) dX11_widest_5 (by decide) ?_
      refine V.icmp_le X 17 dX11_widest_6 (by decide) (fun c6 => by exfalso; rw [inR_t (lo := nI 0) c1 (Int32.not_lt.mpr c6)] at hx; cases hx) (fun c6 => ?_)
      refine V.aload_n X 0 dX11_widest_9 rfl rfl ?_
      refine Vg_c_0_walker X tw_375 dX11_widest_10 ?_
      refine V.callV X rfl (w_refuse (zl Z) (zG Z) a σ) cv_X11_156 rfl 15 rfl rfl (len hRf (by decide)) (len hRl (by decide)) hk0 ht0 [] rfl (Nat.le_of_ble_eq_true rfl) dX11_widest_13 ?_
      rintro _ _ ⟨rfl, rfl⟩
      refine V.eqs (st' := [.int (-2)]) rfl ?_
      exact V.iret X rfl hA hk ht hQ rfl dX11_widest_16 (by rw [if_neg (fun q => by rw [hx] at q; cases q.2)]; exact ⟨rfl, rfl⟩)
  · rcases hh : hasD (gN σ 1) d with _ | _
    · refine V.iload_n X 2 dX11_widest_0 rfl rfl ?_
      refine V.if_lt X 9 dX11_widest_1 (by decide) (fun c1 => by exfalso; rw [inR_f1 (lo := nI 0) c1] at hx; cases hx) (fun c1 => ?_)
      refine V.iload_n X 2 dX11_widest_4 rfl rfl ?_
      refine V.iconst X (v := nI 1) dX11_widest_5 (by decide) ?_
      refine V.icmp_le X 17 dX11_widest_6 (by decide) (fun c6 => ?_) (fun c6 => by exfalso; rw [inR_f2 (Int32.not_le.mp c6)] at hx; cases hx)
      refine V.aload_n X 0 dX11_widest_17 rfl rfl ?_
      refine Vg_c_0_walker X tw_375 dX11_widest_18 ?_
      refine V.aload_n X 0 dX11_widest_21 rfl rfl ?_
      refine Vg_c_0_visiting X tw_377 dX11_widest_22 ?_
      refine V.iload_n X 1 dX11_widest_25 rfl rfl ?_
      refine V.callV X rfl (w_go (zl Z) (zG Z) a σ 20 d (h1) hgo) cv_X11_146 rfl 15 rfl rfl (len hRf (by decide)) (len hRl (by decide)) hk0 ht0 [] rfl (Nat.le_of_ble_eq_true rfl) dX11_widest_26 ?_
      rintro rv w hw; rw [if_neg (show ¬ hasD (gN σ 1) d = true from fun q => absurd (q.symm.trans hh) (by decide))] at hw; obtain ⟨rfl, rfl⟩ := hw
      refine V.eqs (st' := [.int (-2)]) rfl ?_
      refine V.istore_n X (lv' := [(3, .int (-2)), (0, .ref (a 0)), (1, .int d), (2, .int x)]) dX11_widest_29 rfl (ltn hn (by decide)) rfl ?_
      refine V.iload_n X 0 dX11_widest_30 rfl rfl ?_
      refine V.if_eq X 36 dX11_widest_31 (by decide) (fun c31 => by exfalso; exact absurd c31 (by decide)) (fun c31 => ?_)
      refine V.iload_n X 0 dX11_widest_34 rfl rfl ?_
      exact V.iret X rfl hA hk ht hQ rfl dX11_widest_35 (by rw [if_neg (fun q => by rw [hh] at q; cases q.1)]; exact ⟨rfl, rfl⟩)
    · refine V.iload_n X 2 dX11_widest_0 rfl rfl ?_
      refine V.if_lt X 9 dX11_widest_1 (by decide) (fun c1 => by exfalso; rw [inR_f1 (lo := nI 0) c1] at hx; cases hx) (fun c1 => ?_)
      refine V.iload_n X 2 dX11_widest_4 rfl rfl ?_
      refine V.iconst X (v := nI 1) dX11_widest_5 (by decide) ?_
      refine V.icmp_le X 17 dX11_widest_6 (by decide) (fun c6 => ?_) (fun c6 => by exfalso; rw [inR_f2 (Int32.not_le.mp c6)] at hx; cases hx)
      refine V.aload_n X 0 dX11_widest_17 rfl rfl ?_
      refine Vg_c_0_walker X tw_375 dX11_widest_18 ?_
      refine V.aload_n X 0 dX11_widest_21 rfl rfl ?_
      refine Vg_c_0_visiting X tw_377 dX11_widest_22 ?_
      refine V.iload_n X 1 dX11_widest_25 rfl rfl ?_
      refine V.callV X rfl (w_go (zl Z) (zG Z) a σ 20 d (h1) hgo) cv_X11_146 rfl 15 rfl rfl (len hRf (by decide)) (len hRl (by decide)) hk0 ht0 [] rfl (Nat.le_of_ble_eq_true rfl) dX11_widest_26 ?_
      rintro rv w hw; rw [if_pos (show hasD (gN σ 1) d = true from hh)] at hw; obtain ⟨j, hj, hje, x_1, y, rfl, rfl⟩ := hw
      refine V.eqs (st' := [.int (gI (goF σ 20 j) 2)]) rfl ?_
      refine V.istore_n X (lv' := [(3, .int (gI (goF σ 20 j) 2)), (0, .ref (a 0)), (1, .int d), (2, .int x)]) dX11_widest_29 rfl (ltn hn (by decide)) rfl ?_
      refine V.iload_n X 0 dX11_widest_30 rfl rfl ?_
      refine V.if_eq X 36 dX11_widest_31 (by decide) (fun c31 => ?_) (fun c31 => ?_)
      · refine V.aload_n X 1 dX11_widest_36 rfl rfl ?_
        refine Vg_c_0_walker X tw_375 dX11_widest_37 ?_
        refine V.callV X rfl (w_widestDepth (zl Z) (zG Z) a (ee (goF σ 20 j) x_1 y) ((hwd j hj hje).1) ((hwd j hj hje).2)) cv_X11_184 rfl 15 rfl rfl (len hRf (by decide)) (len hRl (by decide)) hk0 ht0 [] rfl (Nat.le_of_ble_eq_true rfl) dX11_widest_40 ?_
        rintro _ _ ⟨rfl, rfl⟩
        refine V.eqs (st' := [.int (nI (bestF (gA (goF σ 20 j) 8) (gN (goF σ 20 j) 10)))]) rfl ?_
        refine V.istore X (lv' := [(4, .int (nI (bestF (gA (goF σ 20 j) 8) (gN (goF σ 20 j) 10)))), (3, .int (gI (goF σ 20 j) 2)), (0, .ref (a 0)), (1, .int d), (2, .int x)]) dX11_widest_43 (ltn hn (by decide)) rfl ?_
        refine V.iload_n X 4 dX11_widest_45 rfl rfl ?_
        refine V.if_ne X 54 dX11_widest_46 (by decide) (fun c46 => ?_) (fun c46 => ?_)
        · refine V.aload_n X 2 dX11_widest_54 rfl rfl ?_
          refine Vg_c_0_walker X tw_375 dX11_widest_55 ?_
          refine Vg_c_15_width X tw_325 dX11_widest_58 ?_
          refine V.iload X 0 dX11_widest_61 rfl ?_
          refine Va_c_width (x := gA (goF σ 20 j) 8 (bestF (gA (goF σ 20 j) 8) (gN (goF σ 20 j) 10))) X (by have := bestF_le (gA (goF σ 20 j) 8) (gN (goF σ 20 j) 10); have := (hwd j hj hje).1; omega) dX11_widest_63 rfl ?_
          exact V.iret X rfl hA hk ht hQ rfl dX11_widest_64 (by rw [if_pos ⟨hh, hx⟩]; exact ⟨j, hj, hje, x_1, y, by rw [wdR, if_pos c31, if_neg c46], rfl⟩)
        · refine V.iload X 0 dX11_widest_49 rfl ?_
          refine V.goto X 64 dX11_widest_51 (by decide) ?_
          exact V.iret X rfl hA hk ht hQ rfl dX11_widest_64 (by rw [if_pos ⟨hh, hx⟩]; exact ⟨j, hj, hje, x_1, y, by rw [wdR, if_pos c31, if_pos c46], rfl⟩)
      · refine V.iload_n X 0 dX11_widest_34 rfl rfl ?_
        exact V.iret X rfl hA hk ht hQ rfl dX11_widest_35 (by rw [if_pos ⟨hh, hx⟩]; exact ⟨j, hj, hje, x_1, y, by rw [wdR, if_neg c31], rfl⟩)

def fnS (σ : St) (k v : Int32) : St := sI (sI σ 4 k) 5 v
def fnR (σ : St) (k v : Int32) (j : Nat) : Int32 := if gI (goF (fnS σ k v) 27 j) 2 = 0 then (if gB (goF (fnS σ k v) 27 j) 27 = true then nI (gN (goF (fnS σ k v) 27 j) 9) - nI 1 else -1) else gI (goF (fnS σ k v) 27 j) 2
set_option maxHeartbeats 4000000 in
set_option maxRecDepth 100000 in
theorem n_find (l : Launch) (G : Gx) (a : Nat → Nat) (σ : St) (d k v : Int32) (h1 : gN σ 1 ≤ 1500) (hgo : ∀ j, j < gN σ 1 → d = nI j → preG (fnS σ k v) 27 j) : MM l G ⟨"NestedDeeds", "find", "(III)I"⟩ prog_1_method_16_code 5 (some .int) 257 6277 [.ref (a 0), .int d, .int k, .int v] (cw G a σ) (fun rv w => if hasD (gN σ 1) d = true ∧ hasD 12 k = true then ∃ j, j < gN σ 1 ∧ d = nI j ∧ ∃ x y, rv = some (.int (fnR σ k v j)) ∧ w = cw G a (ee (goF (fnS σ k v) 27 j) x y) else rv = some (.int (-2)) ∧ (w = cw G a (sI σ 2 (-2)) ∨ w = cw G a (sI (fnS σ k v) 2 (-2)))) := by
  refine MM.of (lv := [(0, .ref (a 0)), (1, .int d), (2, .int k), (3, .int v)]) (by decide +kernel) rfl (Nat.le_of_ble_eq_true rfl) ?_
  intro Z hRf hRl hl hG hn hk ht hA hQ X
  subst hG hl
  have X : XC Z "NestedDeeds" prog_1_method_16_code (some .int) := X
  have hk0 : zk Z ≤ (zR Z).cells := hk ▸ Nat.zero_le _
  have ht0 : zt Z ≤ (zR Z).slots := ht ▸ Nat.zero_le _
  rcases hx : hasD 12 k with _ | _
  · refine V.iload_n X 2 dX11_find_0 rfl rfl ?_
    refine V.callS X rfl (k_isKind (zl Z) (zG Z) (cw (zG Z) a σ) k) cs_X11_101 rfl (len hRf (by decide)) (len hRl (by decide)) hk0 ht0 [] rfl (Nat.le_of_ble_eq_true rfl) dX11_find_1 ?_
    rintro _ _ ⟨rfl, rfl⟩
    refine V.eqs (st' := [.int (bI (hasD 12 k))]) rfl ?_
    refine V.if_neB X 15 dX11_find_4 (by decide) (fun c4 => by exfalso; rw [hx] at c4; cases c4) (fun c4 => ?_)
    refine V.aload_n X 0 dX11_find_7 rfl rfl ?_
    refine Vg_c_0_walker X tw_375 dX11_find_8 ?_
    refine V.callV X rfl (w_refuse (zl Z) (zG Z) a σ) cv_X11_156 rfl 15 rfl rfl (len hRf (by decide)) (len hRl (by decide)) hk0 ht0 [] rfl (Nat.le_of_ble_eq_true rfl) dX11_find_11 ?_
    rintro _ _ ⟨rfl, rfl⟩
    refine V.eqs (st' := [.int (-2)]) rfl ?_
    exact V.iret X rfl hA hk ht hQ rfl dX11_find_14 (by rw [if_neg (fun q => by rw [hx] at q; cases q.2)]; exact ⟨rfl, Or.inl rfl⟩)
  · rcases hh : hasD (gN σ 1) d with _ | _
    · refine V.iload_n X 2 dX11_find_0 rfl rfl ?_
      refine V.callS X rfl (k_isKind (zl Z) (zG Z) (cw (zG Z) a σ) k) cs_X11_101 rfl (len hRf (by decide)) (len hRl (by decide)) hk0 ht0 [] rfl (Nat.le_of_ble_eq_true rfl) dX11_find_1 ?_
      rintro _ _ ⟨rfl, rfl⟩
      refine V.eqs (st' := [.int (bI (hasD 12 k))]) rfl ?_
      refine V.if_neB X 15 dX11_find_4 (by decide) (fun c4 => ?_) (fun c4 => by exfalso; rw [hx] at c4; cases c4)
      refine V.aload_n X 0 dX11_find_15 rfl rfl ?_
      refine Vg_c_0_finding X tw_382 dX11_find_16 ?_
      refine V.iload_n X 2 dX11_find_19 rfl rfl ?_
      refine V.iload_n X 3 dX11_find_20 rfl rfl ?_
      refine V.callV X rfl (t27_begin (zl Z) (zG Z) a σ k v) cv_X11_181 rfl 27 rfl rfl (len hRf (by decide)) (len hRl (by decide)) hk0 ht0 [] rfl (Nat.le_of_ble_eq_true rfl) dX11_find_21 ?_
      rintro _ _ ⟨rfl, rfl⟩
      refine V.eqs (st' := []) rfl ?_
      refine V.eqw (ws' := cw (zG Z) a (fnS σ k v)) rfl ?_
      refine V.aload_n X 0 dX11_find_24 rfl rfl ?_
      refine Vg_c_0_walker X tw_375 dX11_find_25 ?_
      refine V.aload_n X 0 dX11_find_28 rfl rfl ?_
      refine Vg_c_0_finding X tw_382 dX11_find_29 ?_
      refine V.iload_n X 1 dX11_find_32 rfl rfl ?_
      refine V.callV X rfl (w_go (zl Z) (zG Z) a (fnS σ k v) 27 d (h1) hgo) cv_X11_146 rfl 15 rfl rfl (len hRf (by decide)) (len hRl (by decide)) hk0 ht0 [] rfl (Nat.le_of_ble_eq_true rfl) dX11_find_33 ?_
      rintro rv w hw; rw [if_neg (show ¬ hasD (gN (fnS σ k v) 1) d = true from fun q => absurd (q.symm.trans hh) (by decide))] at hw; obtain ⟨rfl, rfl⟩ := hw
      refine V.eqs (st' := [.int (-2)]) rfl ?_
      refine V.istore X (lv' := [(4, .int (-2)), (0, .ref (a 0)), (1, .int d), (2, .int k), (3, .int v)]) dX11_find_36 (ltn hn (by decide)) rfl ?_
      refine V.iload X 0 dX11_find_38 rfl ?_
      refine V.if_eq X 46 dX11_find_40 (by decide) (fun c40 => by exfalso; exact absurd c40 (by decide)) (fun c40 => ?_)
      refine V.iload X 0 dX11_find_43 rfl ?_
      exact V.iret X rfl hA hk ht hQ rfl dX11_find_45 (by rw [if_neg (fun q => by rw [hh] at q; cases q.1)]; exact ⟨rfl, Or.inr rfl⟩)
    · refine V.iload_n X 2 dX11_find_0 rfl rfl ?_
      refine V.callS X rfl (k_isKind (zl Z) (zG Z) (cw (zG Z) a σ) k) cs_X11_101 rfl (len hRf (by decide)) (len hRl (by decide)) hk0 ht0 [] rfl (Nat.le_of_ble_eq_true rfl) dX11_find_1 ?_
      rintro _ _ ⟨rfl, rfl⟩
      refine V.eqs (st' := [.int (bI (hasD 12 k))]) rfl ?_
      refine V.if_neB X 15 dX11_find_4 (by decide) (fun c4 => ?_) (fun c4 => by exfalso; rw [hx] at c4; cases c4)
      refine V.aload_n X 0 dX11_find_15 rfl rfl ?_
      refine Vg_c_0_finding X tw_382 dX11_find_16 ?_
      refine V.iload_n X 2 dX11_find_19 rfl rfl ?_
      refine V.iload_n X 3 dX11_find_20 rfl rfl ?_
      refine V.callV X rfl (t27_begin (zl Z) (zG Z) a σ k v) cv_X11_181 rfl 27 rfl rfl (len hRf (by decide)) (len hRl (by decide)) hk0 ht0 [] rfl (Nat.le_of_ble_eq_true rfl) dX11_find_21 ?_
      rintro _ _ ⟨rfl, rfl⟩
      refine V.eqs (st' := []) rfl ?_
      refine V.eqw (ws' := cw (zG Z) a (fnS σ k v)) rfl ?_
      refine V.aload_n X 0 dX11_find_24 rfl rfl ?_
      refine Vg_c_0_walker X tw_375 dX11_find_25 ?_
      refine V.aload_n X 0 dX11_find_28 rfl rfl ?_
      refine Vg_c_0_finding X tw_382 dX11_find_29 ?_
      refine V.iload_n X 1 dX11_find_32 rfl rfl ?_
      refine V.callV X rfl (w_go (zl Z) (zG Z) a (fnS σ k v) 27 d (h1) hgo) cv_X11_146 rfl 15 rfl rfl (len hRf (by decide)) (len hRl (by decide)) hk0 ht0 [] rfl (Nat.le_of_ble_eq_true rfl) dX11_find_33 ?_
      rintro rv w hw; rw [if_pos (show hasD (gN (fnS σ k v) 1) d = true from hh)] at hw; obtain ⟨j, hj, hje, x, y, rfl, rfl⟩ := hw
      refine V.eqs (st' := [.int (gI (goF (fnS σ k v) 27 j) 2)]) rfl ?_
      refine V.istore X (lv' := [(4, .int (gI (goF (fnS σ k v) 27 j) 2)), (0, .ref (a 0)), (1, .int d), (2, .int k), (3, .int v)]) dX11_find_36 (ltn hn (by decide)) rfl ?_
      refine V.iload X 0 dX11_find_38 rfl ?_
      refine V.if_eq X 46 dX11_find_40 (by decide) (fun c40 => ?_) (fun c40 => ?_)
      · refine V.aload_n X 1 dX11_find_46 rfl rfl ?_
        refine Vg_c_0_finding X tw_382 dX11_find_47 ?_
        refine Vg_c_27_over (x := gB (ee (goF (fnS σ k v) 27 j) x y) 27) X (Or.inr tw_203) tw_207 dX11_find_50 rfl ?_
        refine V.if_eqB X 68 dX11_find_53 (by decide) (fun c53 => ?_) (fun c53 => ?_)
        · refine V.iconst X (v := -1) dX11_find_68 (by decide) ?_
          exact V.iret X rfl hA hk ht hQ rfl dX11_find_69 (by rw [if_pos ⟨hh, hx⟩]; exact ⟨j, hj, hje, x, y, by rw [fnR, if_pos c40, if_neg (show ¬ gB (goF (fnS σ k v) 27 j) 27 = true by rw [show gB (goF (fnS σ k v) 27 j) 27 = false from c53]; decide)], rfl⟩)
        · refine V.aload_n X 1 dX11_find_56 rfl rfl ?_
          refine Vg_c_0_walker X tw_375 dX11_find_57 ?_
          refine Vg_c_15_visited (x := gN (ee (goF (fnS σ k v) 27 j) x y) 9) X tw_333 dX11_find_60 rfl ?_
          refine V.iconst X (v := nI 1) dX11_find_63 (by decide) ?_
          refine V.isub X dX11_find_64 ?_
          refine V.goto X 69 dX11_find_65 (by decide) ?_
          exact V.iret X rfl hA hk ht hQ rfl dX11_find_69 (by rw [if_pos ⟨hh, hx⟩]; exact ⟨j, hj, hje, x, y, by rw [fnR, if_pos c40, if_pos (show gB (goF (fnS σ k v) 27 j) 27 = true from c53)]; rfl, rfl⟩)
      · refine V.iload X 0 dX11_find_43 rfl ?_
        exact V.iret X rfl hA hk ht hQ rfl dX11_find_45 (by rw [if_pos ⟨hh, hx⟩]; exact ⟨j, hj, hje, x, y, by rw [fnR, if_neg c40], rfl⟩)

def akS (σ : St) (b : Nat) : St := sA σ 9 (va_up (gA σ 9) 1 b)
def akR (σ : St) (b j : Nat) : Int32 := if gI (goF (akS σ b) 24 j) 2 = 0 then (if gB (goF (akS σ b) 24 j) 24 = true then nI 0 else nI 1) else gI (goF (akS σ b) 24 j) 2
set_option maxHeartbeats 4000000 in
set_option maxRecDepth 100000 in
theorem n_alike (l : Launch) (G : Gx) (a : Nat → Nat) (σ : St) (d b : Int32) (h1 : gN σ 1 ≤ 1500) (hgo : ∀ i, i < gN σ 1 → b = nI i → ∀ j, j < gN σ 1 → d = nI j → preG (akS σ i) 24 j) : MM l G ⟨"NestedDeeds", "alike", "(II)I"⟩ prog_1_method_14_code 4 (some .int) 257 6277 [.ref (a 0), .int d, .int b] (cw G a σ) (fun rv w => if hasD (gN σ 1) d = true ∧ hasD (gN σ 1) b = true then ∃ j, j < gN σ 1 ∧ d = nI j ∧ ∃ i, i < gN σ 1 ∧ b = nI i ∧ ∃ x y, rv = some (.int (akR σ i j)) ∧ w = cw G a (ee (goF (akS σ i) 24 j) x y) else rv = some (.int (-2)) ∧ ∃ τ, w = cw G a τ ∧ (τ = sI σ 2 (-2) ∨ ∃ i, τ = sI (akS σ i) 2 (-2))) := by
  refine MM.of (lv := [(0, .ref (a 0)), (1, .int d), (2, .int b)]) (by decide +kernel) rfl (Nat.le_of_ble_eq_true rfl) ?_
  intro Z hRf hRl hl hG hn hk ht hA hQ X
  subst hG hl
  have X : XC Z "NestedDeeds" prog_1_method_14_code (some .int) := X
  have hk0 : zk Z ≤ (zR Z).cells := hk ▸ Nat.zero_le _
  have ht0 : zt Z ≤ (zR Z).slots := ht ▸ Nat.zero_le _
  rcases hx : hasD (gN σ 1) b with _ | _
  · refine V.aload_n X 0 dX11_alike_0 rfl rfl ?_
    refine Vg_c_0_deeds X tw_371 dX11_alike_1 ?_
    refine V.iload_n X 2 dX11_alike_4 rfl rfl ?_
    refine V.callV X rfl (c_has (zl Z) (zG Z) a σ b) cv_X11_113 rfl 1 rfl rfl (len hRf (by decide)) (len hRl (by decide)) hk0 ht0 [] rfl (Nat.le_of_ble_eq_true rfl) dX11_alike_5 ?_
    rintro _ _ ⟨rfl, rfl⟩
    refine V.eqs (st' := [.int (bI (hasD (gN σ 1) b))]) rfl ?_
    refine V.if_neB X 19 dX11_alike_8 (by decide) (fun c8 => by exfalso; rw [hx] at c8; cases c8) (fun c8 => ?_)
    refine V.aload_n X 0 dX11_alike_11 rfl rfl ?_
    refine Vg_c_0_walker X tw_375 dX11_alike_12 ?_
    refine V.callV X rfl (w_refuse (zl Z) (zG Z) a σ) cv_X11_156 rfl 15 rfl rfl (len hRf (by decide)) (len hRl (by decide)) hk0 ht0 [] rfl (Nat.le_of_ble_eq_true rfl) dX11_alike_15 ?_
    rintro _ _ ⟨rfl, rfl⟩
    refine V.eqs (st' := [.int (-2)]) rfl ?_
    exact V.iret X rfl hA hk ht hQ rfl dX11_alike_18 (by rw [if_neg (fun q => by rw [hx] at q; cases q.2)]; exact ⟨rfl, sI σ 2 (-2), rfl, Or.inl rfl⟩)
  · obtain ⟨i, hi, rfl⟩ := hasD_t (by omega) hx
    rcases hh : hasD (gN σ 1) d with _ | _
    · refine V.aload_n X 0 dX11_alike_0 rfl rfl ?_
      refine Vg_c_0_deeds X tw_371 dX11_alike_1 ?_
      refine V.iload_n X 2 dX11_alike_4 rfl rfl ?_
      refine V.callV X rfl (c_has (zl Z) (zG Z) a σ (nI i)) cv_X11_113 rfl 1 rfl rfl (len hRf (by decide)) (len hRl (by decide)) hk0 ht0 [] rfl (Nat.le_of_ble_eq_true rfl) dX11_alike_5 ?_
      rintro _ _ ⟨rfl, rfl⟩
      refine V.eqs (st' := [.int (bI (hasD (gN σ 1) (nI i)))]) rfl ?_
      refine V.if_neB X 19 dX11_alike_8 (by decide) (fun c8 => ?_) (fun c8 => by exfalso; rw [hx] at c8; cases c8)
      refine V.aload_n X 0 dX11_alike_19 rfl rfl ?_
      refine Vg_c_0_comparing X tw_380 dX11_alike_20 ?_
      refine V.iload_n X 2 dX11_alike_23 rfl rfl ?_
      refine V.callV X rfl (t24_begin (zl Z) (zG Z) a σ i) cv_X11_160 rfl 24 rfl rfl (len hRf (by decide)) (len hRl (by decide)) hk0 ht0 [] rfl (Nat.le_of_ble_eq_true rfl) dX11_alike_24 ?_
      rintro _ _ ⟨rfl, rfl⟩
      refine V.eqs (st' := []) rfl ?_
      refine V.eqw (ws' := cw (zG Z) a (akS σ i)) rfl ?_
      refine V.aload_n X 0 dX11_alike_27 rfl rfl ?_
      refine Vg_c_0_walker X tw_375 dX11_alike_28 ?_
      refine V.aload_n X 0 dX11_alike_31 rfl rfl ?_
      refine Vg_c_0_comparing X tw_380 dX11_alike_32 ?_
      refine V.iload_n X 1 dX11_alike_35 rfl rfl ?_
      refine V.callV X rfl (w_go (zl Z) (zG Z) a (akS σ i) 24 d (h1) (hgo i hi rfl)) cv_X11_146 rfl 15 rfl rfl (len hRf (by decide)) (len hRl (by decide)) hk0 ht0 [] rfl (Nat.le_of_ble_eq_true rfl) dX11_alike_36 ?_
      rintro rv w hw; rw [if_neg (show ¬ hasD (gN (akS σ i) 1) d = true from fun q => absurd (q.symm.trans hh) (by decide))] at hw; obtain ⟨rfl, rfl⟩ := hw
      refine V.eqs (st' := [.int (-2)]) rfl ?_
      refine V.istore_n X (lv' := [(3, .int (-2)), (0, .ref (a 0)), (1, .int d), (2, .int (nI i))]) dX11_alike_39 rfl (ltn hn (by decide)) rfl ?_
      refine V.iload_n X 0 dX11_alike_40 rfl rfl ?_
      refine V.if_eq X 46 dX11_alike_41 (by decide) (fun c41 => by exfalso; exact absurd c41 (by decide)) (fun c41 => ?_)
      refine V.iload_n X 0 dX11_alike_44 rfl rfl ?_
      exact V.iret X rfl hA hk ht hQ rfl dX11_alike_45 (by rw [if_neg (fun q => by rw [hh] at q; cases q.1)]; exact ⟨rfl, sI (akS σ i) 2 (-2), rfl, Or.inr ⟨i, rfl⟩⟩)
    · refine V.aload_n X 0 dX11_alike_0 rfl rfl ?_
      refine Vg_c_0_deeds X tw_371 dX11_alike_1 ?_
      refine V.iload_n X 2 dX11_alike_4 rfl rfl ?_
      refine V.callV X rfl (c_has (zl Z) (zG Z) a σ (nI i)) cv_X11_113 rfl 1 rfl rfl (len hRf (by decide)) (len hRl (by decide)) hk0 ht0 [] rfl (Nat.le_of_ble_eq_true rfl) dX11_alike_5 ?_
      rintro _ _ ⟨rfl, rfl⟩
      refine V.eqs (st' := [.int (bI (hasD (gN σ 1) (nI i)))]) rfl ?_
      refine V.if_neB X 19 dX11_alike_8 (by decide) (fun c8 => ?_) (fun c8 => by exfalso; rw [hx] at c8; cases c8)
      refine V.aload_n X 0 dX11_alike_19 rfl rfl ?_
      refine Vg_c_0_comparing X tw_380 dX11_alike_20 ?_
      refine V.iload_n X 2 dX11_alike_23 rfl rfl ?_
      refine V.callV X rfl (t24_begin (zl Z) (zG Z) a σ i) cv_X11_160 rfl 24 rfl rfl (len hRf (by decide)) (len hRl (by decide)) hk0 ht0 [] rfl (Nat.le_of_ble_eq_true rfl) dX11_alike_24 ?_
      rintro _ _ ⟨rfl, rfl⟩
      refine V.eqs (st' := []) rfl ?_
      refine V.eqw (ws' := cw (zG Z) a (akS σ i)) rfl ?_
      refine V.aload_n X 0 dX11_alike_27 rfl rfl ?_
      refine Vg_c_0_walker X tw_375 dX11_alike_28 ?_
      refine V.aload_n X 0 dX11_alike_31 rfl rfl ?_
      refine Vg_c_0_comparing X tw_380 dX11_alike_32 ?_
      refine V.iload_n X 1 dX11_alike_35 rfl rfl ?_
      refine V.callV X rfl (w_go (zl Z) (zG Z) a (akS σ i) 24 d (h1) (hgo i hi rfl)) cv_X11_146 rfl 15 rfl rfl (len hRf (by decide)) (len hRl (by decide)) hk0 ht0 [] rfl (Nat.le_of_ble_eq_true rfl) dX11_alike_36 ?_
      rintro rv w hw; rw [if_pos (show hasD (gN (akS σ i) 1) d = true from hh)] at hw; obtain ⟨j, hj, hje, x, y, rfl, rfl⟩ := hw
      refine V.eqs (st' := [.int (gI (goF (akS σ i) 24 j) 2)]) rfl ?_
      refine V.istore_n X (lv' := [(3, .int (gI (goF (akS σ i) 24 j) 2)), (0, .ref (a 0)), (1, .int d), (2, .int (nI i))]) dX11_alike_39 rfl (ltn hn (by decide)) rfl ?_
      refine V.iload_n X 0 dX11_alike_40 rfl rfl ?_
      refine V.if_eq X 46 dX11_alike_41 (by decide) (fun c41 => ?_) (fun c41 => ?_)
      · refine V.aload_n X 1 dX11_alike_46 rfl rfl ?_
        refine Vg_c_0_comparing X tw_380 dX11_alike_47 ?_
        refine Vg_c_24_over (x := gB (ee (goF (akS σ i) 24 j) x y) 24) X (Or.inr tw_205) tw_206 dX11_alike_50 rfl ?_
        refine V.if_eqB X 60 dX11_alike_53 (by decide) (fun c53 => ?_) (fun c53 => ?_)
        · refine V.iconst X (v := nI 1) dX11_alike_60 (by decide) ?_
          exact V.iret X rfl hA hk ht hQ rfl dX11_alike_61 (by rw [if_pos ⟨hh, hx⟩]; exact ⟨j, hj, hje, i, hi, rfl, x, y, by rw [akR, if_pos c41, if_neg (show ¬ gB (goF (akS σ i) 24 j) 24 = true by rw [show gB (goF (akS σ i) 24 j) 24 = false from c53]; decide)], rfl⟩)
        · refine V.iconst X (v := nI 0) dX11_alike_56 (by decide) ?_
          refine V.goto X 61 dX11_alike_57 (by decide) ?_
          exact V.iret X rfl hA hk ht hQ rfl dX11_alike_61 (by rw [if_pos ⟨hh, hx⟩]; exact ⟨j, hj, hje, i, hi, rfl, x, y, by rw [akR, if_pos c41, if_pos (show gB (goF (akS σ i) 24 j) 24 = true from c53)], rfl⟩)
      · refine V.iload_n X 0 dX11_alike_44 rfl rfl ?_
        exact V.iret X rfl hA hk ht hQ rfl dX11_alike_45 (by rw [if_pos ⟨hh, hx⟩]; exact ⟨j, hj, hje, i, hi, rfl, x, y, by rw [akR, if_neg c41], rfl⟩)

