set_option maxHeartbeats 4000000 in
set_option maxRecDepth 100000 in
theorem i_Task_7 (l : Launch) (G : Gx) (b d : Nat) : MC l G ⟨"NestedDeeds$Task", "<init>", "(LNestedDeeds$Deeds;)V"⟩ prog_9_method_1_code 2 1 12 0 0 [.ref b, .ref d] [(b, .inr (7, [.null, .int 0]))] (fun w => w = [(b, .inr (7, [.ref d, .int 0]))]) := by
  refine MC.of (lv := [(0, .ref b), (1, .ref d)]) (by decide +kernel) rfl rfl (Nat.le_of_ble_eq_true rfl) ?_
  intro Z hRf hRl hRc hRs hl hG hn hA hQ hM hK2 X
  subst hG hl
  have X : XC Z "NestedDeeds$Task" prog_9_method_1_code none := X
  have hAA : ∀ q, (zs Z).heap.size ≤ q → zA Z q := fun q h => by rw [hA]; exact Or.inr h
  refine V.aload_n (X.at (0) (0)) 0 dX7_init_0 rfl rfl ?_
  refine V.objI (X.at (0) (0)) tw_185 (len hRf (by decide)) (len hRl (by decide)) dX7_init_1 ?_
  refine V.aload_n (X.at (0) (0)) 0 dX7_init_4 rfl rfl ?_
  refine V.aload_n (X.at (0) (0)) 1 dX7_init_5 rfl rfl ?_
  refine V.putF (ws := [(b, .inr (7, [.null, .int 0]))]) (a := b) (ci := 7) (fs := [.null, .int 0]) (v := .ref d) (X.at (0) (0)) hM tyX7 tyX7_ok nmX7 inX7 0 rfl rfl 0 (by decide) rfl rfl (tyX7_ok 0 (by decide)) rfl rfl (Nat.le_of_ble_eq_true rfl) rfl rfl tw_186 dX7_init_6 ?_
  refine V.eqw (ws' := [(b, .inr (7, [.ref d, .int 0]))]) rfl ?_
  exact V.cret X rfl hA hQ rfl rfl rfl dX7_init_9 (rfl)

set_option maxHeartbeats 4000000 in
set_option maxRecDepth 100000 in
theorem i_Task_9 (l : Launch) (G : Gx) (b d : Nat) : MC l G ⟨"NestedDeeds$Task", "<init>", "(LNestedDeeds$Deeds;)V"⟩ prog_9_method_1_code 2 1 12 0 0 [.ref b, .ref d] [(b, .inr (9, [.null, .int 0, .null, .null]))] (fun w => w = [(b, .inr (9, [.ref d, .int 0, .null, .null]))]) := by
  refine MC.of (lv := [(0, .ref b), (1, .ref d)]) (by decide +kernel) rfl rfl (Nat.le_of_ble_eq_true rfl) ?_
  intro Z hRf hRl hRc hRs hl hG hn hA hQ hM hK2 X
  subst hG hl
  have X : XC Z "NestedDeeds$Task" prog_9_method_1_code none := X
  have hAA : ∀ q, (zs Z).heap.size ≤ q → zA Z q := fun q h => by rw [hA]; exact Or.inr h
  refine V.aload_n (X.at (0) (0)) 0 dX7_init_0 rfl rfl ?_
  refine V.objI (X.at (0) (0)) tw_185 (len hRf (by decide)) (len hRl (by decide)) dX7_init_1 ?_
  refine V.aload_n (X.at (0) (0)) 0 dX7_init_4 rfl rfl ?_
  refine V.aload_n (X.at (0) (0)) 1 dX7_init_5 rfl rfl ?_
  refine V.putF (ws := [(b, .inr (9, [.null, .int 0, .null, .null]))]) (a := b) (ci := 9) (fs := [.null, .int 0, .null, .null]) (v := .ref d) (X.at (0) (0)) hM tyX9 tyX9_ok nmX9 inX9 0 rfl rfl 0 (by decide) rfl rfl (tyX9_ok 0 (by decide)) rfl rfl (Nat.le_of_ble_eq_true rfl) rfl rfl tw_186 dX7_init_6 ?_
  refine V.eqw (ws' := [(b, .inr (9, [.ref d, .int 0, .null, .null]))]) rfl ?_
  exact V.cret X rfl hA hQ rfl rfl rfl dX7_init_9 (rfl)

set_option maxHeartbeats 4000000 in
set_option maxRecDepth 100000 in
theorem i_Task_4 (l : Launch) (G : Gx) (b d : Nat) : MC l G ⟨"NestedDeeds$Task", "<init>", "(LNestedDeeds$Deeds;)V"⟩ prog_9_method_1_code 2 1 12 0 0 [.ref b, .ref d] [(b, .inr (4, [.null, .int 0, .null]))] (fun w => w = [(b, .inr (4, [.ref d, .int 0, .null]))]) := by
  refine MC.of (lv := [(0, .ref b), (1, .ref d)]) (by decide +kernel) rfl rfl (Nat.le_of_ble_eq_true rfl) ?_
  intro Z hRf hRl hRc hRs hl hG hn hA hQ hM hK2 X
  subst hG hl
  have X : XC Z "NestedDeeds$Task" prog_9_method_1_code none := X
  have hAA : ∀ q, (zs Z).heap.size ≤ q → zA Z q := fun q h => by rw [hA]; exact Or.inr h
  refine V.aload_n (X.at (0) (0)) 0 dX7_init_0 rfl rfl ?_
  refine V.objI (X.at (0) (0)) tw_185 (len hRf (by decide)) (len hRl (by decide)) dX7_init_1 ?_
  refine V.aload_n (X.at (0) (0)) 0 dX7_init_4 rfl rfl ?_
  refine V.aload_n (X.at (0) (0)) 1 dX7_init_5 rfl rfl ?_
  refine V.putF (ws := [(b, .inr (4, [.null, .int 0, .null]))]) (a := b) (ci := 4) (fs := [.null, .int 0, .null]) (v := .ref d) (X.at (0) (0)) hM tyX4 tyX4_ok nmX4 inX4 0 rfl rfl 0 (by decide) rfl rfl (tyX4_ok 0 (by decide)) rfl rfl (Nat.le_of_ble_eq_true rfl) rfl rfl tw_186 dX7_init_6 ?_
  refine V.eqw (ws' := [(b, .inr (4, [.ref d, .int 0, .null]))]) rfl ?_
  exact V.cret X rfl hA hQ rfl rfl rfl dX7_init_9 (rfl)

set_option maxHeartbeats 4000000 in
set_option maxRecDepth 100000 in
theorem i_Task_0 (l : Launch) (G : Gx) (b d : Nat) : MC l G ⟨"NestedDeeds$Task", "<init>", "(LNestedDeeds$Deeds;)V"⟩ prog_9_method_1_code 2 1 12 0 0 [.ref b, .ref d] [(b, .inr (0, [.null, .int 0, .null]))] (fun w => w = [(b, .inr (0, [.ref d, .int 0, .null]))]) := by
  refine MC.of (lv := [(0, .ref b), (1, .ref d)]) (by decide +kernel) rfl rfl (Nat.le_of_ble_eq_true rfl) ?_
  intro Z hRf hRl hRc hRs hl hG hn hA hQ hM hK2 X
  subst hG hl
  have X : XC Z "NestedDeeds$Task" prog_9_method_1_code none := X
  have hAA : ∀ q, (zs Z).heap.size ≤ q → zA Z q := fun q h => by rw [hA]; exact Or.inr h
  refine V.aload_n (X.at (0) (0)) 0 dX7_init_0 rfl rfl ?_
  refine V.objI (X.at (0) (0)) tw_185 (len hRf (by decide)) (len hRl (by decide)) dX7_init_1 ?_
  refine V.aload_n (X.at (0) (0)) 0 dX7_init_4 rfl rfl ?_
  refine V.aload_n (X.at (0) (0)) 1 dX7_init_5 rfl rfl ?_
  refine V.putF (ws := [(b, .inr (0, [.null, .int 0, .null]))]) (a := b) (ci := 0) (fs := [.null, .int 0, .null]) (v := .ref d) (X.at (0) (0)) hM tyX0 tyX0_ok nmX0 inX0 0 rfl rfl 0 (by decide) rfl rfl (tyX0_ok 0 (by decide)) rfl rfl (Nat.le_of_ble_eq_true rfl) rfl rfl tw_186 dX7_init_6 ?_
  refine V.eqw (ws' := [(b, .inr (0, [.ref d, .int 0, .null]))]) rfl ?_
  exact V.cret X rfl hA hQ rfl rfl rfl dX7_init_9 (rfl)

set_option maxHeartbeats 4000000 in
set_option maxRecDepth 100000 in
theorem i_Task_10 (l : Launch) (G : Gx) (b d : Nat) : MC l G ⟨"NestedDeeds$Task", "<init>", "(LNestedDeeds$Deeds;)V"⟩ prog_9_method_1_code 2 1 12 0 0 [.ref b, .ref d] [(b, .inr (10, [.null, .int 0, .null]))] (fun w => w = [(b, .inr (10, [.ref d, .int 0, .null]))]) := by
  refine MC.of (lv := [(0, .ref b), (1, .ref d)]) (by decide +kernel) rfl rfl (Nat.le_of_ble_eq_true rfl) ?_
  intro Z hRf hRl hRc hRs hl hG hn hA hQ hM hK2 X
  subst hG hl
  have X : XC Z "NestedDeeds$Task" prog_9_method_1_code none := X
  have hAA : ∀ q, (zs Z).heap.size ≤ q → zA Z q := fun q h => by rw [hA]; exact Or.inr h
  refine V.aload_n (X.at (0) (0)) 0 dX7_init_0 rfl rfl ?_
  refine V.objI (X.at (0) (0)) tw_185 (len hRf (by decide)) (len hRl (by decide)) dX7_init_1 ?_
  refine V.aload_n (X.at (0) (0)) 0 dX7_init_4 rfl rfl ?_
  refine V.aload_n (X.at (0) (0)) 1 dX7_init_5 rfl rfl ?_
  refine V.putF (ws := [(b, .inr (10, [.null, .int 0, .null]))]) (a := b) (ci := 10) (fs := [.null, .int 0, .null]) (v := .ref d) (X.at (0) (0)) hM tyX10 tyX10_ok nmX10 inX10 0 rfl rfl 0 (by decide) rfl rfl (tyX10_ok 0 (by decide)) rfl rfl (Nat.le_of_ble_eq_true rfl) rfl rfl tw_186 dX7_init_6 ?_
  refine V.eqw (ws' := [(b, .inr (10, [.ref d, .int 0, .null]))]) rfl ?_
  exact V.cret X rfl hA hQ rfl rfl rfl dX7_init_9 (rfl)

set_option maxHeartbeats 4000000 in
set_option maxRecDepth 100000 in
theorem i_Task_3 (l : Launch) (G : Gx) (b d : Nat) : MC l G ⟨"NestedDeeds$Task", "<init>", "(LNestedDeeds$Deeds;)V"⟩ prog_9_method_1_code 2 1 12 0 0 [.ref b, .ref d] [(b, .inr (3, [.null, .int 0, .int 0, .int 0]))] (fun w => w = [(b, .inr (3, [.ref d, .int 0, .int 0, .int 0]))]) := by
  refine MC.of (lv := [(0, .ref b), (1, .ref d)]) (by decide +kernel) rfl rfl (Nat.le_of_ble_eq_true rfl) ?_
  intro Z hRf hRl hRc hRs hl hG hn hA hQ hM hK2 X
  subst hG hl
  have X : XC Z "NestedDeeds$Task" prog_9_method_1_code none := X
  have hAA : ∀ q, (zs Z).heap.size ≤ q → zA Z q := fun q h => by rw [hA]; exact Or.inr h
  refine V.aload_n (X.at (0) (0)) 0 dX7_init_0 rfl rfl ?_
  refine V.objI (X.at (0) (0)) tw_185 (len hRf (by decide)) (len hRl (by decide)) dX7_init_1 ?_
  refine V.aload_n (X.at (0) (0)) 0 dX7_init_4 rfl rfl ?_
  refine V.aload_n (X.at (0) (0)) 1 dX7_init_5 rfl rfl ?_
  refine V.putF (ws := [(b, .inr (3, [.null, .int 0, .int 0, .int 0]))]) (a := b) (ci := 3) (fs := [.null, .int 0, .int 0, .int 0]) (v := .ref d) (X.at (0) (0)) hM tyX3 tyX3_ok nmX3 inX3 0 rfl rfl 0 (by decide) rfl rfl (tyX3_ok 0 (by decide)) rfl rfl (Nat.le_of_ble_eq_true rfl) rfl rfl tw_186 dX7_init_6 ?_
  refine V.eqw (ws' := [(b, .inr (3, [.ref d, .int 0, .int 0, .int 0]))]) rfl ?_
  exact V.cret X rfl hA hQ rfl rfl rfl dX7_init_9 (rfl)

set_option maxHeartbeats 4000000 in
set_option maxRecDepth 100000 in
theorem i_Task_1 (l : Launch) (G : Gx) (b d : Nat) : MC l G ⟨"NestedDeeds$Task", "<init>", "(LNestedDeeds$Deeds;)V"⟩ prog_9_method_1_code 2 1 12 0 0 [.ref b, .ref d] [(b, .inr (1, [.null, .int 0, .null, .null, .null, .null, .int 0, .int 0, .int 0, .int 0]))] (fun w => w = [(b, .inr (1, [.ref d, .int 0, .null, .null, .null, .null, .int 0, .int 0, .int 0, .int 0]))]) := by
  refine MC.of (lv := [(0, .ref b), (1, .ref d)]) (by decide +kernel) rfl rfl (Nat.le_of_ble_eq_true rfl) ?_
  intro Z hRf hRl hRc hRs hl hG hn hA hQ hM hK2 X
  subst hG hl
  have X : XC Z "NestedDeeds$Task" prog_9_method_1_code none := X
  have hAA : ∀ q, (zs Z).heap.size ≤ q → zA Z q := fun q h => by rw [hA]; exact Or.inr h
  refine V.aload_n (X.at (0) (0)) 0 dX7_init_0 rfl rfl ?_
  refine V.objI (X.at (0) (0)) tw_185 (len hRf (by decide)) (len hRl (by decide)) dX7_init_1 ?_
  refine V.aload_n (X.at (0) (0)) 0 dX7_init_4 rfl rfl ?_
  refine V.aload_n (X.at (0) (0)) 1 dX7_init_5 rfl rfl ?_
  refine V.putF (ws := [(b, .inr (1, [.null, .int 0, .null, .null, .null, .null, .int 0, .int 0, .int 0, .int 0]))]) (a := b) (ci := 1) (fs := [.null, .int 0, .null, .null, .null, .null, .int 0, .int 0, .int 0, .int 0]) (v := .ref d) (X.at (0) (0)) hM tyX1 tyX1_ok nmX1 inX1 0 rfl rfl 0 (by decide) rfl rfl (tyX1_ok 0 (by decide)) rfl rfl (Nat.le_of_ble_eq_true rfl) rfl rfl tw_186 dX7_init_6 ?_
  refine V.eqw (ws' := [(b, .inr (1, [.ref d, .int 0, .null, .null, .null, .null, .int 0, .int 0, .int 0, .int 0]))]) rfl ?_
  exact V.cret X rfl hA hQ rfl rfl rfl dX7_init_9 (rfl)

set_option maxHeartbeats 4000000 in
set_option maxRecDepth 100000 in
theorem i_Deeds (l : Launch) (G : Gx) (b : Nat) : MC l G ⟨"NestedDeeds$Deeds", "<init>", "()V"⟩ prog_4_method_1_code 1 1 12 5 10001 [.ref b] [(b, .inr (2, [.null, .null, .null, .null, .null, .int 0, .int 0]))] (fun w => ∃ q1 q2 q3 q4 q5, w = [(b, .inr (2, [.ref q1, .ref q2, .ref q3, .ref q4, .ref q5, .int 0, .int 0])), (q1, .inl (G.2.1, 1500, .inl (fun _ => 0))), (q2, .inl (G.2.1, 1500, .inl (fun _ => 0))), (q3, .inl (G.2.1, 1501, .inl (fun _ => 0))), (q4, .inl (G.2.1, 4000, .inl (fun _ => 0))), (q5, .inl (G.2.1, 1500, .inl (fun _ => 0)))]) := by
  refine MC.of (lv := [(0, .ref b)]) (by decide +kernel) rfl rfl (Nat.le_of_ble_eq_true rfl) ?_
  intro Z hRf hRl hRc hRs hl hG hn hA hQ hM hK2 X
  subst hG hl
  have X : XC Z "NestedDeeds$Deeds" prog_4_method_1_code none := X
  have hAA : ∀ q, (zs Z).heap.size ≤ q → zA Z q := fun q h => by rw [hA]; exact Or.inr h
  refine V.aload_n (X.at (0) (0)) 0 dX2_init_0 rfl rfl ?_
  refine V.objI (X.at (0) (0)) tw_77 (len hRf (by decide)) (len hRl (by decide)) dX2_init_1 ?_
  refine V.aload_n (X.at (0) (0)) 0 dX2_init_4 rfl rfl ?_
  refine V.sipush (X.at (0) (0)) (v := nI 1500) dX2_init_5 (by decide) ?_
  refine V.newa X (cA := (zG Z).2.1) 0 rfl (fun _ => rfl) tw_117 rfl hAA (a0 := (1500, .inl (fun _ => 0))) (fun _ => rfl) (by decide) (by decide) (by decide) (len hRc (Nat.le_of_ble_eq_true rfl)) (len hRs (Nat.le_of_ble_eq_true rfl)) dX2_init_8 (fun q1 => ?_)
  refine V.eqw (ws' := [(b, .inr (2, [.null, .null, .null, .null, .null, .int 0, .int 0])), (q1, .inl ((zG Z).2.1, 1500, .inl (fun _ => 0)))]) rfl ?_
  refine V.putF (ws := [(b, .inr (2, [.null, .null, .null, .null, .null, .int 0, .int 0])), (q1, .inl ((zG Z).2.1, 1500, .inl (fun _ => 0)))]) (a := b) (ci := 2) (fs := [.null, .null, .null, .null, .null, .int 0, .int 0]) (v := .ref q1) (X.at (0 + 1) (0 + 1500)) hM tyX2 tyX2_ok nmX2 inX2 0 rfl rfl 0 (by decide) rfl rfl (tyX2_ok 0 (by decide)) rfl rfl (Nat.le_of_ble_eq_true rfl) rfl rfl tw_78 dX2_init_10 ?_
  refine V.eqw (ws' := [(b, .inr (2, [.ref q1, .null, .null, .null, .null, .int 0, .int 0])), (q1, .inl ((zG Z).2.1, 1500, .inl (fun _ => 0)))]) rfl ?_
  refine V.aload_n (X.at (0 + 1) (0 + 1500)) 0 dX2_init_13 rfl rfl ?_
  refine V.sipush (X.at (0 + 1) (0 + 1500)) (v := nI 1500) dX2_init_14 (by decide) ?_
  refine V.newa X (cA := (zG Z).2.1) 0 rfl (fun _ => rfl) tw_117 rfl hAA (a0 := (1500, .inl (fun _ => 0))) (fun _ => rfl) (by decide) (by decide) (by decide) (len hRc (Nat.le_of_ble_eq_true rfl)) (len hRs (Nat.le_of_ble_eq_true rfl)) dX2_init_17 (fun q2 => ?_)
  refine V.eqw (ws' := [(b, .inr (2, [.ref q1, .null, .null, .null, .null, .int 0, .int 0])), (q1, .inl ((zG Z).2.1, 1500, .inl (fun _ => 0))), (q2, .inl ((zG Z).2.1, 1500, .inl (fun _ => 0)))]) rfl ?_
  refine V.putF (ws := [(b, .inr (2, [.ref q1, .null, .null, .null, .null, .int 0, .int 0])), (q1, .inl ((zG Z).2.1, 1500, .inl (fun _ => 0))), (q2, .inl ((zG Z).2.1, 1500, .inl (fun _ => 0)))]) (a := b) (ci := 2) (fs := [.ref q1, .null, .null, .null, .null, .int 0, .int 0]) (v := .ref q2) (X.at (0 + 1 + 1) (0 + 1500 + 1500)) hM tyX2 tyX2_ok nmX2 inX2 0 rfl rfl 1 (by decide) rfl rfl (tyX2_ok 1 (by decide)) rfl rfl (Nat.le_of_ble_eq_true rfl) rfl rfl tw_86 dX2_init_19 ?_
  refine V.eqw (ws' := [(b, .inr (2, [.ref q1, .ref q2, .null, .null, .null, .int 0, .int 0])), (q1, .inl ((zG Z).2.1, 1500, .inl (fun _ => 0))), (q2, .inl ((zG Z).2.1, 1500, .inl (fun _ => 0)))]) rfl ?_
  refine V.aload_n (X.at (0 + 1 + 1) (0 + 1500 + 1500)) 0 dX2_init_22 rfl rfl ?_
  refine V.sipush (X.at (0 + 1 + 1) (0 + 1500 + 1500)) (v := nI 1501) dX2_init_23 (by decide) ?_
  refine V.newa X (cA := (zG Z).2.1) 0 rfl (fun _ => rfl) tw_117 rfl hAA (a0 := (1501, .inl (fun _ => 0))) (fun _ => rfl) (by decide) (by decide) (by decide) (len hRc (Nat.le_of_ble_eq_true rfl)) (len hRs (Nat.le_of_ble_eq_true rfl)) dX2_init_26 (fun q3 => ?_)
  refine V.eqw (ws' := [(b, .inr (2, [.ref q1, .ref q2, .null, .null, .null, .int 0, .int 0])), (q1, .inl ((zG Z).2.1, 1500, .inl (fun _ => 0))), (q2, .inl ((zG Z).2.1, 1500, .inl (fun _ => 0))), (q3, .inl ((zG Z).2.1, 1501, .inl (fun _ => 0)))]) rfl ?_
  refine V.putF (ws := [(b, .inr (2, [.ref q1, .ref q2, .null, .null, .null, .int 0, .int 0])), (q1, .inl ((zG Z).2.1, 1500, .inl (fun _ => 0))), (q2, .inl ((zG Z).2.1, 1500, .inl (fun _ => 0))), (q3, .inl ((zG Z).2.1, 1501, .inl (fun _ => 0)))]) (a := b) (ci := 2) (fs := [.ref q1, .ref q2, .null, .null, .null, .int 0, .int 0]) (v := .ref q3) (X.at (0 + 1 + 1 + 1) (0 + 1500 + 1500 + 1501)) hM tyX2 tyX2_ok nmX2 inX2 0 rfl rfl 2 (by decide) rfl rfl (tyX2_ok 2 (by decide)) rfl rfl (Nat.le_of_ble_eq_true rfl) rfl rfl tw_94 dX2_init_28 ?_
  refine V.eqw (ws' := [(b, .inr (2, [.ref q1, .ref q2, .ref q3, .null, .null, .int 0, .int 0])), (q1, .inl ((zG Z).2.1, 1500, .inl (fun _ => 0))), (q2, .inl ((zG Z).2.1, 1500, .inl (fun _ => 0))), (q3, .inl ((zG Z).2.1, 1501, .inl (fun _ => 0)))]) rfl ?_
  refine V.aload_n (X.at (0 + 1 + 1 + 1) (0 + 1500 + 1500 + 1501)) 0 dX2_init_31 rfl rfl ?_
  refine V.sipush (X.at (0 + 1 + 1 + 1) (0 + 1500 + 1500 + 1501)) (v := nI 4000) dX2_init_32 (by decide) ?_
  refine V.newa X (cA := (zG Z).2.1) 0 rfl (fun _ => rfl) tw_117 rfl hAA (a0 := (4000, .inl (fun _ => 0))) (fun _ => rfl) (by decide) (by decide) (by decide) (len hRc (Nat.le_of_ble_eq_true rfl)) (len hRs (Nat.le_of_ble_eq_true rfl)) dX2_init_35 (fun q4 => ?_)
  refine V.eqw (ws' := [(b, .inr (2, [.ref q1, .ref q2, .ref q3, .null, .null, .int 0, .int 0])), (q1, .inl ((zG Z).2.1, 1500, .inl (fun _ => 0))), (q2, .inl ((zG Z).2.1, 1500, .inl (fun _ => 0))), (q3, .inl ((zG Z).2.1, 1501, .inl (fun _ => 0))), (q4, .inl ((zG Z).2.1, 4000, .inl (fun _ => 0)))]) rfl ?_
  refine V.putF (ws := [(b, .inr (2, [.ref q1, .ref q2, .ref q3, .null, .null, .int 0, .int 0])), (q1, .inl ((zG Z).2.1, 1500, .inl (fun _ => 0))), (q2, .inl ((zG Z).2.1, 1500, .inl (fun _ => 0))), (q3, .inl ((zG Z).2.1, 1501, .inl (fun _ => 0))), (q4, .inl ((zG Z).2.1, 4000, .inl (fun _ => 0)))]) (a := b) (ci := 2) (fs := [.ref q1, .ref q2, .ref q3, .null, .null, .int 0, .int 0]) (v := .ref q4) (X.at (0 + 1 + 1 + 1 + 1) (0 + 1500 + 1500 + 1501 + 4000)) hM tyX2 tyX2_ok nmX2 inX2 0 rfl rfl 3 (by decide) rfl rfl (tyX2_ok 3 (by decide)) rfl rfl (Nat.le_of_ble_eq_true rfl) rfl rfl tw_96 dX2_init_37 ?_
  refine V.eqw (ws' := [(b, .inr (2, [.ref q1, .ref q2, .ref q3, .ref q4, .null, .int 0, .int 0])), (q1, .inl ((zG Z).2.1, 1500, .inl (fun _ => 0))), (q2, .inl ((zG Z).2.1, 1500, .inl (fun _ => 0))), (q3, .inl ((zG Z).2.1, 1501, .inl (fun _ => 0))), (q4, .inl ((zG Z).2.1, 4000, .inl (fun _ => 0)))]) rfl ?_
  refine V.aload_n (X.at (0 + 1 + 1 + 1 + 1) (0 + 1500 + 1500 + 1501 + 4000)) 0 dX2_init_40 rfl rfl ?_
  refine V.sipush (X.at (0 + 1 + 1 + 1 + 1) (0 + 1500 + 1500 + 1501 + 4000)) (v := nI 1500) dX2_init_41 (by decide) ?_
  refine V.newa X (cA := (zG Z).2.1) 0 rfl (fun _ => rfl) tw_117 rfl hAA (a0 := (1500, .inl (fun _ => 0))) (fun _ => rfl) (by decide) (by decide) (by decide) (len hRc (Nat.le_of_ble_eq_true rfl)) (len hRs (Nat.le_of_ble_eq_true rfl)) dX2_init_44 (fun q5 => ?_)
  refine V.eqw (ws' := [(b, .inr (2, [.ref q1, .ref q2, .ref q3, .ref q4, .null, .int 0, .int 0])), (q1, .inl ((zG Z).2.1, 1500, .inl (fun _ => 0))), (q2, .inl ((zG Z).2.1, 1500, .inl (fun _ => 0))), (q3, .inl ((zG Z).2.1, 1501, .inl (fun _ => 0))), (q4, .inl ((zG Z).2.1, 4000, .inl (fun _ => 0))), (q5, .inl ((zG Z).2.1, 1500, .inl (fun _ => 0)))]) rfl ?_
  refine V.putF (ws := [(b, .inr (2, [.ref q1, .ref q2, .ref q3, .ref q4, .null, .int 0, .int 0])), (q1, .inl ((zG Z).2.1, 1500, .inl (fun _ => 0))), (q2, .inl ((zG Z).2.1, 1500, .inl (fun _ => 0))), (q3, .inl ((zG Z).2.1, 1501, .inl (fun _ => 0))), (q4, .inl ((zG Z).2.1, 4000, .inl (fun _ => 0))), (q5, .inl ((zG Z).2.1, 1500, .inl (fun _ => 0)))]) (a := b) (ci := 2) (fs := [.ref q1, .ref q2, .ref q3, .ref q4, .null, .int 0, .int 0]) (v := .ref q5) (X.at (0 + 1 + 1 + 1 + 1 + 1) (0 + 1500 + 1500 + 1501 + 4000 + 1500)) hM tyX2 tyX2_ok nmX2 inX2 0 rfl rfl 4 (by decide) rfl rfl (tyX2_ok 4 (by decide)) rfl rfl (Nat.le_of_ble_eq_true rfl) rfl rfl tw_98 dX2_init_46 ?_
  refine V.eqw (ws' := [(b, .inr (2, [.ref q1, .ref q2, .ref q3, .ref q4, .ref q5, .int 0, .int 0])), (q1, .inl ((zG Z).2.1, 1500, .inl (fun _ => 0))), (q2, .inl ((zG Z).2.1, 1500, .inl (fun _ => 0))), (q3, .inl ((zG Z).2.1, 1501, .inl (fun _ => 0))), (q4, .inl ((zG Z).2.1, 4000, .inl (fun _ => 0))), (q5, .inl ((zG Z).2.1, 1500, .inl (fun _ => 0)))]) rfl ?_
  exact V.cret X rfl hA hQ rfl rfl rfl dX2_init_49 (⟨q1, q2, q3, q4, q5, rfl⟩)

set_option maxHeartbeats 4000000 in
set_option maxRecDepth 100000 in
theorem i_Paper (l : Launch) (G : Gx) (b : Nat) : MC l G ⟨"NestedDeeds$Paper", "<init>", "()V"⟩ prog_7_method_1_code 1 1 12 1 6000 [.ref b] [(b, .inr (5, [.null, .int 0, .int 0]))] (fun w => ∃ q1, w = [(b, .inr (5, [.ref q1, .int 0, .int 0])), (q1, .inl (G.2.2.2.1, 6000, .inl (fun _ => 0)))]) := by
  refine MC.of (lv := [(0, .ref b)]) (by decide +kernel) rfl rfl (Nat.le_of_ble_eq_true rfl) ?_
  intro Z hRf hRl hRc hRs hl hG hn hA hQ hM hK2 X
  subst hG hl
  have X : XC Z "NestedDeeds$Paper" prog_7_method_1_code none := X
  have hAA : ∀ q, (zs Z).heap.size ≤ q → zA Z q := fun q h => by rw [hA]; exact Or.inr h
  refine V.aload_n (X.at (0) (0)) 0 dX5_init_0 rfl rfl ?_
  refine V.objI (X.at (0) (0)) tw_123 (len hRf (by decide)) (len hRl (by decide)) dX5_init_1 ?_
  refine V.aload_n (X.at (0) (0)) 0 dX5_init_4 rfl rfl ?_
  refine V.sipush (X.at (0) (0)) (v := nI 6000) dX5_init_5 (by decide) ?_
  refine V.newa X (cA := (zG Z).2.2.2.1) 2 rfl (fun _ => rfl) tw_138 rfl hAA (a0 := (6000, .inl (fun _ => 0))) (fun _ => rfl) (by decide) (by decide) (by decide) (len hRc (Nat.le_of_ble_eq_true rfl)) (len hRs (Nat.le_of_ble_eq_true rfl)) dX5_init_8 (fun q1 => ?_)
  refine V.eqw (ws' := [(b, .inr (5, [.null, .int 0, .int 0])), (q1, .inl ((zG Z).2.2.2.1, 6000, .inl (fun _ => 0)))]) rfl ?_
  refine V.putF (ws := [(b, .inr (5, [.null, .int 0, .int 0])), (q1, .inl ((zG Z).2.2.2.1, 6000, .inl (fun _ => 0)))]) (a := b) (ci := 5) (fs := [.null, .int 0, .int 0]) (v := .ref q1) (X.at (0 + 1) (0 + 6000)) hM tyX5 tyX5_ok nmX5 inX5 0 rfl rfl 0 (by decide) rfl rfl (tyX5_ok 0 (by decide)) rfl rfl (Nat.le_of_ble_eq_true rfl) rfl rfl tw_124 dX5_init_10 ?_
  refine V.eqw (ws' := [(b, .inr (5, [.ref q1, .int 0, .int 0])), (q1, .inl ((zG Z).2.2.2.1, 6000, .inl (fun _ => 0)))]) rfl ?_
  exact V.cret X rfl hA hQ rfl rfl rfl dX5_init_13 (⟨q1, rfl⟩)

set_option maxHeartbeats 4000000 in
set_option maxRecDepth 100000 in
theorem i_Reader (l : Launch) (G : Gx) (b d p : Nat) : MC l G ⟨"NestedDeeds$Reader", "<init>", "(LNestedDeeds$Deeds;LNestedDeeds$Paper;)V"⟩ prog_8_method_1_code 3 1 12 3 6003 [.ref b, .ref d, .ref p] [(b, .inr (6, [.null, .null, .null, .null, .null, .int 0, .int 0, .int 0, .int 0, .int 0, .int 0]))] (fun w => ∃ q1 q2 q3, w = [(b, .inr (6, [.ref d, .ref p, .ref q1, .ref q2, .ref q3, .int 0, .int 0, .int 0, .int 0, .int 0, .int 0])), (q1, .inl (G.2.1, 2001, .inl (fun _ => 0))), (q2, .inl (G.2.1, 2001, .inl (fun _ => 0))), (q3, .inl (G.2.1, 2001, .inl (fun _ => 0)))]) := by
  refine MC.of (lv := [(0, .ref b), (1, .ref d), (2, .ref p)]) (by decide +kernel) rfl rfl (Nat.le_of_ble_eq_true rfl) ?_
  intro Z hRf hRl hRc hRs hl hG hn hA hQ hM hK2 X
  subst hG hl
  have X : XC Z "NestedDeeds$Reader" prog_8_method_1_code none := X
  have hAA : ∀ q, (zs Z).heap.size ≤ q → zA Z q := fun q h => by rw [hA]; exact Or.inr h
  refine V.aload_n (X.at (0) (0)) 0 dX6_init_0 rfl rfl ?_
  refine V.objI (X.at (0) (0)) tw_144 (len hRf (by decide)) (len hRl (by decide)) dX6_init_1 ?_
  refine V.aload_n (X.at (0) (0)) 0 dX6_init_4 rfl rfl ?_
  refine V.sipush (X.at (0) (0)) (v := nI 2001) dX6_init_5 (by decide) ?_
  refine V.newa X (cA := (zG Z).2.1) 0 rfl (fun _ => rfl) tw_117 rfl hAA (a0 := (2001, .inl (fun _ => 0))) (fun _ => rfl) (by decide) (by decide) (by decide) (len hRc (Nat.le_of_ble_eq_true rfl)) (len hRs (Nat.le_of_ble_eq_true rfl)) dX6_init_8 (fun q1 => ?_)
  refine V.eqw (ws' := [(b, .inr (6, [.null, .null, .null, .null, .null, .int 0, .int 0, .int 0, .int 0, .int 0, .int 0])), (q1, .inl ((zG Z).2.1, 2001, .inl (fun _ => 0)))]) rfl ?_
  refine V.putF (ws := [(b, .inr (6, [.null, .null, .null, .null, .null, .int 0, .int 0, .int 0, .int 0, .int 0, .int 0])), (q1, .inl ((zG Z).2.1, 2001, .inl (fun _ => 0)))]) (a := b) (ci := 6) (fs := [.null, .null, .null, .null, .null, .int 0, .int 0, .int 0, .int 0, .int 0, .int 0]) (v := .ref q1) (X.at (0 + 1) (0 + 2001)) hM tyX6 tyX6_ok nmX6 inX6 0 rfl rfl 2 (by decide) rfl rfl (tyX6_ok 2 (by decide)) rfl rfl (Nat.le_of_ble_eq_true rfl) rfl rfl tw_147 dX6_init_10 ?_
  refine V.eqw (ws' := [(b, .inr (6, [.null, .null, .ref q1, .null, .null, .int 0, .int 0, .int 0, .int 0, .int 0, .int 0])), (q1, .inl ((zG Z).2.1, 2001, .inl (fun _ => 0)))]) rfl ?_
  refine V.aload_n (X.at (0 + 1) (0 + 2001)) 0 dX6_init_13 rfl rfl ?_
  refine V.sipush (X.at (0 + 1) (0 + 2001)) (v := nI 2001) dX6_init_14 (by decide) ?_
  refine V.newa X (cA := (zG Z).2.1) 0 rfl (fun _ => rfl) tw_117 rfl hAA (a0 := (2001, .inl (fun _ => 0))) (fun _ => rfl) (by decide) (by decide) (by decide) (len hRc (Nat.le_of_ble_eq_true rfl)) (len hRs (Nat.le_of_ble_eq_true rfl)) dX6_init_17 (fun q2 => ?_)
  refine V.eqw (ws' := [(b, .inr (6, [.null, .null, .ref q1, .null, .null, .int 0, .int 0, .int 0, .int 0, .int 0, .int 0])), (q1, .inl ((zG Z).2.1, 2001, .inl (fun _ => 0))), (q2, .inl ((zG Z).2.1, 2001, .inl (fun _ => 0)))]) rfl ?_
  refine V.putF (ws := [(b, .inr (6, [.null, .null, .ref q1, .null, .null, .int 0, .int 0, .int 0, .int 0, .int 0, .int 0])), (q1, .inl ((zG Z).2.1, 2001, .inl (fun _ => 0))), (q2, .inl ((zG Z).2.1, 2001, .inl (fun _ => 0)))]) (a := b) (ci := 6) (fs := [.null, .null, .ref q1, .null, .null, .int 0, .int 0, .int 0, .int 0, .int 0, .int 0]) (v := .ref q2) (X.at (0 + 1 + 1) (0 + 2001 + 2001)) hM tyX6 tyX6_ok nmX6 inX6 0 rfl rfl 3 (by decide) rfl rfl (tyX6_ok 3 (by decide)) rfl rfl (Nat.le_of_ble_eq_true rfl) rfl rfl tw_148 dX6_init_19 ?_
  refine V.eqw (ws' := [(b, .inr (6, [.null, .null, .ref q1, .ref q2, .null, .int 0, .int 0, .int 0, .int 0, .int 0, .int 0])), (q1, .inl ((zG Z).2.1, 2001, .inl (fun _ => 0))), (q2, .inl ((zG Z).2.1, 2001, .inl (fun _ => 0)))]) rfl ?_
  refine V.aload_n (X.at (0 + 1 + 1) (0 + 2001 + 2001)) 0 dX6_init_22 rfl rfl ?_
  refine V.sipush (X.at (0 + 1 + 1) (0 + 2001 + 2001)) (v := nI 2001) dX6_init_23 (by decide) ?_
  refine V.newa X (cA := (zG Z).2.1) 0 rfl (fun _ => rfl) tw_117 rfl hAA (a0 := (2001, .inl (fun _ => 0))) (fun _ => rfl) (by decide) (by decide) (by decide) (len hRc (Nat.le_of_ble_eq_true rfl)) (len hRs (Nat.le_of_ble_eq_true rfl)) dX6_init_26 (fun q3 => ?_)
  refine V.eqw (ws' := [(b, .inr (6, [.null, .null, .ref q1, .ref q2, .null, .int 0, .int 0, .int 0, .int 0, .int 0, .int 0])), (q1, .inl ((zG Z).2.1, 2001, .inl (fun _ => 0))), (q2, .inl ((zG Z).2.1, 2001, .inl (fun _ => 0))), (q3, .inl ((zG Z).2.1, 2001, .inl (fun _ => 0)))]) rfl ?_
  refine V.putF (ws := [(b, .inr (6, [.null, .null, .ref q1, .ref q2, .null, .int 0, .int 0, .int 0, .int 0, .int 0, .int 0])), (q1, .inl ((zG Z).2.1, 2001, .inl (fun _ => 0))), (q2, .inl ((zG Z).2.1, 2001, .inl (fun _ => 0))), (q3, .inl ((zG Z).2.1, 2001, .inl (fun _ => 0)))]) (a := b) (ci := 6) (fs := [.null, .null, .ref q1, .ref q2, .null, .int 0, .int 0, .int 0, .int 0, .int 0, .int 0]) (v := .ref q3) (X.at (0 + 1 + 1 + 1) (0 + 2001 + 2001 + 2001)) hM tyX6 tyX6_ok nmX6 inX6 0 rfl rfl 4 (by decide) rfl rfl (tyX6_ok 4 (by decide)) rfl rfl (Nat.le_of_ble_eq_true rfl) rfl rfl tw_149 dX6_init_28 ?_
  refine V.eqw (ws' := [(b, .inr (6, [.null, .null, .ref q1, .ref q2, .ref q3, .int 0, .int 0, .int 0, .int 0, .int 0, .int 0])), (q1, .inl ((zG Z).2.1, 2001, .inl (fun _ => 0))), (q2, .inl ((zG Z).2.1, 2001, .inl (fun _ => 0))), (q3, .inl ((zG Z).2.1, 2001, .inl (fun _ => 0)))]) rfl ?_
  refine V.aload_n (X.at (0 + 1 + 1 + 1) (0 + 2001 + 2001 + 2001)) 0 dX6_init_31 rfl rfl ?_
  refine V.aload_n (X.at (0 + 1 + 1 + 1) (0 + 2001 + 2001 + 2001)) 1 dX6_init_32 rfl rfl ?_
  refine V.putF (ws := [(b, .inr (6, [.null, .null, .ref q1, .ref q2, .ref q3, .int 0, .int 0, .int 0, .int 0, .int 0, .int 0])), (q1, .inl ((zG Z).2.1, 2001, .inl (fun _ => 0))), (q2, .inl ((zG Z).2.1, 2001, .inl (fun _ => 0))), (q3, .inl ((zG Z).2.1, 2001, .inl (fun _ => 0)))]) (a := b) (ci := 6) (fs := [.null, .null, .ref q1, .ref q2, .ref q3, .int 0, .int 0, .int 0, .int 0, .int 0, .int 0]) (v := .ref d) (X.at (0 + 1 + 1 + 1) (0 + 2001 + 2001 + 2001)) hM tyX6 tyX6_ok nmX6 inX6 0 rfl rfl 0 (by decide) rfl rfl (tyX6_ok 0 (by decide)) rfl rfl (Nat.le_of_ble_eq_true rfl) rfl rfl tw_145 dX6_init_33 ?_
  refine V.eqw (ws' := [(b, .inr (6, [.ref d, .null, .ref q1, .ref q2, .ref q3, .int 0, .int 0, .int 0, .int 0, .int 0, .int 0])), (q1, .inl ((zG Z).2.1, 2001, .inl (fun _ => 0))), (q2, .inl ((zG Z).2.1, 2001, .inl (fun _ => 0))), (q3, .inl ((zG Z).2.1, 2001, .inl (fun _ => 0)))]) rfl ?_
  refine V.aload_n (X.at (0 + 1 + 1 + 1) (0 + 2001 + 2001 + 2001)) 0 dX6_init_36 rfl rfl ?_
  refine V.aload_n (X.at (0 + 1 + 1 + 1) (0 + 2001 + 2001 + 2001)) 2 dX6_init_37 rfl rfl ?_
  refine V.putF (ws := [(b, .inr (6, [.ref d, .null, .ref q1, .ref q2, .ref q3, .int 0, .int 0, .int 0, .int 0, .int 0, .int 0])), (q1, .inl ((zG Z).2.1, 2001, .inl (fun _ => 0))), (q2, .inl ((zG Z).2.1, 2001, .inl (fun _ => 0))), (q3, .inl ((zG Z).2.1, 2001, .inl (fun _ => 0)))]) (a := b) (ci := 6) (fs := [.ref d, .null, .ref q1, .ref q2, .ref q3, .int 0, .int 0, .int 0, .int 0, .int 0, .int 0]) (v := .ref p) (X.at (0 + 1 + 1 + 1) (0 + 2001 + 2001 + 2001)) hM tyX6 tyX6_ok nmX6 inX6 0 rfl rfl 1 (by decide) rfl rfl (tyX6_ok 1 (by decide)) rfl rfl (Nat.le_of_ble_eq_true rfl) rfl rfl tw_146 dX6_init_38 ?_
  refine V.eqw (ws' := [(b, .inr (6, [.ref d, .ref p, .ref q1, .ref q2, .ref q3, .int 0, .int 0, .int 0, .int 0, .int 0, .int 0])), (q1, .inl ((zG Z).2.1, 2001, .inl (fun _ => 0))), (q2, .inl ((zG Z).2.1, 2001, .inl (fun _ => 0))), (q3, .inl ((zG Z).2.1, 2001, .inl (fun _ => 0)))]) rfl ?_
  exact V.cret X rfl hA hQ rfl rfl rfl dX6_init_41 (⟨q1, q2, q3, rfl⟩)

set_option maxHeartbeats 4000000 in
set_option maxRecDepth 100000 in
theorem i_Walker (l : Launch) (G : Gx) (b d t : Nat) : MC l G ⟨"NestedDeeds$Walker", "<init>", "(LNestedDeeds$Deeds;LNestedDeeds$Task;)V"⟩ prog_10_method_1_code 3 1 12 3 4506 [.ref b, .ref d, .ref t] [(b, .inr (8, [.null, .null, .null, .null, .int 0, .int 0, .int 0, .int 0, .int 0, .int 0, .null, .int 0, .int 0, .int 0]))] (fun w => ∃ q1 q2 q3, w = [(b, .inr (8, [.ref d, .ref q1, .ref q2, .ref q3, .int (nI 0), .int (nI 100), .int 0, .int 0, .int 0, .int 0, .ref t, .int 0, .int 0, .int 0])), (q1, .inl (G.2.1, 1502, .inl (fun _ => 0))), (q2, .inl (G.2.1, 1502, .inl (fun _ => 0))), (q3, .inl (G.2.1, 1502, .inl (fun _ => 0)))]) := by
  refine MC.of (lv := [(0, .ref b), (1, .ref d), (2, .ref t)]) (by decide +kernel) rfl rfl (Nat.le_of_ble_eq_true rfl) ?_
  intro Z hRf hRl hRc hRs hl hG hn hA hQ hM hK2 X
  subst hG hl
  have X : XC Z "NestedDeeds$Walker" prog_10_method_1_code none := X
  have hAA : ∀ q, (zs Z).heap.size ≤ q → zA Z q := fun q h => by rw [hA]; exact Or.inr h
  refine V.aload_n (X.at (0) (0)) 0 dX8_init_0 rfl rfl ?_
  refine V.objI (X.at (0) (0)) tw_320 (len hRf (by decide)) (len hRl (by decide)) dX8_init_1 ?_
  refine V.aload_n (X.at (0) (0)) 0 dX8_init_4 rfl rfl ?_
  refine V.sipush (X.at (0) (0)) (v := nI 1502) dX8_init_5 (by decide) ?_
  refine V.newa X (cA := (zG Z).2.1) 0 rfl (fun _ => rfl) tw_117 rfl hAA (a0 := (1502, .inl (fun _ => 0))) (fun _ => rfl) (by decide) (by decide) (by decide) (len hRc (Nat.le_of_ble_eq_true rfl)) (len hRs (Nat.le_of_ble_eq_true rfl)) dX8_init_8 (fun q1 => ?_)
  refine V.eqw (ws' := [(b, .inr (8, [.null, .null, .null, .null, .int 0, .int 0, .int 0, .int 0, .int 0, .int 0, .null, .int 0, .int 0, .int 0])), (q1, .inl ((zG Z).2.1, 1502, .inl (fun _ => 0)))]) rfl ?_
  refine V.putF (ws := [(b, .inr (8, [.null, .null, .null, .null, .int 0, .int 0, .int 0, .int 0, .int 0, .int 0, .null, .int 0, .int 0, .int 0])), (q1, .inl ((zG Z).2.1, 1502, .inl (fun _ => 0)))]) (a := b) (ci := 8) (fs := [.null, .null, .null, .null, .int 0, .int 0, .int 0, .int 0, .int 0, .int 0, .null, .int 0, .int 0, .int 0]) (v := .ref q1) (X.at (0 + 1) (0 + 1502)) hM tyX8 tyX8_ok nmX8 inX8 0 rfl rfl 1 (by decide) rfl rfl (tyX8_ok 1 (by decide)) rfl rfl (Nat.le_of_ble_eq_true rfl) rfl rfl tw_322 dX8_init_10 ?_
  refine V.eqw (ws' := [(b, .inr (8, [.null, .ref q1, .null, .null, .int 0, .int 0, .int 0, .int 0, .int 0, .int 0, .null, .int 0, .int 0, .int 0])), (q1, .inl ((zG Z).2.1, 1502, .inl (fun _ => 0)))]) rfl ?_
  refine V.aload_n (X.at (0 + 1) (0 + 1502)) 0 dX8_init_13 rfl rfl ?_
  refine V.sipush (X.at (0 + 1) (0 + 1502)) (v := nI 1502) dX8_init_14 (by decide) ?_
  refine V.newa X (cA := (zG Z).2.1) 0 rfl (fun _ => rfl) tw_117 rfl hAA (a0 := (1502, .inl (fun _ => 0))) (fun _ => rfl) (by decide) (by decide) (by decide) (len hRc (Nat.le_of_ble_eq_true rfl)) (len hRs (Nat.le_of_ble_eq_true rfl)) dX8_init_17 (fun q2 => ?_)
  refine V.eqw (ws' := [(b, .inr (8, [.null, .ref q1, .null, .null, .int 0, .int 0, .int 0, .int 0, .int 0, .int 0, .null, .int 0, .int 0, .int 0])), (q1, .inl ((zG Z).2.1, 1502, .inl (fun _ => 0))), (q2, .inl ((zG Z).2.1, 1502, .inl (fun _ => 0)))]) rfl ?_
  refine V.putF (ws := [(b, .inr (8, [.null, .ref q1, .null, .null, .int 0, .int 0, .int 0, .int 0, .int 0, .int 0, .null, .int 0, .int 0, .int 0])), (q1, .inl ((zG Z).2.1, 1502, .inl (fun _ => 0))), (q2, .inl ((zG Z).2.1, 1502, .inl (fun _ => 0)))]) (a := b) (ci := 8) (fs := [.null, .ref q1, .null, .null, .int 0, .int 0, .int 0, .int 0, .int 0, .int 0, .null, .int 0, .int 0, .int 0]) (v := .ref q2) (X.at (0 + 1 + 1) (0 + 1502 + 1502)) hM tyX8 tyX8_ok nmX8 inX8 0 rfl rfl 2 (by decide) rfl rfl (tyX8_ok 2 (by decide)) rfl rfl (Nat.le_of_ble_eq_true rfl) rfl rfl tw_323 dX8_init_19 ?_
  refine V.eqw (ws' := [(b, .inr (8, [.null, .ref q1, .ref q2, .null, .int 0, .int 0, .int 0, .int 0, .int 0, .int 0, .null, .int 0, .int 0, .int 0])), (q1, .inl ((zG Z).2.1, 1502, .inl (fun _ => 0))), (q2, .inl ((zG Z).2.1, 1502, .inl (fun _ => 0)))]) rfl ?_
  refine V.aload_n (X.at (0 + 1 + 1) (0 + 1502 + 1502)) 0 dX8_init_22 rfl rfl ?_
  refine V.sipush (X.at (0 + 1 + 1) (0 + 1502 + 1502)) (v := nI 1502) dX8_init_23 (by decide) ?_
  refine V.newa X (cA := (zG Z).2.1) 0 rfl (fun _ => rfl) tw_117 rfl hAA (a0 := (1502, .inl (fun _ => 0))) (fun _ => rfl) (by decide) (by decide) (by decide) (len hRc (Nat.le_of_ble_eq_true rfl)) (len hRs (Nat.le_of_ble_eq_true rfl)) dX8_init_26 (fun q3 => ?_)
  refine V.eqw (ws' := [(b, .inr (8, [.null, .ref q1, .ref q2, .null, .int 0, .int 0, .int 0, .int 0, .int 0, .int 0, .null, .int 0, .int 0, .int 0])), (q1, .inl ((zG Z).2.1, 1502, .inl (fun _ => 0))), (q2, .inl ((zG Z).2.1, 1502, .inl (fun _ => 0))), (q3, .inl ((zG Z).2.1, 1502, .inl (fun _ => 0)))]) rfl ?_
  refine V.putF (ws := [(b, .inr (8, [.null, .ref q1, .ref q2, .null, .int 0, .int 0, .int 0, .int 0, .int 0, .int 0, .null, .int 0, .int 0, .int 0])), (q1, .inl ((zG Z).2.1, 1502, .inl (fun _ => 0))), (q2, .inl ((zG Z).2.1, 1502, .inl (fun _ => 0))), (q3, .inl ((zG Z).2.1, 1502, .inl (fun _ => 0)))]) (a := b) (ci := 8) (fs := [.null, .ref q1, .ref q2, .null, .int 0, .int 0, .int 0, .int 0, .int 0, .int 0, .null, .int 0, .int 0, .int 0]) (v := .ref q3) (X.at (0 + 1 + 1 + 1) (0 + 1502 + 1502 + 1502)) hM tyX8 tyX8_ok nmX8 inX8 0 rfl rfl 3 (by decide) rfl rfl (tyX8_ok 3 (by decide)) rfl rfl (Nat.le_of_ble_eq_true rfl) rfl rfl tw_324 dX8_init_28 ?_
  refine V.eqw (ws' := [(b, .inr (8, [.null, .ref q1, .ref q2, .ref q3, .int 0, .int 0, .int 0, .int 0, .int 0, .int 0, .null, .int 0, .int 0, .int 0])), (q1, .inl ((zG Z).2.1, 1502, .inl (fun _ => 0))), (q2, .inl ((zG Z).2.1, 1502, .inl (fun _ => 0))), (q3, .inl ((zG Z).2.1, 1502, .inl (fun _ => 0)))]) rfl ?_
  refine V.aload_n (X.at (0 + 1 + 1 + 1) (0 + 1502 + 1502 + 1502)) 0 dX8_init_31 rfl rfl ?_
  refine V.iconst (X.at (0 + 1 + 1 + 1) (0 + 1502 + 1502 + 1502)) (v := nI 0) dX8_init_32 (by decide) ?_
  refine V.put (ws := [(b, .inr (8, [.null, .ref q1, .ref q2, .ref q3, .int 0, .int 0, .int 0, .int 0, .int 0, .int 0, .null, .int 0, .int 0, .int 0])), (q1, .inl ((zG Z).2.1, 1502, .inl (fun _ => 0))), (q2, .inl ((zG Z).2.1, 1502, .inl (fun _ => 0))), (q3, .inl ((zG Z).2.1, 1502, .inl (fun _ => 0)))]) (a := b) (ci := 8) (fs := [.null, .ref q1, .ref q2, .ref q3, .int 0, .int 0, .int 0, .int 0, .int 0, .int 0, .null, .int 0, .int 0, .int 0]) (v := .int (nI 0)) (X.at (0 + 1 + 1 + 1) (0 + 1502 + 1502 + 1502)) tyX8 tyX8_ok nmX8 inX8 0 rfl rfl 4 (by decide) rfl (tyX8_ok 4 (by decide)) rfl rfl (Nat.le_of_ble_eq_true rfl) rfl (Or.inl rfl) tw_326 dX8_init_33 ?_
  refine V.eqw (ws' := [(b, .inr (8, [.null, .ref q1, .ref q2, .ref q3, .int (nI 0), .int 0, .int 0, .int 0, .int 0, .int 0, .null, .int 0, .int 0, .int 0])), (q1, .inl ((zG Z).2.1, 1502, .inl (fun _ => 0))), (q2, .inl ((zG Z).2.1, 1502, .inl (fun _ => 0))), (q3, .inl ((zG Z).2.1, 1502, .inl (fun _ => 0)))]) rfl ?_
  refine V.aload_n (X.at (0 + 1 + 1 + 1) (0 + 1502 + 1502 + 1502)) 0 dX8_init_36 rfl rfl ?_
  refine V.bipush (X.at (0 + 1 + 1 + 1) (0 + 1502 + 1502 + 1502)) (v := nI 100) dX8_init_37 (by decide) ?_
  refine V.put (ws := [(b, .inr (8, [.null, .ref q1, .ref q2, .ref q3, .int (nI 0), .int 0, .int 0, .int 0, .int 0, .int 0, .null, .int 0, .int 0, .int 0])), (q1, .inl ((zG Z).2.1, 1502, .inl (fun _ => 0))), (q2, .inl ((zG Z).2.1, 1502, .inl (fun _ => 0))), (q3, .inl ((zG Z).2.1, 1502, .inl (fun _ => 0)))]) (a := b) (ci := 8) (fs := [.null, .ref q1, .ref q2, .ref q3, .int (nI 0), .int 0, .int 0, .int 0, .int 0, .int 0, .null, .int 0, .int 0, .int 0]) (v := .int (nI 100)) (X.at (0 + 1 + 1 + 1) (0 + 1502 + 1502 + 1502)) tyX8 tyX8_ok nmX8 inX8 0 rfl rfl 5 (by decide) rfl (tyX8_ok 5 (by decide)) rfl rfl (Nat.le_of_ble_eq_true rfl) rfl (Or.inl rfl) tw_328 dX8_init_39 ?_
  refine V.eqw (ws' := [(b, .inr (8, [.null, .ref q1, .ref q2, .ref q3, .int (nI 0), .int (nI 100), .int 0, .int 0, .int 0, .int 0, .null, .int 0, .int 0, .int 0])), (q1, .inl ((zG Z).2.1, 1502, .inl (fun _ => 0))), (q2, .inl ((zG Z).2.1, 1502, .inl (fun _ => 0))), (q3, .inl ((zG Z).2.1, 1502, .inl (fun _ => 0)))]) rfl ?_
  refine V.aload_n (X.at (0 + 1 + 1 + 1) (0 + 1502 + 1502 + 1502)) 0 dX8_init_42 rfl rfl ?_
  refine V.aload_n (X.at (0 + 1 + 1 + 1) (0 + 1502 + 1502 + 1502)) 1 dX8_init_43 rfl rfl ?_
  refine V.putF (ws := [(b, .inr (8, [.null, .ref q1, .ref q2, .ref q3, .int (nI 0), .int (nI 100), .int 0, .int 0, .int 0, .int 0, .null, .int 0, .int 0, .int 0])), (q1, .inl ((zG Z).2.1, 1502, .inl (fun _ => 0))), (q2, .inl ((zG Z).2.1, 1502, .inl (fun _ => 0))), (q3, .inl ((zG Z).2.1, 1502, .inl (fun _ => 0)))]) (a := b) (ci := 8) (fs := [.null, .ref q1, .ref q2, .ref q3, .int (nI 0), .int (nI 100), .int 0, .int 0, .int 0, .int 0, .null, .int 0, .int 0, .int 0]) (v := .ref d) (X.at (0 + 1 + 1 + 1) (0 + 1502 + 1502 + 1502)) hM tyX8 tyX8_ok nmX8 inX8 0 rfl rfl 0 (by decide) rfl rfl (tyX8_ok 0 (by decide)) rfl rfl (Nat.le_of_ble_eq_true rfl) rfl rfl tw_321 dX8_init_44 ?_
  refine V.eqw (ws' := [(b, .inr (8, [.ref d, .ref q1, .ref q2, .ref q3, .int (nI 0), .int (nI 100), .int 0, .int 0, .int 0, .int 0, .null, .int 0, .int 0, .int 0])), (q1, .inl ((zG Z).2.1, 1502, .inl (fun _ => 0))), (q2, .inl ((zG Z).2.1, 1502, .inl (fun _ => 0))), (q3, .inl ((zG Z).2.1, 1502, .inl (fun _ => 0)))]) rfl ?_
  refine V.aload_n (X.at (0 + 1 + 1 + 1) (0 + 1502 + 1502 + 1502)) 0 dX8_init_47 rfl rfl ?_
  refine V.aload_n (X.at (0 + 1 + 1 + 1) (0 + 1502 + 1502 + 1502)) 2 dX8_init_48 rfl rfl ?_
  refine V.put (ws := [(b, .inr (8, [.ref d, .ref q1, .ref q2, .ref q3, .int (nI 0), .int (nI 100), .int 0, .int 0, .int 0, .int 0, .null, .int 0, .int 0, .int 0])), (q1, .inl ((zG Z).2.1, 1502, .inl (fun _ => 0))), (q2, .inl ((zG Z).2.1, 1502, .inl (fun _ => 0))), (q3, .inl ((zG Z).2.1, 1502, .inl (fun _ => 0)))]) (a := b) (ci := 8) (fs := [.ref d, .ref q1, .ref q2, .ref q3, .int (nI 0), .int (nI 100), .int 0, .int 0, .int 0, .int 0, .null, .int 0, .int 0, .int 0]) (v := .ref t) (X.at (0 + 1 + 1 + 1) (0 + 1502 + 1502 + 1502)) tyX8 tyX8_ok nmX8 inX8 0 rfl rfl 10 (by decide) rfl (tyX8_ok 10 (by decide)) rfl rfl (Nat.le_of_ble_eq_true rfl) rfl (Or.inl rfl) tw_338 dX8_init_49 ?_
  refine V.eqw (ws' := [(b, .inr (8, [.ref d, .ref q1, .ref q2, .ref q3, .int (nI 0), .int (nI 100), .int 0, .int 0, .int 0, .int 0, .ref t, .int 0, .int 0, .int 0])), (q1, .inl ((zG Z).2.1, 1502, .inl (fun _ => 0))), (q2, .inl ((zG Z).2.1, 1502, .inl (fun _ => 0))), (q3, .inl ((zG Z).2.1, 1502, .inl (fun _ => 0)))]) rfl ?_
  exact V.cret X rfl hA hQ rfl rfl rfl dX8_init_52 (⟨q1, q2, q3, rfl⟩)

set_option maxHeartbeats 4000000 in
set_option maxRecDepth 100000 in
theorem i_Weighing (l : Launch) (G : Gx) (b d r : Nat) : MC l G ⟨"NestedDeeds$Weighing", "<init>", "(LNestedDeeds$Deeds;[J)V"⟩ prog_11_method_1_code 3 2 33 1 1502 [.ref b, .ref d, .ref r] [(b, .inr (9, [.null, .int 0, .null, .null]))] (fun w => ∃ q1, w = [(b, .inr (9, [.ref d, .int 0, .ref r, .ref q1])), (q1, .inl (G.2.2.1, 1502, .inr (.inl (fun _ => 0))))]) := by
  refine MC.of (lv := [(0, .ref b), (1, .ref d), (2, .ref r)]) (by decide +kernel) rfl rfl (Nat.le_of_ble_eq_true rfl) ?_
  intro Z hRf hRl hRc hRs hl hG hn hA hQ hM hK2 X
  subst hG hl
  have X : XC Z "NestedDeeds$Weighing" prog_11_method_1_code none := X
  have hAA : ∀ q, (zs Z).heap.size ≤ q → zA Z q := fun q h => by rw [hA]; exact Or.inr h
  refine V.aload_n (X.at (0) (0)) 0 dX9_init_0 rfl rfl ?_
  refine V.aload_n (X.at (0) (0)) 1 dX9_init_1 rfl rfl ?_
  refine V.callI (ws := [(b, .inr (9, [.null, .int 0, .null, .null]))]) (n := 1) X hK2 hAA (i_Task_9 (zl Z) (zG Z) b d) (wc := [(b, .inr (9, [.null, .int 0, .null, .null]))]) (wr := []) tw_219 tw_183 tw_52 tw_184 rfl ⟨by decide +kernel, by decide +kernel, by decide +kernel⟩ rfl [0] [] rfl rfl (by decide) (by decide) (by decide) (len hRf (by decide)) (len hRl (by decide)) (rest := []) rfl (Nat.le_of_ble_eq_true rfl) (len hRc (Nat.le_of_ble_eq_true rfl)) (len hRs (Nat.le_of_ble_eq_true rfl)) dX9_init_2 ?_
  rintro _ rfl
  refine V.eqw (ws' := [(b, .inr (9, [.ref d, .int 0, .null, .null]))]) rfl ?_
  refine V.aload_n (X.at (0 + 0) (0 + 0)) 0 dX9_init_5 rfl rfl ?_
  refine V.sipush (X.at (0 + 0) (0 + 0)) (v := nI 1502) dX9_init_6 (by decide) ?_
  refine V.newa X (cA := (zG Z).2.2.1) 1 rfl (fun _ => rfl) tw_213 rfl hAA (a0 := (1502, .inr (.inl (fun _ => 0)))) (fun _ => rfl) (by decide) (by decide) (by decide) (len hRc (Nat.le_of_ble_eq_true rfl)) (len hRs (Nat.le_of_ble_eq_true rfl)) dX9_init_9 (fun q1 => ?_)
  refine V.eqw (ws' := [(b, .inr (9, [.ref d, .int 0, .null, .null])), (q1, .inl ((zG Z).2.2.1, 1502, .inr (.inl (fun _ => 0))))]) rfl ?_
  refine V.putF (ws := [(b, .inr (9, [.ref d, .int 0, .null, .null])), (q1, .inl ((zG Z).2.2.1, 1502, .inr (.inl (fun _ => 0))))]) (a := b) (ci := 9) (fs := [.ref d, .int 0, .null, .null]) (v := .ref q1) (X.at (0 + 0 + 1) (0 + 0 + 1502)) hM tyX9 tyX9_ok nmX9 inX9 0 rfl rfl 3 (by decide) rfl rfl (tyX9_ok 3 (by decide)) rfl rfl (Nat.le_of_ble_eq_true rfl) rfl rfl tw_221 dX9_init_11 ?_
  refine V.eqw (ws' := [(b, .inr (9, [.ref d, .int 0, .null, .ref q1])), (q1, .inl ((zG Z).2.2.1, 1502, .inr (.inl (fun _ => 0))))]) rfl ?_
  refine V.aload_n (X.at (0 + 0 + 1) (0 + 0 + 1502)) 0 dX9_init_14 rfl rfl ?_
  refine V.aload_n (X.at (0 + 0 + 1) (0 + 0 + 1502)) 2 dX9_init_15 rfl rfl ?_
  refine V.putF (ws := [(b, .inr (9, [.ref d, .int 0, .null, .ref q1])), (q1, .inl ((zG Z).2.2.1, 1502, .inr (.inl (fun _ => 0))))]) (a := b) (ci := 9) (fs := [.ref d, .int 0, .null, .ref q1]) (v := .ref r) (X.at (0 + 0 + 1) (0 + 0 + 1502)) hM tyX9 tyX9_ok nmX9 inX9 0 rfl rfl 2 (by decide) rfl rfl (tyX9_ok 2 (by decide)) rfl rfl (Nat.le_of_ble_eq_true rfl) rfl rfl tw_220 dX9_init_16 ?_
  refine V.eqw (ws' := [(b, .inr (9, [.ref d, .int 0, .ref r, .ref q1])), (q1, .inl ((zG Z).2.2.1, 1502, .inr (.inl (fun _ => 0))))]) rfl ?_
  exact V.cret X rfl hA hQ rfl rfl rfl dX9_init_19 (⟨q1, rfl⟩)

set_option maxHeartbeats 4000000 in
set_option maxRecDepth 100000 in
theorem i_Marking (l : Launch) (G : Gx) (b d r : Nat) : MC l G ⟨"NestedDeeds$Marking", "<init>", "(LNestedDeeds$Deeds;[J)V"⟩ prog_6_method_1_code 3 2 33 0 0 [.ref b, .ref d, .ref r] [(b, .inr (4, [.null, .int 0, .null]))] (fun w => w = [(b, .inr (4, [.ref d, .int 0, .ref r]))]) := by
  refine MC.of (lv := [(0, .ref b), (1, .ref d), (2, .ref r)]) (by decide +kernel) rfl rfl (Nat.le_of_ble_eq_true rfl) ?_
  intro Z hRf hRl hRc hRs hl hG hn hA hQ hM hK2 X
  subst hG hl
  have X : XC Z "NestedDeeds$Marking" prog_6_method_1_code none := X
  have hAA : ∀ q, (zs Z).heap.size ≤ q → zA Z q := fun q h => by rw [hA]; exact Or.inr h
  refine V.aload_n (X.at (0) (0)) 0 dX4_init_0 rfl rfl ?_
  refine V.aload_n (X.at (0) (0)) 1 dX4_init_1 rfl rfl ?_
  refine V.callI (ws := [(b, .inr (4, [.null, .int 0, .null]))]) (n := 1) X hK2 hAA (i_Task_4 (zl Z) (zG Z) b d) (wc := [(b, .inr (4, [.null, .int 0, .null]))]) (wr := []) tw_234 tw_183 tw_52 tw_184 rfl ⟨by decide +kernel, by decide +kernel, by decide +kernel⟩ rfl [0] [] rfl rfl (by decide) (by decide) (by decide) (len hRf (by decide)) (len hRl (by decide)) (rest := []) rfl (Nat.le_of_ble_eq_true rfl) (len hRc (Nat.le_of_ble_eq_true rfl)) (len hRs (Nat.le_of_ble_eq_true rfl)) dX4_init_2 ?_
  rintro _ rfl
  refine V.eqw (ws' := [(b, .inr (4, [.ref d, .int 0, .null]))]) rfl ?_
  refine V.aload_n (X.at (0 + 0) (0 + 0)) 0 dX4_init_5 rfl rfl ?_
  refine V.aload_n (X.at (0 + 0) (0 + 0)) 2 dX4_init_6 rfl rfl ?_
  refine V.putF (ws := [(b, .inr (4, [.ref d, .int 0, .null]))]) (a := b) (ci := 4) (fs := [.ref d, .int 0, .null]) (v := .ref r) (X.at (0 + 0) (0 + 0)) hM tyX4 tyX4_ok nmX4 inX4 0 rfl rfl 2 (by decide) rfl rfl (tyX4_ok 2 (by decide)) rfl rfl (Nat.le_of_ble_eq_true rfl) rfl rfl tw_235 dX4_init_7 ?_
  refine V.eqw (ws' := [(b, .inr (4, [.ref d, .int 0, .ref r]))]) rfl ?_
  exact V.cret X rfl hA hQ rfl rfl rfl dX4_init_10 (rfl)

set_option maxHeartbeats 4000000 in
set_option maxRecDepth 100000 in
theorem i_Comparing (l : Launch) (G : Gx) (b d : Nat) : MC l G ⟨"NestedDeeds$Comparing", "<init>", "(LNestedDeeds$Deeds;)V"⟩ prog_2_method_1_code 2 2 33 1 1502 [.ref b, .ref d] [(b, .inr (0, [.null, .int 0, .null]))] (fun w => ∃ q1, w = [(b, .inr (0, [.ref d, .int 0, .ref q1])), (q1, .inl (G.2.1, 1502, .inl (fun _ => 0)))]) := by
  refine MC.of (lv := [(0, .ref b), (1, .ref d)]) (by decide +kernel) rfl rfl (Nat.le_of_ble_eq_true rfl) ?_
  intro Z hRf hRl hRc hRs hl hG hn hA hQ hM hK2 X
  subst hG hl
  have X : XC Z "NestedDeeds$Comparing" prog_2_method_1_code none := X
  have hAA : ∀ q, (zs Z).heap.size ≤ q → zA Z q := fun q h => by rw [hA]; exact Or.inr h
  refine V.aload_n (X.at (0) (0)) 0 dX0_init_0 rfl rfl ?_
  refine V.aload_n (X.at (0) (0)) 1 dX0_init_1 rfl rfl ?_
  refine V.callI (ws := [(b, .inr (0, [.null, .int 0, .null]))]) (n := 1) X hK2 hAA (i_Task_0 (zl Z) (zG Z) b d) (wc := [(b, .inr (0, [.null, .int 0, .null]))]) (wr := []) tw_246 tw_183 tw_52 tw_184 rfl ⟨by decide +kernel, by decide +kernel, by decide +kernel⟩ rfl [0] [] rfl rfl (by decide) (by decide) (by decide) (len hRf (by decide)) (len hRl (by decide)) (rest := []) rfl (Nat.le_of_ble_eq_true rfl) (len hRc (Nat.le_of_ble_eq_true rfl)) (len hRs (Nat.le_of_ble_eq_true rfl)) dX0_init_2 ?_
  rintro _ rfl
  refine V.eqw (ws' := [(b, .inr (0, [.ref d, .int 0, .null]))]) rfl ?_
  refine V.aload_n (X.at (0 + 0) (0 + 0)) 0 dX0_init_5 rfl rfl ?_
  refine V.sipush (X.at (0 + 0) (0 + 0)) (v := nI 1502) dX0_init_6 (by decide) ?_
  refine V.newa X (cA := (zG Z).2.1) 0 rfl (fun _ => rfl) tw_117 rfl hAA (a0 := (1502, .inl (fun _ => 0))) (fun _ => rfl) (by decide) (by decide) (by decide) (len hRc (Nat.le_of_ble_eq_true rfl)) (len hRs (Nat.le_of_ble_eq_true rfl)) dX0_init_9 (fun q1 => ?_)
  refine V.eqw (ws' := [(b, .inr (0, [.ref d, .int 0, .null])), (q1, .inl ((zG Z).2.1, 1502, .inl (fun _ => 0)))]) rfl ?_
  refine V.putF (ws := [(b, .inr (0, [.ref d, .int 0, .null])), (q1, .inl ((zG Z).2.1, 1502, .inl (fun _ => 0)))]) (a := b) (ci := 0) (fs := [.ref d, .int 0, .null]) (v := .ref q1) (X.at (0 + 0 + 1) (0 + 0 + 1502)) hM tyX0 tyX0_ok nmX0 inX0 0 rfl rfl 2 (by decide) rfl rfl (tyX0_ok 2 (by decide)) rfl rfl (Nat.le_of_ble_eq_true rfl) rfl rfl tw_247 dX0_init_11 ?_
  refine V.eqw (ws' := [(b, .inr (0, [.ref d, .int 0, .ref q1])), (q1, .inl ((zG Z).2.1, 1502, .inl (fun _ => 0)))]) rfl ?_
  exact V.cret X rfl hA hQ rfl rfl rfl dX0_init_14 (⟨q1, rfl⟩)

set_option maxHeartbeats 4000000 in
set_option maxRecDepth 100000 in
theorem i_Writing (l : Launch) (G : Gx) (b d p : Nat) : MC l G ⟨"NestedDeeds$Writing", "<init>", "(LNestedDeeds$Deeds;LNestedDeeds$Paper;)V"⟩ prog_12_method_1_code 3 2 33 0 0 [.ref b, .ref d, .ref p] [(b, .inr (10, [.null, .int 0, .null]))] (fun w => w = [(b, .inr (10, [.ref d, .int 0, .ref p]))]) := by
  refine MC.of (lv := [(0, .ref b), (1, .ref d), (2, .ref p)]) (by decide +kernel) rfl rfl (Nat.le_of_ble_eq_true rfl) ?_
  intro Z hRf hRl hRc hRs hl hG hn hA hQ hM hK2 X
  subst hG hl
  have X : XC Z "NestedDeeds$Writing" prog_12_method_1_code none := X
  have hAA : ∀ q, (zs Z).heap.size ≤ q → zA Z q := fun q h => by rw [hA]; exact Or.inr h
  refine V.aload_n (X.at (0) (0)) 0 dX10_init_0 rfl rfl ?_
  refine V.aload_n (X.at (0) (0)) 1 dX10_init_1 rfl rfl ?_
  refine V.callI (ws := [(b, .inr (10, [.null, .int 0, .null]))]) (n := 1) X hK2 hAA (i_Task_10 (zl Z) (zG Z) b d) (wc := [(b, .inr (10, [.null, .int 0, .null]))]) (wr := []) tw_258 tw_183 tw_52 tw_184 rfl ⟨by decide +kernel, by decide +kernel, by decide +kernel⟩ rfl [0] [] rfl rfl (by decide) (by decide) (by decide) (len hRf (by decide)) (len hRl (by decide)) (rest := []) rfl (Nat.le_of_ble_eq_true rfl) (len hRc (Nat.le_of_ble_eq_true rfl)) (len hRs (Nat.le_of_ble_eq_true rfl)) dX10_init_2 ?_
  rintro _ rfl
  refine V.eqw (ws' := [(b, .inr (10, [.ref d, .int 0, .null]))]) rfl ?_
  refine V.aload_n (X.at (0 + 0) (0 + 0)) 0 dX10_init_5 rfl rfl ?_
  refine V.aload_n (X.at (0 + 0) (0 + 0)) 2 dX10_init_6 rfl rfl ?_
  refine V.putF (ws := [(b, .inr (10, [.ref d, .int 0, .null]))]) (a := b) (ci := 10) (fs := [.ref d, .int 0, .null]) (v := .ref p) (X.at (0 + 0) (0 + 0)) hM tyX10 tyX10_ok nmX10 inX10 0 rfl rfl 2 (by decide) rfl rfl (tyX10_ok 2 (by decide)) rfl rfl (Nat.le_of_ble_eq_true rfl) rfl rfl tw_259 dX10_init_7 ?_
  refine V.eqw (ws' := [(b, .inr (10, [.ref d, .int 0, .ref p]))]) rfl ?_
  exact V.cret X rfl hA hQ rfl rfl rfl dX10_init_10 (rfl)

set_option maxHeartbeats 4000000 in
set_option maxRecDepth 100000 in
theorem i_Finding (l : Launch) (G : Gx) (b d : Nat) : MC l G ⟨"NestedDeeds$Finding", "<init>", "(LNestedDeeds$Deeds;)V"⟩ prog_5_method_1_code 2 2 33 0 0 [.ref b, .ref d] [(b, .inr (3, [.null, .int 0, .int 0, .int 0]))] (fun w => w = [(b, .inr (3, [.ref d, .int 0, .int 0, .int 0]))]) := by
  refine MC.of (lv := [(0, .ref b), (1, .ref d)]) (by decide +kernel) rfl rfl (Nat.le_of_ble_eq_true rfl) ?_
  intro Z hRf hRl hRc hRs hl hG hn hA hQ hM hK2 X
  subst hG hl
  have X : XC Z "NestedDeeds$Finding" prog_5_method_1_code none := X
  have hAA : ∀ q, (zs Z).heap.size ≤ q → zA Z q := fun q h => by rw [hA]; exact Or.inr h
  refine V.aload_n (X.at (0) (0)) 0 dX3_init_0 rfl rfl ?_
  refine V.aload_n (X.at (0) (0)) 1 dX3_init_1 rfl rfl ?_
  refine V.callI (ws := [(b, .inr (3, [.null, .int 0, .int 0, .int 0]))]) (n := 1) X hK2 hAA (i_Task_3 (zl Z) (zG Z) b d) (wc := [(b, .inr (3, [.null, .int 0, .int 0, .int 0]))]) (wr := []) tw_270 tw_183 tw_52 tw_184 rfl ⟨by decide +kernel, by decide +kernel, by decide +kernel⟩ rfl [0] [] rfl rfl (by decide) (by decide) (by decide) (len hRf (by decide)) (len hRl (by decide)) (rest := []) rfl (Nat.le_of_ble_eq_true rfl) (len hRc (Nat.le_of_ble_eq_true rfl)) (len hRs (Nat.le_of_ble_eq_true rfl)) dX3_init_2 ?_
  rintro _ rfl
  refine V.eqw (ws' := [(b, .inr (3, [.ref d, .int 0, .int 0, .int 0]))]) rfl ?_
  exact V.cret X rfl hA hQ rfl rfl rfl dX3_init_5 (rfl)

set_option maxHeartbeats 4000000 in
set_option maxRecDepth 100000 in
theorem i_Copying (l : Launch) (G : Gx) (b d : Nat) : MC l G ⟨"NestedDeeds$Copying", "<init>", "(LNestedDeeds$Deeds;)V"⟩ prog_3_method_1_code 2 2 33 4 8504 [.ref b, .ref d] [(b, .inr (1, [.null, .int 0, .null, .null, .null, .null, .int 0, .int 0, .int 0, .int 0]))] (fun w => ∃ q1 q2 q3 q4, w = [(b, .inr (1, [.ref d, .int 0, .ref q1, .ref q2, .ref q3, .ref q4, .int 0, .int 0, .int 0, .int 0])), (q1, .inl (G.2.2.2.2, 1502, .inl (fun _ => 0))), (q2, .inl (G.2.1, 1502, .inl (fun _ => 0))), (q3, .inl (G.2.2.1, 1500, .inr (.inl (fun _ => 0)))), (q4, .inl (G.2.1, 4000, .inl (fun _ => 0)))]) := by
  refine MC.of (lv := [(0, .ref b), (1, .ref d)]) (by decide +kernel) rfl rfl (Nat.le_of_ble_eq_true rfl) ?_
  intro Z hRf hRl hRc hRs hl hG hn hA hQ hM hK2 X
  subst hG hl
  have X : XC Z "NestedDeeds$Copying" prog_3_method_1_code none := X
  have hAA : ∀ q, (zs Z).heap.size ≤ q → zA Z q := fun q h => by rw [hA]; exact Or.inr h
  refine V.aload_n (X.at (0) (0)) 0 dX1_init_0 rfl rfl ?_
  refine V.aload_n (X.at (0) (0)) 1 dX1_init_1 rfl rfl ?_
  refine V.callI (ws := [(b, .inr (1, [.null, .int 0, .null, .null, .null, .null, .int 0, .int 0, .int 0, .int 0]))]) (n := 1) X hK2 hAA (i_Task_1 (zl Z) (zG Z) b d) (wc := [(b, .inr (1, [.null, .int 0, .null, .null, .null, .null, .int 0, .int 0, .int 0, .int 0]))]) (wr := []) tw_285 tw_183 tw_52 tw_184 rfl ⟨by decide +kernel, by decide +kernel, by decide +kernel⟩ rfl [0] [] rfl rfl (by decide) (by decide) (by decide) (len hRf (by decide)) (len hRl (by decide)) (rest := []) rfl (Nat.le_of_ble_eq_true rfl) (len hRc (Nat.le_of_ble_eq_true rfl)) (len hRs (Nat.le_of_ble_eq_true rfl)) dX1_init_2 ?_
  rintro _ rfl
  refine V.eqw (ws' := [(b, .inr (1, [.ref d, .int 0, .null, .null, .null, .null, .int 0, .int 0, .int 0, .int 0]))]) rfl ?_
  refine V.aload_n (X.at (0 + 0) (0 + 0)) 0 dX1_init_5 rfl rfl ?_
  refine V.sipush (X.at (0 + 0) (0 + 0)) (v := nI 1502) dX1_init_6 (by decide) ?_
  refine V.newa X (cA := (zG Z).2.2.2.2) 3 rfl (fun _ => rfl) tw_314 rfl hAA (a0 := (1502, .inl (fun _ => 0))) (fun _ => rfl) (by decide) (by decide) (by decide) (len hRc (Nat.le_of_ble_eq_true rfl)) (len hRs (Nat.le_of_ble_eq_true rfl)) dX1_init_9 (fun q1 => ?_)
  refine V.eqw (ws' := [(b, .inr (1, [.ref d, .int 0, .null, .null, .null, .null, .int 0, .int 0, .int 0, .int 0])), (q1, .inl ((zG Z).2.2.2.2, 1502, .inl (fun _ => 0)))]) rfl ?_
  refine V.putF (ws := [(b, .inr (1, [.ref d, .int 0, .null, .null, .null, .null, .int 0, .int 0, .int 0, .int 0])), (q1, .inl ((zG Z).2.2.2.2, 1502, .inl (fun _ => 0)))]) (a := b) (ci := 1) (fs := [.ref d, .int 0, .null, .null, .null, .null, .int 0, .int 0, .int 0, .int 0]) (v := .ref q1) (X.at (0 + 0 + 1) (0 + 0 + 1502)) hM tyX1 tyX1_ok nmX1 inX1 0 rfl rfl 2 (by decide) rfl rfl (tyX1_ok 2 (by decide)) rfl rfl (Nat.le_of_ble_eq_true rfl) rfl rfl tw_286 dX1_init_11 ?_
  refine V.eqw (ws' := [(b, .inr (1, [.ref d, .int 0, .ref q1, .null, .null, .null, .int 0, .int 0, .int 0, .int 0])), (q1, .inl ((zG Z).2.2.2.2, 1502, .inl (fun _ => 0)))]) rfl ?_
  refine V.aload_n (X.at (0 + 0 + 1) (0 + 0 + 1502)) 0 dX1_init_14 rfl rfl ?_
  refine V.sipush (X.at (0 + 0 + 1) (0 + 0 + 1502)) (v := nI 1502) dX1_init_15 (by decide) ?_
  refine V.newa X (cA := (zG Z).2.1) 0 rfl (fun _ => rfl) tw_117 rfl hAA (a0 := (1502, .inl (fun _ => 0))) (fun _ => rfl) (by decide) (by decide) (by decide) (len hRc (Nat.le_of_ble_eq_true rfl)) (len hRs (Nat.le_of_ble_eq_true rfl)) dX1_init_18 (fun q2 => ?_)
  refine V.eqw (ws' := [(b, .inr (1, [.ref d, .int 0, .ref q1, .null, .null, .null, .int 0, .int 0, .int 0, .int 0])), (q1, .inl ((zG Z).2.2.2.2, 1502, .inl (fun _ => 0))), (q2, .inl ((zG Z).2.1, 1502, .inl (fun _ => 0)))]) rfl ?_
  refine V.putF (ws := [(b, .inr (1, [.ref d, .int 0, .ref q1, .null, .null, .null, .int 0, .int 0, .int 0, .int 0])), (q1, .inl ((zG Z).2.2.2.2, 1502, .inl (fun _ => 0))), (q2, .inl ((zG Z).2.1, 1502, .inl (fun _ => 0)))]) (a := b) (ci := 1) (fs := [.ref d, .int 0, .ref q1, .null, .null, .null, .int 0, .int 0, .int 0, .int 0]) (v := .ref q2) (X.at (0 + 0 + 1 + 1) (0 + 0 + 1502 + 1502)) hM tyX1 tyX1_ok nmX1 inX1 0 rfl rfl 3 (by decide) rfl rfl (tyX1_ok 3 (by decide)) rfl rfl (Nat.le_of_ble_eq_true rfl) rfl rfl tw_287 dX1_init_20 ?_
  refine V.eqw (ws' := [(b, .inr (1, [.ref d, .int 0, .ref q1, .ref q2, .null, .null, .int 0, .int 0, .int 0, .int 0])), (q1, .inl ((zG Z).2.2.2.2, 1502, .inl (fun _ => 0))), (q2, .inl ((zG Z).2.1, 1502, .inl (fun _ => 0)))]) rfl ?_
  refine V.aload_n (X.at (0 + 0 + 1 + 1) (0 + 0 + 1502 + 1502)) 0 dX1_init_23 rfl rfl ?_
  refine V.sipush (X.at (0 + 0 + 1 + 1) (0 + 0 + 1502 + 1502)) (v := nI 1500) dX1_init_24 (by decide) ?_
  refine V.newa X (cA := (zG Z).2.2.1) 1 rfl (fun _ => rfl) tw_213 rfl hAA (a0 := (1500, .inr (.inl (fun _ => 0)))) (fun _ => rfl) (by decide) (by decide) (by decide) (len hRc (Nat.le_of_ble_eq_true rfl)) (len hRs (Nat.le_of_ble_eq_true rfl)) dX1_init_27 (fun q3 => ?_)
  refine V.eqw (ws' := [(b, .inr (1, [.ref d, .int 0, .ref q1, .ref q2, .null, .null, .int 0, .int 0, .int 0, .int 0])), (q1, .inl ((zG Z).2.2.2.2, 1502, .inl (fun _ => 0))), (q2, .inl ((zG Z).2.1, 1502, .inl (fun _ => 0))), (q3, .inl ((zG Z).2.2.1, 1500, .inr (.inl (fun _ => 0))))]) rfl ?_
  refine V.putF (ws := [(b, .inr (1, [.ref d, .int 0, .ref q1, .ref q2, .null, .null, .int 0, .int 0, .int 0, .int 0])), (q1, .inl ((zG Z).2.2.2.2, 1502, .inl (fun _ => 0))), (q2, .inl ((zG Z).2.1, 1502, .inl (fun _ => 0))), (q3, .inl ((zG Z).2.2.1, 1500, .inr (.inl (fun _ => 0))))]) (a := b) (ci := 1) (fs := [.ref d, .int 0, .ref q1, .ref q2, .null, .null, .int 0, .int 0, .int 0, .int 0]) (v := .ref q3) (X.at (0 + 0 + 1 + 1 + 1) (0 + 0 + 1502 + 1502 + 1500)) hM tyX1 tyX1_ok nmX1 inX1 0 rfl rfl 4 (by decide) rfl rfl (tyX1_ok 4 (by decide)) rfl rfl (Nat.le_of_ble_eq_true rfl) rfl rfl tw_288 dX1_init_29 ?_
  refine V.eqw (ws' := [(b, .inr (1, [.ref d, .int 0, .ref q1, .ref q2, .ref q3, .null, .int 0, .int 0, .int 0, .int 0])), (q1, .inl ((zG Z).2.2.2.2, 1502, .inl (fun _ => 0))), (q2, .inl ((zG Z).2.1, 1502, .inl (fun _ => 0))), (q3, .inl ((zG Z).2.2.1, 1500, .inr (.inl (fun _ => 0))))]) rfl ?_
  refine V.aload_n (X.at (0 + 0 + 1 + 1 + 1) (0 + 0 + 1502 + 1502 + 1500)) 0 dX1_init_32 rfl rfl ?_
  refine V.sipush (X.at (0 + 0 + 1 + 1 + 1) (0 + 0 + 1502 + 1502 + 1500)) (v := nI 4000) dX1_init_33 (by decide) ?_
  refine V.newa X (cA := (zG Z).2.1) 0 rfl (fun _ => rfl) tw_117 rfl hAA (a0 := (4000, .inl (fun _ => 0))) (fun _ => rfl) (by decide) (by decide) (by decide) (len hRc (Nat.le_of_ble_eq_true rfl)) (len hRs (Nat.le_of_ble_eq_true rfl)) dX1_init_36 (fun q4 => ?_)
  refine V.eqw (ws' := [(b, .inr (1, [.ref d, .int 0, .ref q1, .ref q2, .ref q3, .null, .int 0, .int 0, .int 0, .int 0])), (q1, .inl ((zG Z).2.2.2.2, 1502, .inl (fun _ => 0))), (q2, .inl ((zG Z).2.1, 1502, .inl (fun _ => 0))), (q3, .inl ((zG Z).2.2.1, 1500, .inr (.inl (fun _ => 0)))), (q4, .inl ((zG Z).2.1, 4000, .inl (fun _ => 0)))]) rfl ?_
  refine V.putF (ws := [(b, .inr (1, [.ref d, .int 0, .ref q1, .ref q2, .ref q3, .null, .int 0, .int 0, .int 0, .int 0])), (q1, .inl ((zG Z).2.2.2.2, 1502, .inl (fun _ => 0))), (q2, .inl ((zG Z).2.1, 1502, .inl (fun _ => 0))), (q3, .inl ((zG Z).2.2.1, 1500, .inr (.inl (fun _ => 0)))), (q4, .inl ((zG Z).2.1, 4000, .inl (fun _ => 0)))]) (a := b) (ci := 1) (fs := [.ref d, .int 0, .ref q1, .ref q2, .ref q3, .null, .int 0, .int 0, .int 0, .int 0]) (v := .ref q4) (X.at (0 + 0 + 1 + 1 + 1 + 1) (0 + 0 + 1502 + 1502 + 1500 + 4000)) hM tyX1 tyX1_ok nmX1 inX1 0 rfl rfl 5 (by decide) rfl rfl (tyX1_ok 5 (by decide)) rfl rfl (Nat.le_of_ble_eq_true rfl) rfl rfl tw_289 dX1_init_38 ?_
  refine V.eqw (ws' := [(b, .inr (1, [.ref d, .int 0, .ref q1, .ref q2, .ref q3, .ref q4, .int 0, .int 0, .int 0, .int 0])), (q1, .inl ((zG Z).2.2.2.2, 1502, .inl (fun _ => 0))), (q2, .inl ((zG Z).2.1, 1502, .inl (fun _ => 0))), (q3, .inl ((zG Z).2.2.1, 1500, .inr (.inl (fun _ => 0)))), (q4, .inl ((zG Z).2.1, 4000, .inl (fun _ => 0)))]) rfl ?_
  exact V.cret X rfl hA hQ rfl rfl rfl dX1_init_41 (⟨q1, q2, q3, q4, rfl⟩)

