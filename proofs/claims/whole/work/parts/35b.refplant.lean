def plC (cl : Nat → List Nat) (n : Nat) (u : Option Nat) (sr : Bool) (m : Nat → Int64) : Nat → List Nat := match u with
  | none => va_up cl n []
  | some p => va_up (va_up cl n []) p (insP sr m n (cl p))
def PPl (G : Gx) (a : Nat → Nat) (σ : St) (n : Nat) (cl : Nat → List Nat) (nd : Nat → Nat × Int32) (mN : Nat → Int64) (k : Nat) (v : Int32) (m : Int64) (u : Option Nat) (sr : Bool) (rv : Option Value) (w : va_W) : Prop := rv = none ∧ ∃ τ, w = rw G a τ ∧ TR (n + 1) (plC cl n u sr (va_up mN n m)) (va_up nd n (k, v)) (va_up mN n m) τ ∧ xT τ σ

theorem TR.new2 {n : Nat} {cl : Nat → List Nat} {nd : Nat → Nat × Int32} {mN : Nat → Int64} {σ τ : St} (h : TR n cl nd mN σ) (k : Nat) (v : Int32) (m : Int64) (u : Option Nat) (hu : n = 0 → u = none) (eN : gN τ 11 = n + 1) (eA : gA τ 10 = va_up (gA σ 10) n k) (eJ : gJ τ 1 = va_up (gJ σ 1) n v) (eL : gL τ 2 = va_up (gL σ 2) n m) (e4 : gP τ 4 = va_up (gP σ 4) n none) (e5 : gP τ 5 = va_up (gP σ 5) n none) (e6 : gP τ 6 = va_up (gP σ 6) n u) : TR (n + 1) (va_up cl n []) (va_up nd n (k, v)) (va_up mN n m) τ := by
  have w := h.new k v m u hu
  obtain ⟨w1, w2, w3, w4, w5⟩ := w
  refine ⟨eN, fun x hx => ?_, fun x i j hx hj => ?_, w4, fun h0 => ?_⟩
  · rw [eA, eJ, eL, e4]; exact w2 x hx
  · rw [e5, e6]; exact w3 x i j hx hj
  · rw [e5, e6]; exact w5 h0
theorem xT_A (σ : St) (f : Nat → Nat) : xT (sA σ 10 f) σ := ⟨fun _ _ => rfl, fun _ hj => va_up_ne _ _ hj, rfl, fun _ _ => rfl, fun _ _ => rfl, rfl, rfl, fun _ _ _ _ => rfl⟩
theorem xT_J (σ : St) (f : Nat → Int32) : xT (sJ σ 1 f) σ := ⟨fun _ _ => rfl, fun _ _ => rfl, rfl, fun _ hj => va_up_ne _ _ hj, fun _ _ => rfl, rfl, rfl, fun _ _ _ _ => rfl⟩
theorem xT_L (σ : St) (f : Nat → Int64) : xT (sL σ 2 f) σ := ⟨fun _ _ => rfl, fun _ _ => rfl, rfl, fun _ _ => rfl, fun _ hj => va_up_ne _ _ hj, rfl, rfl, fun _ _ _ _ => rfl⟩
theorem xT_P4 (σ : St) (f : Nat → Option Nat) : xT (sP σ 4 f) σ := ⟨fun _ _ => rfl, fun _ _ => rfl, rfl, fun _ _ => rfl, fun _ _ => rfl, rfl, rfl, fun _ h4 _ _ => va_up_ne _ _ h4⟩
theorem xT_P5 (σ : St) (f : Nat → Option Nat) : xT (sP σ 5 f) σ := ⟨fun _ _ => rfl, fun _ _ => rfl, rfl, fun _ _ => rfl, fun _ _ => rfl, rfl, rfl, fun _ _ h5 _ => va_up_ne _ _ h5⟩
theorem xT_P6 (σ : St) (f : Nat → Option Nat) : xT (sP σ 6 f) σ := ⟨fun _ _ => rfl, fun _ _ => rfl, rfl, fun _ _ => rfl, fun _ _ => rfl, rfl, rfl, fun _ _ _ h6 => va_up_ne _ _ h6⟩
theorem xT_N (σ : St) (x : Nat) : xT (sN σ 11 x) σ := ⟨fun _ hj => va_up_ne _ _ hj, fun _ _ => rfl, rfl, fun _ _ => rfl, fun _ _ => rfl, rfl, rfl, fun _ _ _ _ => rfl⟩

set_option maxHeartbeats 4000000 in
set_option maxRecDepth 100000 in
theorem r_plant (l : Launch) (G : Gx) (a : Nat → Nat) (σ : St) {n : Nat} {cl : Nat → List Nat} {nd : Nat → Nat × Int32} {mN : Nat → Int64} (k : Nat) (v : Int32) (m : Int64) (u : Option Nat) (sr : Bool) (h : TR n cl nd mN σ) (hn2 : n < 20000) (hu : ∀ p, u = some p → p < n) : MM l G ⟨"NestedDeedsModel", "plant", "(IIJIZ)V"⟩ prog_14_method_39_code 10 none 0 0 [.ref (a 0), .int (nI k), .int v, .long m, .int (oI u), .int (bI sr)] (rw G a σ) (PPl G a σ n cl nd mN k v m u sr) := by
  refine MM.of (lv := [(0, .ref (a 0)), (1, .int (nI k)), (2, .int v), (3, .long m), (5, .int (oI u)), (6, .int (bI sr))]) (by decide +kernel) rfl (Nat.le_of_ble_eq_true rfl) ?_
  intro Z hRf hRl hl hG hn hk ht hA hQ X
  subst hG hl
  have X : XC Z "NestedDeedsModel" prog_14_method_39_code none := X
  have hk0 : zk Z ≤ (zR Z).cells := hk ▸ Nat.zero_le _
  have ht0 : zt Z ≤ (zR Z).slots := ht ▸ Nat.zero_le _
  have h11 : gN σ 11 = n := h.1
  rcases u with _ | u
  · refine V.eql (lv' := [(0, .ref (a 0)), (1, .int (nI k)), (2, .int v), (3, .long m), (5, .int (-1)), (6, .int (bI sr))]) rfl ?_
    refine V.aload_n X 0 dX12_plant_0 rfl rfl ?_
    refine Vg_r_0_nodes (x := gN σ 11) X tw_858 dX12_plant_1 rfl ?_
    refine V.topi (y := nI n) (by rw [h11]) ?_
    refine V.istore X (lv' := [(7, .int (nI n)), (0, .ref (a 0)), (1, .int (nI k)), (2, .int v), (3, .long m), (5, .int (-1)), (6, .int (bI sr))]) dX12_plant_4 (ltn hn (by decide)) rfl ?_
    refine V.aload_n X 1 dX12_plant_6 rfl rfl ?_
    refine Vg_r_0_nodeKind X tw_859 dX12_plant_7 ?_
    refine V.iload X 0 dX12_plant_10 rfl ?_
    refine V.iload_n X 2 dX12_plant_12 rfl rfl ?_
    refine Vs_r_nodeKind (f := gA σ 10) (i := n) (x := k) X (by omega) dX12_plant_13 rfl ?_
    have kN11x : gN (sA σ 10 (va_up (gA σ 10) n k)) 11 = gN σ 11 := rfl
    have kA10x : gA (sA σ 10 (va_up (gA σ 10) n k)) 10 = va_up (gA σ 10) n k := rfl
    have kJ1x : gJ (sA σ 10 (va_up (gA σ 10) n k)) 1 = gJ σ 1 := rfl
    have kL2x : gL (sA σ 10 (va_up (gA σ 10) n k)) 2 = gL σ 2 := rfl
    have kP4x : gP (sA σ 10 (va_up (gA σ 10) n k)) 4 = gP σ 4 := rfl
    have kP5x : gP (sA σ 10 (va_up (gA σ 10) n k)) 5 = gP σ 5 := rfl
    have kP6x : gP (sA σ 10 (va_up (gA σ 10) n k)) 6 = gP σ 6 := rfl
    have kxx := xT_A σ (va_up (gA σ 10) n k)
    generalize sA σ 10 (va_up (gA σ 10) n k) = σ1 at kN11x kA10x kJ1x kL2x kP4x kP5x kP6x kxx ⊢
    skip
    have kN11 := kN11x
    have kA10 := kA10x
    have kJ1 := kJ1x
    have kL2 := kL2x
    have kP4 := kP4x
    have kP5 := kP5x
    have kP6 := kP6x
    have kx := kxx
    clear kN11x kA10x kJ1x kL2x kP4x kP5x kP6x kxx
    refine V.aload_n X 1 dX12_plant_14 rfl rfl ?_
    refine Vg_r_0_nodeNumber X tw_860 dX12_plant_15 ?_
    refine V.iload X 0 dX12_plant_18 rfl ?_
    refine V.iload_n X 3 dX12_plant_20 rfl rfl ?_
    refine Vs_r_nodeNumber (f := gJ σ1 1) (i := n) (x := v) X (by omega) dX12_plant_21 rfl ?_
    have kN11x : gN (sJ σ1 1 (va_up (gJ σ1 1) n v)) 11 = _ := (show gN (sJ σ1 1 (va_up (gJ σ1 1) n v)) 11 = gN σ1 11 from rfl).trans kN11
    have kA10x : gA (sJ σ1 1 (va_up (gJ σ1 1) n v)) 10 = _ := (show gA (sJ σ1 1 (va_up (gJ σ1 1) n v)) 10 = gA σ1 10 from rfl).trans kA10
    have kJ1x : gJ (sJ σ1 1 (va_up (gJ σ1 1) n v)) 1 = va_up (gJ σ 1) n v := by rw [← kJ1]; rfl
    have kL2x : gL (sJ σ1 1 (va_up (gJ σ1 1) n v)) 2 = _ := (show gL (sJ σ1 1 (va_up (gJ σ1 1) n v)) 2 = gL σ1 2 from rfl).trans kL2
    have kP4x : gP (sJ σ1 1 (va_up (gJ σ1 1) n v)) 4 = _ := (show gP (sJ σ1 1 (va_up (gJ σ1 1) n v)) 4 = gP σ1 4 from rfl).trans kP4
    have kP5x : gP (sJ σ1 1 (va_up (gJ σ1 1) n v)) 5 = _ := (show gP (sJ σ1 1 (va_up (gJ σ1 1) n v)) 5 = gP σ1 5 from rfl).trans kP5
    have kP6x : gP (sJ σ1 1 (va_up (gJ σ1 1) n v)) 6 = _ := (show gP (sJ σ1 1 (va_up (gJ σ1 1) n v)) 6 = gP σ1 6 from rfl).trans kP6
    have kxx := (xT_J σ1 (va_up (gJ σ1 1) n v)).tr kx
    generalize sJ σ1 1 (va_up (gJ σ1 1) n v) = σ2 at kN11x kA10x kJ1x kL2x kP4x kP5x kP6x kxx ⊢
    clear kN11 kA10 kJ1 kL2 kP4 kP5 kP6 kx
    skip
    have kN11 := kN11x
    have kA10 := kA10x
    have kJ1 := kJ1x
    have kL2 := kL2x
    have kP4 := kP4x
    have kP5 := kP5x
    have kP6 := kP6x
    have kx := kxx
    clear kN11x kA10x kJ1x kL2x kP4x kP5x kP6x kxx
    refine V.aload_n X 1 dX12_plant_22 rfl rfl ?_
    refine Vg_r_0_nodeMark X tw_861 dX12_plant_23 ?_
    refine V.iload X 0 dX12_plant_26 rfl ?_
    refine V.lload_n X 4 dX12_plant_28 rfl rfl ?_
    refine Vs_r_nodeMark (f := gL σ2 2) (i := n) (x := m) X (by omega) dX12_plant_29 rfl ?_
    have kN11x : gN (sL σ2 2 (va_up (gL σ2 2) n m)) 11 = _ := (show gN (sL σ2 2 (va_up (gL σ2 2) n m)) 11 = gN σ2 11 from rfl).trans kN11
    have kA10x : gA (sL σ2 2 (va_up (gL σ2 2) n m)) 10 = _ := (show gA (sL σ2 2 (va_up (gL σ2 2) n m)) 10 = gA σ2 10 from rfl).trans kA10
    have kJ1x : gJ (sL σ2 2 (va_up (gL σ2 2) n m)) 1 = _ := (show gJ (sL σ2 2 (va_up (gL σ2 2) n m)) 1 = gJ σ2 1 from rfl).trans kJ1
    have kL2x : gL (sL σ2 2 (va_up (gL σ2 2) n m)) 2 = va_up (gL σ 2) n m := by rw [← kL2]; rfl
    have kP4x : gP (sL σ2 2 (va_up (gL σ2 2) n m)) 4 = _ := (show gP (sL σ2 2 (va_up (gL σ2 2) n m)) 4 = gP σ2 4 from rfl).trans kP4
    have kP5x : gP (sL σ2 2 (va_up (gL σ2 2) n m)) 5 = _ := (show gP (sL σ2 2 (va_up (gL σ2 2) n m)) 5 = gP σ2 5 from rfl).trans kP5
    have kP6x : gP (sL σ2 2 (va_up (gL σ2 2) n m)) 6 = _ := (show gP (sL σ2 2 (va_up (gL σ2 2) n m)) 6 = gP σ2 6 from rfl).trans kP6
    have kxx := (xT_L σ2 (va_up (gL σ2 2) n m)).tr kx
    generalize sL σ2 2 (va_up (gL σ2 2) n m) = σ3 at kN11x kA10x kJ1x kL2x kP4x kP5x kP6x kxx ⊢
    clear kN11 kA10 kJ1 kL2 kP4 kP5 kP6 kx
    skip
    have kN11 := kN11x
    have kA10 := kA10x
    have kJ1 := kJ1x
    have kL2 := kL2x
    have kP4 := kP4x
    have kP5 := kP5x
    have kP6 := kP6x
    have kx := kxx
    clear kN11x kA10x kJ1x kL2x kP4x kP5x kP6x kxx
    refine V.aload_n X 1 dX12_plant_30 rfl rfl ?_
    refine Vg_r_0_child X tw_862 dX12_plant_31 ?_
    refine V.iload X 0 dX12_plant_34 rfl ?_
    refine V.iconst X (v := -1) dX12_plant_36 (by decide) ?_
    refine V.topi (y := oI none) rfl ?_
    refine Vs_r_child (f := gP σ3 4) (i := n) (x := none) X (by omega) dX12_plant_37 rfl ?_
    have kN11x : gN (sP σ3 4 (va_up (gP σ3 4) n none)) 11 = _ := (show gN (sP σ3 4 (va_up (gP σ3 4) n none)) 11 = gN σ3 11 from rfl).trans kN11
    have kA10x : gA (sP σ3 4 (va_up (gP σ3 4) n none)) 10 = _ := (show gA (sP σ3 4 (va_up (gP σ3 4) n none)) 10 = gA σ3 10 from rfl).trans kA10
    have kJ1x : gJ (sP σ3 4 (va_up (gP σ3 4) n none)) 1 = _ := (show gJ (sP σ3 4 (va_up (gP σ3 4) n none)) 1 = gJ σ3 1 from rfl).trans kJ1
    have kL2x : gL (sP σ3 4 (va_up (gP σ3 4) n none)) 2 = _ := (show gL (sP σ3 4 (va_up (gP σ3 4) n none)) 2 = gL σ3 2 from rfl).trans kL2
    have kP4x : gP (sP σ3 4 (va_up (gP σ3 4) n none)) 4 = va_up (gP σ 4) n none := by rw [← kP4]; rfl
    have kP5x : gP (sP σ3 4 (va_up (gP σ3 4) n none)) 5 = _ := (show gP (sP σ3 4 (va_up (gP σ3 4) n none)) 5 = gP σ3 5 from rfl).trans kP5
    have kP6x : gP (sP σ3 4 (va_up (gP σ3 4) n none)) 6 = _ := (show gP (sP σ3 4 (va_up (gP σ3 4) n none)) 6 = gP σ3 6 from rfl).trans kP6
    have kxx := (xT_P4 σ3 (va_up (gP σ3 4) n none)).tr kx
    generalize sP σ3 4 (va_up (gP σ3 4) n none) = σ4 at kN11x kA10x kJ1x kL2x kP4x kP5x kP6x kxx ⊢
    clear kN11 kA10 kJ1 kL2 kP4 kP5 kP6 kx
    skip
    have kN11 := kN11x
    have kA10 := kA10x
    have kJ1 := kJ1x
    have kL2 := kL2x
    have kP4 := kP4x
    have kP5 := kP5x
    have kP6 := kP6x
    have kx := kxx
    clear kN11x kA10x kJ1x kL2x kP4x kP5x kP6x kxx
    refine V.aload_n X 1 dX12_plant_38 rfl rfl ?_
    refine Vg_r_0_sibling X tw_863 dX12_plant_39 ?_
    refine V.iload X 0 dX12_plant_42 rfl ?_
    refine V.iconst X (v := -1) dX12_plant_44 (by decide) ?_
    refine V.topi (y := oI none) rfl ?_
    refine Vs_r_sibling (f := gP σ4 5) (i := n) (x := none) X (by omega) dX12_plant_45 rfl ?_
    have kN11x : gN (sP σ4 5 (va_up (gP σ4 5) n none)) 11 = _ := (show gN (sP σ4 5 (va_up (gP σ4 5) n none)) 11 = gN σ4 11 from rfl).trans kN11
    have kA10x : gA (sP σ4 5 (va_up (gP σ4 5) n none)) 10 = _ := (show gA (sP σ4 5 (va_up (gP σ4 5) n none)) 10 = gA σ4 10 from rfl).trans kA10
    have kJ1x : gJ (sP σ4 5 (va_up (gP σ4 5) n none)) 1 = _ := (show gJ (sP σ4 5 (va_up (gP σ4 5) n none)) 1 = gJ σ4 1 from rfl).trans kJ1
    have kL2x : gL (sP σ4 5 (va_up (gP σ4 5) n none)) 2 = _ := (show gL (sP σ4 5 (va_up (gP σ4 5) n none)) 2 = gL σ4 2 from rfl).trans kL2
    have kP4x : gP (sP σ4 5 (va_up (gP σ4 5) n none)) 4 = _ := (show gP (sP σ4 5 (va_up (gP σ4 5) n none)) 4 = gP σ4 4 from rfl).trans kP4
    have kP5x : gP (sP σ4 5 (va_up (gP σ4 5) n none)) 5 = va_up (gP σ 5) n none := by rw [← kP5]; rfl
    have kP6x : gP (sP σ4 5 (va_up (gP σ4 5) n none)) 6 = _ := (show gP (sP σ4 5 (va_up (gP σ4 5) n none)) 6 = gP σ4 6 from rfl).trans kP6
    have kxx := (xT_P5 σ4 (va_up (gP σ4 5) n none)).tr kx
    generalize sP σ4 5 (va_up (gP σ4 5) n none) = σ5 at kN11x kA10x kJ1x kL2x kP4x kP5x kP6x kxx ⊢
    clear kN11 kA10 kJ1 kL2 kP4 kP5 kP6 kx
    skip
    have kN11 := kN11x
    have kA10 := kA10x
    have kJ1 := kJ1x
    have kL2 := kL2x
    have kP4 := kP4x
    have kP5 := kP5x
    have kP6 := kP6x
    have kx := kxx
    clear kN11x kA10x kJ1x kL2x kP4x kP5x kP6x kxx
    refine V.aload_n X 1 dX12_plant_46 rfl rfl ?_
    refine Vg_r_0_parent X tw_864 dX12_plant_47 ?_
    refine V.iload X 0 dX12_plant_50 rfl ?_
    refine V.iload X 5 dX12_plant_52 rfl ?_
    refine V.topi (y := oI none) rfl ?_
    refine Vs_r_parent (f := gP σ5 6) (i := n) (x := none) X (by omega) dX12_plant_54 rfl ?_
    have kN11x : gN (sP σ5 6 (va_up (gP σ5 6) n none)) 11 = _ := (show gN (sP σ5 6 (va_up (gP σ5 6) n none)) 11 = gN σ5 11 from rfl).trans kN11
    have kA10x : gA (sP σ5 6 (va_up (gP σ5 6) n none)) 10 = _ := (show gA (sP σ5 6 (va_up (gP σ5 6) n none)) 10 = gA σ5 10 from rfl).trans kA10
    have kJ1x : gJ (sP σ5 6 (va_up (gP σ5 6) n none)) 1 = _ := (show gJ (sP σ5 6 (va_up (gP σ5 6) n none)) 1 = gJ σ5 1 from rfl).trans kJ1
    have kL2x : gL (sP σ5 6 (va_up (gP σ5 6) n none)) 2 = _ := (show gL (sP σ5 6 (va_up (gP σ5 6) n none)) 2 = gL σ5 2 from rfl).trans kL2
    have kP4x : gP (sP σ5 6 (va_up (gP σ5 6) n none)) 4 = _ := (show gP (sP σ5 6 (va_up (gP σ5 6) n none)) 4 = gP σ5 4 from rfl).trans kP4
    have kP5x : gP (sP σ5 6 (va_up (gP σ5 6) n none)) 5 = _ := (show gP (sP σ5 6 (va_up (gP σ5 6) n none)) 5 = gP σ5 5 from rfl).trans kP5
    have kP6x : gP (sP σ5 6 (va_up (gP σ5 6) n none)) 6 = va_up (gP σ 6) n none := by rw [← kP6]; rfl
    have kxx := (xT_P6 σ5 (va_up (gP σ5 6) n none)).tr kx
    generalize sP σ5 6 (va_up (gP σ5 6) n none) = σ6 at kN11x kA10x kJ1x kL2x kP4x kP5x kP6x kxx ⊢
    clear kN11 kA10 kJ1 kL2 kP4 kP5 kP6 kx
    skip
    have kN11 := kN11x
    have kA10 := kA10x
    have kJ1 := kJ1x
    have kL2 := kL2x
    have kP4 := kP4x
    have kP5 := kP5x
    have kP6 := kP6x
    have kx := kxx
    clear kN11x kA10x kJ1x kL2x kP4x kP5x kP6x kxx
    refine V.aload_n X 1 dX12_plant_55 rfl rfl ?_
    refine V.dup X dX12_plant_56 rfl ?_
    refine Vg_r_0_nodes (x := gN σ6 11) X tw_858 dX12_plant_57 rfl ?_
    refine V.topi (y := nI n) (by rw [kN11, h11]) ?_
    refine V.iconst X (v := nI 1) dX12_plant_60 (by decide) ?_
    refine V.iaddN X dX12_plant_61 ?_
    refine Vp_r_0_nodes (x := n + 1) X tw_858 dX12_plant_62 ?_
    have kN11x : gN (sN σ6 11 (n + 1)) 11 = n + 1 := rfl
    have kA10x : gA (sN σ6 11 (n + 1)) 10 = _ := (show gA (sN σ6 11 (n + 1)) 10 = gA σ6 10 from rfl).trans kA10
    have kJ1x : gJ (sN σ6 11 (n + 1)) 1 = _ := (show gJ (sN σ6 11 (n + 1)) 1 = gJ σ6 1 from rfl).trans kJ1
    have kL2x : gL (sN σ6 11 (n + 1)) 2 = _ := (show gL (sN σ6 11 (n + 1)) 2 = gL σ6 2 from rfl).trans kL2
    have kP4x : gP (sN σ6 11 (n + 1)) 4 = _ := (show gP (sN σ6 11 (n + 1)) 4 = gP σ6 4 from rfl).trans kP4
    have kP5x : gP (sN σ6 11 (n + 1)) 5 = _ := (show gP (sN σ6 11 (n + 1)) 5 = gP σ6 5 from rfl).trans kP5
    have kP6x : gP (sN σ6 11 (n + 1)) 6 = _ := (show gP (sN σ6 11 (n + 1)) 6 = gP σ6 6 from rfl).trans kP6
    have kxx := (xT_N σ6 (n + 1)).tr kx
    generalize sN σ6 11 (n + 1) = σ7 at kN11x kA10x kJ1x kL2x kP4x kP5x kP6x kxx ⊢
    clear kN11 kA10 kJ1 kL2 kP4 kP5 kP6 kx
    skip
    have kN11 := kN11x
    have kA10 := kA10x
    have kJ1 := kJ1x
    have kL2 := kL2x
    have kP4 := kP4x
    have kP5 := kP5x
    have kP6 := kP6x
    have kx := kxx
    clear kN11x kA10x kJ1x kL2x kP4x kP5x kP6x kxx
    refine V.iload X 5 dX12_plant_65 rfl ?_
    refine V.iconst X (v := -1) dX12_plant_67 (by decide) ?_
    refine V.icmp_ne X 72 dX12_plant_68 (by decide) (fun c68 => by exfalso; exact c68 rfl) (fun c68 => ?_)
    exact V.vret X rfl hA hk ht hQ rfl dX12_plant_71 (⟨rfl, σ7, rfl, h.new2 k v m none (fun _ => rfl) kN11 kA10 kJ1 kL2 kP4 kP5 kP6, kx⟩)
  · refine V.eql (lv' := [(0, .ref (a 0)), (1, .int (nI k)), (2, .int v), (3, .long m), (5, .int (nI u)), (6, .int (bI sr))]) rfl ?_
    have huu : u < n := hu u rfl
    refine V.aload_n X 0 dX12_plant_0 rfl rfl ?_
    refine Vg_r_0_nodes (x := gN σ 11) X tw_858 dX12_plant_1 rfl ?_
    refine V.topi (y := nI n) (by rw [h11]) ?_
    refine V.istore X (lv' := [(7, .int (nI n)), (0, .ref (a 0)), (1, .int (nI k)), (2, .int v), (3, .long m), (5, .int (nI u)), (6, .int (bI sr))]) dX12_plant_4 (ltn hn (by decide)) rfl ?_
    refine V.aload_n X 1 dX12_plant_6 rfl rfl ?_
    refine Vg_r_0_nodeKind X tw_859 dX12_plant_7 ?_
    refine V.iload X 0 dX12_plant_10 rfl ?_
    refine V.iload_n X 2 dX12_plant_12 rfl rfl ?_
    refine Vs_r_nodeKind (f := gA σ 10) (i := n) (x := k) X (by omega) dX12_plant_13 rfl ?_
    have kN11x : gN (sA σ 10 (va_up (gA σ 10) n k)) 11 = gN σ 11 := rfl
    have kA10x : gA (sA σ 10 (va_up (gA σ 10) n k)) 10 = va_up (gA σ 10) n k := rfl
    have kJ1x : gJ (sA σ 10 (va_up (gA σ 10) n k)) 1 = gJ σ 1 := rfl
    have kL2x : gL (sA σ 10 (va_up (gA σ 10) n k)) 2 = gL σ 2 := rfl
    have kP4x : gP (sA σ 10 (va_up (gA σ 10) n k)) 4 = gP σ 4 := rfl
    have kP5x : gP (sA σ 10 (va_up (gA σ 10) n k)) 5 = gP σ 5 := rfl
    have kP6x : gP (sA σ 10 (va_up (gA σ 10) n k)) 6 = gP σ 6 := rfl
    have kxx := xT_A σ (va_up (gA σ 10) n k)
    generalize sA σ 10 (va_up (gA σ 10) n k) = σ1 at kN11x kA10x kJ1x kL2x kP4x kP5x kP6x kxx ⊢
    skip
    have kN11 := kN11x
    have kA10 := kA10x
    have kJ1 := kJ1x
    have kL2 := kL2x
    have kP4 := kP4x
    have kP5 := kP5x
    have kP6 := kP6x
    have kx := kxx
    clear kN11x kA10x kJ1x kL2x kP4x kP5x kP6x kxx
    refine V.aload_n X 1 dX12_plant_14 rfl rfl ?_
    refine Vg_r_0_nodeNumber X tw_860 dX12_plant_15 ?_
    refine V.iload X 0 dX12_plant_18 rfl ?_
    refine V.iload_n X 3 dX12_plant_20 rfl rfl ?_
    refine Vs_r_nodeNumber (f := gJ σ1 1) (i := n) (x := v) X (by omega) dX12_plant_21 rfl ?_
    have kN11x : gN (sJ σ1 1 (va_up (gJ σ1 1) n v)) 11 = _ := (show gN (sJ σ1 1 (va_up (gJ σ1 1) n v)) 11 = gN σ1 11 from rfl).trans kN11
    have kA10x : gA (sJ σ1 1 (va_up (gJ σ1 1) n v)) 10 = _ := (show gA (sJ σ1 1 (va_up (gJ σ1 1) n v)) 10 = gA σ1 10 from rfl).trans kA10
    have kJ1x : gJ (sJ σ1 1 (va_up (gJ σ1 1) n v)) 1 = va_up (gJ σ 1) n v := by rw [← kJ1]; rfl
    have kL2x : gL (sJ σ1 1 (va_up (gJ σ1 1) n v)) 2 = _ := (show gL (sJ σ1 1 (va_up (gJ σ1 1) n v)) 2 = gL σ1 2 from rfl).trans kL2
    have kP4x : gP (sJ σ1 1 (va_up (gJ σ1 1) n v)) 4 = _ := (show gP (sJ σ1 1 (va_up (gJ σ1 1) n v)) 4 = gP σ1 4 from rfl).trans kP4
    have kP5x : gP (sJ σ1 1 (va_up (gJ σ1 1) n v)) 5 = _ := (show gP (sJ σ1 1 (va_up (gJ σ1 1) n v)) 5 = gP σ1 5 from rfl).trans kP5
    have kP6x : gP (sJ σ1 1 (va_up (gJ σ1 1) n v)) 6 = _ := (show gP (sJ σ1 1 (va_up (gJ σ1 1) n v)) 6 = gP σ1 6 from rfl).trans kP6
    have kxx := (xT_J σ1 (va_up (gJ σ1 1) n v)).tr kx
    generalize sJ σ1 1 (va_up (gJ σ1 1) n v) = σ2 at kN11x kA10x kJ1x kL2x kP4x kP5x kP6x kxx ⊢
    clear kN11 kA10 kJ1 kL2 kP4 kP5 kP6 kx
    skip
    have kN11 := kN11x
    have kA10 := kA10x
    have kJ1 := kJ1x
    have kL2 := kL2x
    have kP4 := kP4x
    have kP5 := kP5x
    have kP6 := kP6x
    have kx := kxx
    clear kN11x kA10x kJ1x kL2x kP4x kP5x kP6x kxx
    refine V.aload_n X 1 dX12_plant_22 rfl rfl ?_
    refine Vg_r_0_nodeMark X tw_861 dX12_plant_23 ?_
    refine V.iload X 0 dX12_plant_26 rfl ?_
    refine V.lload_n X 4 dX12_plant_28 rfl rfl ?_
    refine Vs_r_nodeMark (f := gL σ2 2) (i := n) (x := m) X (by omega) dX12_plant_29 rfl ?_
    have kN11x : gN (sL σ2 2 (va_up (gL σ2 2) n m)) 11 = _ := (show gN (sL σ2 2 (va_up (gL σ2 2) n m)) 11 = gN σ2 11 from rfl).trans kN11
    have kA10x : gA (sL σ2 2 (va_up (gL σ2 2) n m)) 10 = _ := (show gA (sL σ2 2 (va_up (gL σ2 2) n m)) 10 = gA σ2 10 from rfl).trans kA10
    have kJ1x : gJ (sL σ2 2 (va_up (gL σ2 2) n m)) 1 = _ := (show gJ (sL σ2 2 (va_up (gL σ2 2) n m)) 1 = gJ σ2 1 from rfl).trans kJ1
    have kL2x : gL (sL σ2 2 (va_up (gL σ2 2) n m)) 2 = va_up (gL σ 2) n m := by rw [← kL2]; rfl
    have kP4x : gP (sL σ2 2 (va_up (gL σ2 2) n m)) 4 = _ := (show gP (sL σ2 2 (va_up (gL σ2 2) n m)) 4 = gP σ2 4 from rfl).trans kP4
    have kP5x : gP (sL σ2 2 (va_up (gL σ2 2) n m)) 5 = _ := (show gP (sL σ2 2 (va_up (gL σ2 2) n m)) 5 = gP σ2 5 from rfl).trans kP5
    have kP6x : gP (sL σ2 2 (va_up (gL σ2 2) n m)) 6 = _ := (show gP (sL σ2 2 (va_up (gL σ2 2) n m)) 6 = gP σ2 6 from rfl).trans kP6
    have kxx := (xT_L σ2 (va_up (gL σ2 2) n m)).tr kx
    generalize sL σ2 2 (va_up (gL σ2 2) n m) = σ3 at kN11x kA10x kJ1x kL2x kP4x kP5x kP6x kxx ⊢
    clear kN11 kA10 kJ1 kL2 kP4 kP5 kP6 kx
    skip
    have kN11 := kN11x
    have kA10 := kA10x
    have kJ1 := kJ1x
    have kL2 := kL2x
    have kP4 := kP4x
    have kP5 := kP5x
    have kP6 := kP6x
    have kx := kxx
    clear kN11x kA10x kJ1x kL2x kP4x kP5x kP6x kxx
    refine V.aload_n X 1 dX12_plant_30 rfl rfl ?_
    refine Vg_r_0_child X tw_862 dX12_plant_31 ?_
    refine V.iload X 0 dX12_plant_34 rfl ?_
    refine V.iconst X (v := -1) dX12_plant_36 (by decide) ?_
    refine V.topi (y := oI none) rfl ?_
    refine Vs_r_child (f := gP σ3 4) (i := n) (x := none) X (by omega) dX12_plant_37 rfl ?_
    have kN11x : gN (sP σ3 4 (va_up (gP σ3 4) n none)) 11 = _ := (show gN (sP σ3 4 (va_up (gP σ3 4) n none)) 11 = gN σ3 11 from rfl).trans kN11
    have kA10x : gA (sP σ3 4 (va_up (gP σ3 4) n none)) 10 = _ := (show gA (sP σ3 4 (va_up (gP σ3 4) n none)) 10 = gA σ3 10 from rfl).trans kA10
    have kJ1x : gJ (sP σ3 4 (va_up (gP σ3 4) n none)) 1 = _ := (show gJ (sP σ3 4 (va_up (gP σ3 4) n none)) 1 = gJ σ3 1 from rfl).trans kJ1
    have kL2x : gL (sP σ3 4 (va_up (gP σ3 4) n none)) 2 = _ := (show gL (sP σ3 4 (va_up (gP σ3 4) n none)) 2 = gL σ3 2 from rfl).trans kL2
    have kP4x : gP (sP σ3 4 (va_up (gP σ3 4) n none)) 4 = va_up (gP σ 4) n none := by rw [← kP4]; rfl
    have kP5x : gP (sP σ3 4 (va_up (gP σ3 4) n none)) 5 = _ := (show gP (sP σ3 4 (va_up (gP σ3 4) n none)) 5 = gP σ3 5 from rfl).trans kP5
    have kP6x : gP (sP σ3 4 (va_up (gP σ3 4) n none)) 6 = _ := (show gP (sP σ3 4 (va_up (gP σ3 4) n none)) 6 = gP σ3 6 from rfl).trans kP6
    have kxx := (xT_P4 σ3 (va_up (gP σ3 4) n none)).tr kx
    generalize sP σ3 4 (va_up (gP σ3 4) n none) = σ4 at kN11x kA10x kJ1x kL2x kP4x kP5x kP6x kxx ⊢
    clear kN11 kA10 kJ1 kL2 kP4 kP5 kP6 kx
    skip
    have kN11 := kN11x
    have kA10 := kA10x
    have kJ1 := kJ1x
    have kL2 := kL2x
    have kP4 := kP4x
    have kP5 := kP5x
    have kP6 := kP6x
    have kx := kxx
    clear kN11x kA10x kJ1x kL2x kP4x kP5x kP6x kxx
    refine V.aload_n X 1 dX12_plant_38 rfl rfl ?_
    refine Vg_r_0_sibling X tw_863 dX12_plant_39 ?_
    refine V.iload X 0 dX12_plant_42 rfl ?_
    refine V.iconst X (v := -1) dX12_plant_44 (by decide) ?_
    refine V.topi (y := oI none) rfl ?_
    refine Vs_r_sibling (f := gP σ4 5) (i := n) (x := none) X (by omega) dX12_plant_45 rfl ?_
    have kN11x : gN (sP σ4 5 (va_up (gP σ4 5) n none)) 11 = _ := (show gN (sP σ4 5 (va_up (gP σ4 5) n none)) 11 = gN σ4 11 from rfl).trans kN11
    have kA10x : gA (sP σ4 5 (va_up (gP σ4 5) n none)) 10 = _ := (show gA (sP σ4 5 (va_up (gP σ4 5) n none)) 10 = gA σ4 10 from rfl).trans kA10
    have kJ1x : gJ (sP σ4 5 (va_up (gP σ4 5) n none)) 1 = _ := (show gJ (sP σ4 5 (va_up (gP σ4 5) n none)) 1 = gJ σ4 1 from rfl).trans kJ1
    have kL2x : gL (sP σ4 5 (va_up (gP σ4 5) n none)) 2 = _ := (show gL (sP σ4 5 (va_up (gP σ4 5) n none)) 2 = gL σ4 2 from rfl).trans kL2
    have kP4x : gP (sP σ4 5 (va_up (gP σ4 5) n none)) 4 = _ := (show gP (sP σ4 5 (va_up (gP σ4 5) n none)) 4 = gP σ4 4 from rfl).trans kP4
    have kP5x : gP (sP σ4 5 (va_up (gP σ4 5) n none)) 5 = va_up (gP σ 5) n none := by rw [← kP5]; rfl
    have kP6x : gP (sP σ4 5 (va_up (gP σ4 5) n none)) 6 = _ := (show gP (sP σ4 5 (va_up (gP σ4 5) n none)) 6 = gP σ4 6 from rfl).trans kP6
    have kxx := (xT_P5 σ4 (va_up (gP σ4 5) n none)).tr kx
    generalize sP σ4 5 (va_up (gP σ4 5) n none) = σ5 at kN11x kA10x kJ1x kL2x kP4x kP5x kP6x kxx ⊢
    clear kN11 kA10 kJ1 kL2 kP4 kP5 kP6 kx
    skip
    have kN11 := kN11x
    have kA10 := kA10x
    have kJ1 := kJ1x
    have kL2 := kL2x
    have kP4 := kP4x
    have kP5 := kP5x
    have kP6 := kP6x
    have kx := kxx
    clear kN11x kA10x kJ1x kL2x kP4x kP5x kP6x kxx
    refine V.aload_n X 1 dX12_plant_46 rfl rfl ?_
    refine Vg_r_0_parent X tw_864 dX12_plant_47 ?_
    refine V.iload X 0 dX12_plant_50 rfl ?_
    refine V.iload X 5 dX12_plant_52 rfl ?_
    refine V.topi (y := oI (some u)) rfl ?_
    refine Vs_r_parent (f := gP σ5 6) (i := n) (x := some u) X (by omega) dX12_plant_54 rfl ?_
    have kN11x : gN (sP σ5 6 (va_up (gP σ5 6) n (some u))) 11 = _ := (show gN (sP σ5 6 (va_up (gP σ5 6) n (some u))) 11 = gN σ5 11 from rfl).trans kN11
    have kA10x : gA (sP σ5 6 (va_up (gP σ5 6) n (some u))) 10 = _ := (show gA (sP σ5 6 (va_up (gP σ5 6) n (some u))) 10 = gA σ5 10 from rfl).trans kA10
    have kJ1x : gJ (sP σ5 6 (va_up (gP σ5 6) n (some u))) 1 = _ := (show gJ (sP σ5 6 (va_up (gP σ5 6) n (some u))) 1 = gJ σ5 1 from rfl).trans kJ1
    have kL2x : gL (sP σ5 6 (va_up (gP σ5 6) n (some u))) 2 = _ := (show gL (sP σ5 6 (va_up (gP σ5 6) n (some u))) 2 = gL σ5 2 from rfl).trans kL2
    have kP4x : gP (sP σ5 6 (va_up (gP σ5 6) n (some u))) 4 = _ := (show gP (sP σ5 6 (va_up (gP σ5 6) n (some u))) 4 = gP σ5 4 from rfl).trans kP4
    have kP5x : gP (sP σ5 6 (va_up (gP σ5 6) n (some u))) 5 = _ := (show gP (sP σ5 6 (va_up (gP σ5 6) n (some u))) 5 = gP σ5 5 from rfl).trans kP5
    have kP6x : gP (sP σ5 6 (va_up (gP σ5 6) n (some u))) 6 = va_up (gP σ 6) n (some u) := by rw [← kP6]; rfl
    have kxx := (xT_P6 σ5 (va_up (gP σ5 6) n (some u))).tr kx
    generalize sP σ5 6 (va_up (gP σ5 6) n (some u)) = σ6 at kN11x kA10x kJ1x kL2x kP4x kP5x kP6x kxx ⊢
    clear kN11 kA10 kJ1 kL2 kP4 kP5 kP6 kx
    skip
    have kN11 := kN11x
    have kA10 := kA10x
    have kJ1 := kJ1x
    have kL2 := kL2x
    have kP4 := kP4x
    have kP5 := kP5x
    have kP6 := kP6x
    have kx := kxx
    clear kN11x kA10x kJ1x kL2x kP4x kP5x kP6x kxx
    refine V.aload_n X 1 dX12_plant_55 rfl rfl ?_
    refine V.dup X dX12_plant_56 rfl ?_
    refine Vg_r_0_nodes (x := gN σ6 11) X tw_858 dX12_plant_57 rfl ?_
    refine V.topi (y := nI n) (by rw [kN11, h11]) ?_
    refine V.iconst X (v := nI 1) dX12_plant_60 (by decide) ?_
    refine V.iaddN X dX12_plant_61 ?_
    refine Vp_r_0_nodes (x := n + 1) X tw_858 dX12_plant_62 ?_
    have kN11x : gN (sN σ6 11 (n + 1)) 11 = n + 1 := rfl
    have kA10x : gA (sN σ6 11 (n + 1)) 10 = _ := (show gA (sN σ6 11 (n + 1)) 10 = gA σ6 10 from rfl).trans kA10
    have kJ1x : gJ (sN σ6 11 (n + 1)) 1 = _ := (show gJ (sN σ6 11 (n + 1)) 1 = gJ σ6 1 from rfl).trans kJ1
    have kL2x : gL (sN σ6 11 (n + 1)) 2 = _ := (show gL (sN σ6 11 (n + 1)) 2 = gL σ6 2 from rfl).trans kL2
    have kP4x : gP (sN σ6 11 (n + 1)) 4 = _ := (show gP (sN σ6 11 (n + 1)) 4 = gP σ6 4 from rfl).trans kP4
    have kP5x : gP (sN σ6 11 (n + 1)) 5 = _ := (show gP (sN σ6 11 (n + 1)) 5 = gP σ6 5 from rfl).trans kP5
    have kP6x : gP (sN σ6 11 (n + 1)) 6 = _ := (show gP (sN σ6 11 (n + 1)) 6 = gP σ6 6 from rfl).trans kP6
    have kxx := (xT_N σ6 (n + 1)).tr kx
    generalize sN σ6 11 (n + 1) = σ7 at kN11x kA10x kJ1x kL2x kP4x kP5x kP6x kxx ⊢
    clear kN11 kA10 kJ1 kL2 kP4 kP5 kP6 kx
    skip
    have kN11 := kN11x
    have kA10 := kA10x
    have kJ1 := kJ1x
    have kL2 := kL2x
    have kP4 := kP4x
    have kP5 := kP5x
    have kP6 := kP6x
    have kx := kxx
    clear kN11x kA10x kJ1x kL2x kP4x kP5x kP6x kxx
    refine V.iload X 5 dX12_plant_65 rfl ?_
    refine V.iconst X (v := -1) dX12_plant_67 (by decide) ?_
    refine V.icmp_ne X 72 dX12_plant_68 (by decide) (fun c68 => ?_) (fun c68 => by exfalso; exact nI_nm1 (by omega) c68)
    have hT := h.new2 k v m (some u) (fun z => by omega) kN11 kA10 kJ1 kL2 kP4 kP5 kP6
    have hx1 := kx
    have h61 : gP σ7 6 n = some u := by rw [kP6, va_up_self]
    clear kN11 kA10 kJ1 kL2 kP4 kP5 kP6 kx
    generalize σ7 = τ1 at hT hx1 h61 ⊢
    obtain ⟨t1, t2, t3, t4, t5⟩ := id hT
    have ecl : va_up cl n [] u = cl u := va_up_ne _ _ (by omega)
    have q4 := (t2 u (by omega)).2.2.2
    rw [ecl] at q4
    have hch : ∀ (i j : Nat), (cl u)[i]? = some j → j < n ∧ gP τ1 5 j = (cl u)[i + 1]? ∧ gL τ1 2 j = mN j := by
      intro i j hj
      have hj0 : (va_up cl n [] u)[i]? = some j := by rw [ecl]; exact hj
      obtain ⟨w1, w2, w3, w4⟩ := t3 u i j (by omega) hj0
      have hjn : j < n := by
        have := (h.2.2.1 u i j (by omega) hj).2.1
        omega
      rw [ecl] at w3
      exact ⟨hjn, w3, by rw [(t2 j w2).2.2.1, va_up_ne _ _ (by omega)]⟩
    have hun : ∀ (x q : Nat), x < n + 1 → ¬ (va_up cl n [] x)[q]? = some n := by
      intro x q hx hq
      by_cases e : x = n
      · rw [e, va_up_self] at hq; simp at hq
      · rw [va_up_ne _ _ e] at hq
        have := (h.2.2.1 x q n (by omega) hq).2.1
        omega
    have LE : ∀ (i : Nat), i ≤ (cl u).length → insP sr (va_up mN n m) n (cl u) = (cl u).take i ++ n :: (cl u).drop i → V Z (rw (zG Z) a τ1) [(9, .int (oI ((cl u)[i]?))), (8, .int (oI (if i = 0 then none else (cl u)[i - 1]?))), (0, .ref (a 0)), (3, .long m), (5, .int (nI u)), (6, .int (bI sr)), (7, .int (nI n))] 123 [] := by
      intro i hi hins
      have hlk := hT.link (u := u) (i := i) (by omega) (by rw [ecl]; exact hi) hun h61
      have hxl := xT_plk τ1 n u i (cl u)
      rw [ecl] at hlk
      have ecp : plC cl n (some u) sr (va_up mN n m) = va_up (va_up cl n []) u ((cl u).take i ++ n :: (cl u).drop i) := by rw [plC, hins]
      rcases i with _ | i
      · rw [plk, if_pos rfl] at hlk hxl
        refine V.eql (lv' := [(9, .int (oI ((cl u)[0]?))), (8, .int (-1)), (0, .ref (a 0)), (3, .long m), (5, .int (nI u)), (6, .int (bI sr)), (7, .int (nI n))]) rfl ?_
        refine V.aload_n X 2 dX12_plant_123 rfl rfl ?_
        refine Vg_r_0_sibling X tw_863 dX12_plant_124 ?_
        refine V.iload X 6 dX12_plant_127 rfl ?_
        refine V.iload X 0 dX12_plant_129 rfl ?_
        refine Vs_r_sibling (f := gP (τ1) 5) (i := n) (x := (cl u)[0]?) X (by omega) dX12_plant_131 rfl ?_
        refine V.iload X 1 dX12_plant_132 rfl ?_
        refine V.iconst X (v := -1) dX12_plant_134 (by decide) ?_
        refine V.icmp_ne X 150 dX12_plant_135 (by decide) (fun c135 => by exfalso; exact c135 rfl) (fun c135 => ?_)
        refine V.aload_n X 2 dX12_plant_138 rfl rfl ?_
        refine Vg_r_0_child X tw_862 dX12_plant_139 ?_
        refine V.iload X 4 dX12_plant_142 rfl ?_
        refine V.iload X 6 dX12_plant_144 rfl ?_
        refine V.topi (y := oI (some n)) rfl ?_
        refine Vs_r_child (f := gP (τ1) 4) (i := u) (x := some n) X (by omega) dX12_plant_146 rfl ?_
        refine V.goto X 159 dX12_plant_147 (by decide) ?_
        exact V.vret X rfl hA hk ht hQ rfl dX12_plant_159 (⟨rfl, _, rfl, by rw [ecp]; exact hlk, hxl.tr hx1⟩)
      · rw [plk, if_neg (by omega), Nat.add_sub_cancel] at hlk hxl
        have hg : (cl u)[i]? = some ((cl u).getD i 0) := gD (by omega)
        have hgn := (hch i _ hg).1
        refine V.eql (lv' := [(9, .int (oI ((cl u)[i + 1]?))), (8, .int (nI ((cl u).getD i 0))), (0, .ref (a 0)), (3, .long m), (5, .int (nI u)), (6, .int (bI sr)), (7, .int (nI n))]) (by rw [if_neg (by omega), Nat.add_sub_cancel, hg]; rfl) ?_
        refine V.aload_n X 2 dX12_plant_123 rfl rfl ?_
        refine Vg_r_0_sibling X tw_863 dX12_plant_124 ?_
        refine V.iload X 6 dX12_plant_127 rfl ?_
        refine V.iload X 0 dX12_plant_129 rfl ?_
        refine Vs_r_sibling (f := gP (τ1) 5) (i := n) (x := (cl u)[i + 1]?) X (by omega) dX12_plant_131 rfl ?_
        refine V.iload X 1 dX12_plant_132 rfl ?_
        refine V.iconst X (v := -1) dX12_plant_134 (by decide) ?_
        refine V.icmp_ne X 150 dX12_plant_135 (by decide) (fun c135 => ?_) (fun c135 => by exfalso; exact nI_nm1 (by omega) c135)
        refine V.aload_n X 2 dX12_plant_150 rfl rfl ?_
        refine Vg_r_0_sibling X tw_863 dX12_plant_151 ?_
        refine V.iload X 1 dX12_plant_154 rfl ?_
        refine V.iload X 6 dX12_plant_156 rfl ?_
        refine V.topi (y := oI (some n)) rfl ?_
        refine Vs_r_sibling (f := va_up (gP (τ1) 5) n ((cl u)[i + 1]?)) (i := (cl u).getD i 0) (x := some n) X (by omega) dX12_plant_158 rfl ?_
        exact V.vret X rfl hA hk ht hQ rfl dX12_plant_159 (⟨rfl, _, rfl, by rw [ecp]; exact hlk, hxl.tr hx1⟩)
    have LP : ∀ (w i : Nat), i + w = (cl u).length → (sr = true → ∀ j, j < i → ¬ m < mN ((cl u).getD j 0)) → V Z (rw (zG Z) a τ1) [(9, .int (oI ((cl u)[i]?))), (8, .int (oI (if i = 0 then none else (cl u)[i - 1]?))), (0, .ref (a 0)), (3, .long m), (5, .int (nI u)), (6, .int (bI sr)), (7, .int (nI n))] 84 [] := by
      have hmk : ∀ j, j < (cl u).length → va_up mN n m ((cl u).getD j 0) = mN ((cl u).getD j 0) := fun j hj => va_up_ne _ _ (by have := (hch j _ (gD hj)).1; omega)
      intro w
      induction w with
      | zero =>
        intro i hi hs
        have hno : (cl u)[i]? = none := List.getElem?_eq_none (by omega)
        refine V.eql (lv' := [(9, .int (-1)), (8, .int (oI (if i = 0 then none else (cl u)[i - 1]?))), (0, .ref (a 0)), (3, .long m), (5, .int (nI u)), (6, .int (bI sr)), (7, .int (nI n))]) (by rw [hno]; rfl) ?_
        refine V.iload X 0 dX12_plant_84 rfl ?_
        refine V.iconst X (v := -1) dX12_plant_86 (by decide) ?_
        refine V.icmp_eq X 123 dX12_plant_87 (by decide) (fun c87 => ?_) (fun c87 => by exfalso; exact absurd rfl c87)
        refine V.eql (lv' := [(9, .int (oI ((cl u)[i]?))), (8, .int (oI (if i = 0 then none else (cl u)[i - 1]?))), (0, .ref (a 0)), (3, .long m), (5, .int (nI u)), (6, .int (bI sr)), (7, .int (nI n))]) (by rw [hno]; rfl) ?_
        refine V.sub [0, 1, 2, 3, 4, 5, 6] rfl (LE i (by omega) ?_)
        rw [insP]; split
        · refine insL_first (by omega) (fun j hj => ?_) (Or.inl (by omega))
          rw [va_up_self, hmk j (by omega)]; exact hs (by assumption) j hj
        · rw [List.take_of_length_le (by omega), List.drop_eq_nil_of_le (by omega)]
      | succ w ih =>
        intro i hi hs
        have hg : (cl u)[i]? = some ((cl u).getD i 0) := gD (by omega)
        obtain ⟨w1, w2, w3⟩ := hch i _ hg
        refine V.eql (lv' := [(9, .int (nI ((cl u).getD i 0))), (8, .int (oI (if i = 0 then none else (cl u)[i - 1]?))), (0, .ref (a 0)), (3, .long m), (5, .int (nI u)), (6, .int (bI sr)), (7, .int (nI n))]) (by rw [hg]; rfl) ?_
        refine V.iload X 0 dX12_plant_84 rfl ?_
        refine V.iconst X (v := -1) dX12_plant_86 (by decide) ?_
        refine V.icmp_eq X 123 dX12_plant_87 (by decide) (fun c87 => by exfalso; exact nI_nm1 (by omega) c87) (fun c87 => ?_)
        refine V.iload X 5 dX12_plant_90 rfl ?_
        refine V.if_eqB X 107 dX12_plant_92 (by decide) (fun c92 => ?_) (fun c92 => ?_)
        · refine V.iload X 0 dX12_plant_107 rfl ?_
          refine V.istore X (lv' := [(8, .int (nI ((cl u).getD i 0))), (9, .int (nI ((cl u).getD i 0))), (0, .ref (a 0)), (3, .long m), (5, .int (nI u)), (6, .int (bI sr)), (7, .int (nI n))]) dX12_plant_109 (ltn hn (by decide)) rfl ?_
          refine V.eql (lv' := [(8, .int (oI (if i + 1 = 0 then none else (cl u)[i + 1 - 1]?))), (9, .int (nI ((cl u).getD i 0))), (0, .ref (a 0)), (3, .long m), (5, .int (nI u)), (6, .int (bI sr)), (7, .int (nI n))]) (by rw [if_neg (by omega), Nat.add_sub_cancel, hg]; rfl) ?_
          refine V.aload_n X 2 dX12_plant_111 rfl rfl ?_
          refine Vg_r_0_sibling X tw_863 dX12_plant_112 ?_
          refine V.iload X 1 dX12_plant_115 rfl ?_
          refine Va_r_sibling (x := gP (τ1) 5 ((cl u).getD i 0)) X (by omega) dX12_plant_117 rfl ?_
          refine V.topi (y := oI (cl u)[i + 1]?) (by rw [w2]) ?_
          refine V.istore X (lv' := [(9, .int (oI ((cl u)[i + 1]?))), (8, .int (oI (if i + 1 = 0 then none else (cl u)[i + 1 - 1]?))), (0, .ref (a 0)), (3, .long m), (5, .int (nI u)), (6, .int (bI sr)), (7, .int (nI n))]) dX12_plant_118 (ltn hn (by decide)) rfl ?_
          refine V.goto X 84 dX12_plant_120 (by decide) ?_
          refine V.sub [0, 1, 2, 3, 4, 5, 6] rfl (ih (i + 1) (by omega) (fun z => by rw [c92] at z; cases z))
        · refine V.aload_n X 2 dX12_plant_95 rfl rfl ?_
          refine Vg_r_0_nodeMark X tw_861 dX12_plant_96 ?_
          refine V.iload X 0 dX12_plant_99 rfl ?_
          refine Va_r_nodeMark (x := gL (τ1) 2 ((cl u).getD i 0)) X (by omega) dX12_plant_101 rfl ?_
          refine V.topl (y := mN ((cl u).getD i 0)) (by rw [w3]) ?_
          refine V.lload_n X 3 dX12_plant_102 rfl rfl ?_
          refine V.lif_gt X 123 dX12_plant_103 dX12_plant_104 (by decide) (fun c103 => ?_) (fun c103 => ?_)
          · refine V.eql (lv' := [(9, .int (oI ((cl u)[i]?))), (8, .int (oI (if i = 0 then none else (cl u)[i - 1]?))), (0, .ref (a 0)), (3, .long m), (5, .int (nI u)), (6, .int (bI sr)), (7, .int (nI n))]) (by rw [hg]; rfl) ?_
            refine V.sub [0, 1, 2, 3, 4, 5, 6] rfl (LE i (by omega) ?_)
            rw [insP, if_pos c92]
            refine insL_first (by omega) (fun j hj => ?_) (Or.inr ?_)
            · rw [va_up_self, hmk j (by omega)]; exact hs c92 j hj
            · rw [va_up_self, hmk i (by omega)]; exact c103
          · refine V.iload X 0 dX12_plant_107 rfl ?_
            refine V.istore X (lv' := [(8, .int (nI ((cl u).getD i 0))), (9, .int (nI ((cl u).getD i 0))), (0, .ref (a 0)), (3, .long m), (5, .int (nI u)), (6, .int (bI sr)), (7, .int (nI n))]) dX12_plant_109 (ltn hn (by decide)) rfl ?_
            refine V.eql (lv' := [(8, .int (oI (if i + 1 = 0 then none else (cl u)[i + 1 - 1]?))), (9, .int (nI ((cl u).getD i 0))), (0, .ref (a 0)), (3, .long m), (5, .int (nI u)), (6, .int (bI sr)), (7, .int (nI n))]) (by rw [if_neg (by omega), Nat.add_sub_cancel, hg]; rfl) ?_
            refine V.aload_n X 2 dX12_plant_111 rfl rfl ?_
            refine Vg_r_0_sibling X tw_863 dX12_plant_112 ?_
            refine V.iload X 1 dX12_plant_115 rfl ?_
            refine Va_r_sibling (x := gP (τ1) 5 ((cl u).getD i 0)) X (by omega) dX12_plant_117 rfl ?_
            refine V.topi (y := oI (cl u)[i + 1]?) (by rw [w2]) ?_
            refine V.istore X (lv' := [(9, .int (oI ((cl u)[i + 1]?))), (8, .int (oI (if i + 1 = 0 then none else (cl u)[i + 1 - 1]?))), (0, .ref (a 0)), (3, .long m), (5, .int (nI u)), (6, .int (bI sr)), (7, .int (nI n))]) dX12_plant_118 (ltn hn (by decide)) rfl ?_
            refine V.goto X 84 dX12_plant_120 (by decide) ?_
            refine V.sub [0, 1, 2, 3, 4, 5, 6] rfl (ih (i + 1) (by omega) (fun z j hj => ?_))
            by_cases e : j = i
            · rw [e]; exact c103
            · exact hs z j (by omega)
    refine V.iconst X (v := -1) dX12_plant_72 (by decide) ?_
    refine V.istore X (lv' := [(8, .int (-1)), (7, .int (nI n)), (0, .ref (a 0)), (1, .int (nI k)), (2, .int v), (3, .long m), (5, .int (nI u)), (6, .int (bI sr))]) dX12_plant_73 (ltn hn (by decide)) rfl ?_
    refine V.aload_n X 2 dX12_plant_75 rfl rfl ?_
    refine Vg_r_0_child X tw_862 dX12_plant_76 ?_
    refine V.iload X 6 dX12_plant_79 rfl ?_
    refine Va_r_child (x := gP (τ1) 4 u) X (by omega) dX12_plant_81 rfl ?_
    refine V.topi (y := oI (cl u)[0]?) (by rw [q4]) ?_
    refine V.istore X (lv' := [(9, .int (oI ((cl u)[0]?))), (8, .int (-1)), (7, .int (nI n)), (0, .ref (a 0)), (1, .int (nI k)), (2, .int v), (3, .long m), (5, .int (nI u)), (6, .int (bI sr))]) dX12_plant_82 (ltn hn (by decide)) rfl ?_
    refine V.eql (lv' := [(9, .int (oI ((cl u)[0]?))), (8, .int (oI (if 0 = 0 then none else (cl u)[0 - 1]?))), (7, .int (nI n)), (0, .ref (a 0)), (1, .int (nI k)), (2, .int v), (3, .long m), (5, .int (nI u)), (6, .int (bI sr))]) rfl ?_
    exact V.sub [0, 1, 3, 6, 7, 8, 2] rfl (LP (cl u).length 0 (by omega) (fun _ j hj => by omega))

