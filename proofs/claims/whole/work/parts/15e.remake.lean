def wrS (σ : St) : St := sB (sN σ 3 0) 1 false
def wrF (W : St) : St := if gI W 2 = 0 then (if gB W 1 = true then W else sN (sA W 12 (va_cpy (gA W 13) (gA W 12) 0 0 (gN W 3))) 2 (gN W 3)) else W
def wrR (W : St) : Int32 := if gI W 2 = 0 then (if gB W 1 = true then -4 else nI (gN W 3)) else gI W 2
set_option maxHeartbeats 4000000 in
set_option maxRecDepth 100000 in
theorem n_write (l : Launch) (G : Gx) (a : Nat → Nat) (σ : St) (d : Int32) (h1 : gN σ 1 ≤ 1500) (hgo : ∀ j, j < gN σ 1 → d = nI j → preG (wrS σ) 26 j) (hdl : ∀ j, j < gN σ 1 → d = nI j → gN (goF (wrS σ) 26 j) 3 ≤ 6000) : MM l G ⟨"NestedDeeds", "write", "(I)I"⟩ prog_1_method_15_code 3 (some .int) 257 6277 [.ref (a 0), .int d] (cw G a σ) (fun rv w => if hasD (gN σ 1) d = true then ∃ j, j < gN σ 1 ∧ d = nI j ∧ ∃ x y, rv = some (.int (wrR (goF (wrS σ) 26 j))) ∧ w = cw G a (ee (wrF (goF (wrS σ) 26 j)) x y) else rv = some (.int (-2)) ∧ w = cw G a (sI (wrS σ) 2 (-2))) := by
  refine MM.of (lv := [(0, .ref (a 0)), (1, .int d)]) (by decide +kernel) rfl (Nat.le_of_ble_eq_true rfl) ?_
  intro Z hRf hRl hl hG hn hk ht hA hQ X
  subst hG hl
  have X : XC Z "NestedDeeds" prog_1_method_15_code (some .int) := X
  have hk0 : zk Z ≤ (zR Z).cells := hk ▸ Nat.zero_le _
  have ht0 : zt Z ≤ (zR Z).slots := ht ▸ Nat.zero_le _
  rcases hh : hasD (gN σ 1) d with _ | _
  · refine V.aload_n X 0 dX11_write_0 rfl rfl ?_
    refine Vg_c_0_draft X tw_373 dX11_write_1 ?_
    refine V.callV X rfl (c_clearD (zl Z) (zG Z) a σ) cv_X11_168 rfl 9 rfl rfl (len hRf (by decide)) (len hRl (by decide)) hk0 ht0 [] rfl (Nat.le_of_ble_eq_true rfl) dX11_write_4 ?_
    rintro _ _ ⟨rfl, rfl⟩
    refine V.eqs (st' := []) rfl ?_
    refine V.eqw (ws' := cw (zG Z) a (wrS σ)) rfl ?_
    refine V.aload_n X 0 dX11_write_7 rfl rfl ?_
    refine Vg_c_0_walker X tw_375 dX11_write_8 ?_
    refine V.aload_n X 0 dX11_write_11 rfl rfl ?_
    refine Vg_c_0_writing X tw_381 dX11_write_12 ?_
    refine V.iload_n X 1 dX11_write_15 rfl rfl ?_
    refine V.callV X rfl (w_go (zl Z) (zG Z) a (wrS σ) 26 d (h1) hgo) cv_X11_146 rfl 15 rfl rfl (len hRf (by decide)) (len hRl (by decide)) hk0 ht0 [] rfl (Nat.le_of_ble_eq_true rfl) dX11_write_16 ?_
    rintro rv w hw; rw [if_neg (show ¬ hasD (gN (wrS σ) 1) d = true from fun q => absurd (q.symm.trans hh) (by decide))] at hw; obtain ⟨rfl, rfl⟩ := hw
    refine V.eqs (st' := [.int (-2)]) rfl ?_
    refine V.istore_n X (lv' := [(2, .int (-2)), (0, .ref (a 0)), (1, .int d)]) dX11_write_19 rfl (ltn hn (by decide)) rfl ?_
    refine V.iload_n X 0 dX11_write_20 rfl rfl ?_
    refine V.if_eq X 26 dX11_write_21 (by decide) (fun c21 => by exfalso; exact absurd c21 (by decide)) (fun c21 => ?_)
    refine V.iload_n X 0 dX11_write_24 rfl rfl ?_
    exact V.iret X rfl hA hk ht hQ rfl dX11_write_25 (by rw [if_neg (by rw [hh]; decide)]; exact ⟨rfl, rfl⟩)
  · refine V.aload_n X 0 dX11_write_0 rfl rfl ?_
    refine Vg_c_0_draft X tw_373 dX11_write_1 ?_
    refine V.callV X rfl (c_clearD (zl Z) (zG Z) a σ) cv_X11_168 rfl 9 rfl rfl (len hRf (by decide)) (len hRl (by decide)) hk0 ht0 [] rfl (Nat.le_of_ble_eq_true rfl) dX11_write_4 ?_
    rintro _ _ ⟨rfl, rfl⟩
    refine V.eqs (st' := []) rfl ?_
    refine V.eqw (ws' := cw (zG Z) a (wrS σ)) rfl ?_
    refine V.aload_n X 0 dX11_write_7 rfl rfl ?_
    refine Vg_c_0_walker X tw_375 dX11_write_8 ?_
    refine V.aload_n X 0 dX11_write_11 rfl rfl ?_
    refine Vg_c_0_writing X tw_381 dX11_write_12 ?_
    refine V.iload_n X 1 dX11_write_15 rfl rfl ?_
    refine V.callV X rfl (w_go (zl Z) (zG Z) a (wrS σ) 26 d (h1) hgo) cv_X11_146 rfl 15 rfl rfl (len hRf (by decide)) (len hRl (by decide)) hk0 ht0 [] rfl (Nat.le_of_ble_eq_true rfl) dX11_write_16 ?_
    rintro rv w hw; rw [if_pos (show hasD (gN (wrS σ) 1) d = true from hh)] at hw; obtain ⟨j, hj, hje, x, y, rfl, rfl⟩ := hw
    refine V.eqs (st' := [.int (gI (goF (wrS σ) 26 j) 2)]) rfl ?_
    refine V.istore_n X (lv' := [(2, .int (gI (goF (wrS σ) 26 j) 2)), (0, .ref (a 0)), (1, .int d)]) dX11_write_19 rfl (ltn hn (by decide)) rfl ?_
    refine V.iload_n X 0 dX11_write_20 rfl rfl ?_
    refine V.if_eq X 26 dX11_write_21 (by decide) (fun c21 => ?_) (fun c21 => ?_)
    · refine V.aload_n X 1 dX11_write_26 rfl rfl ?_
      refine Vg_c_0_draft X tw_373 dX11_write_27 ?_
      refine Vg_c_9_overfull (x := gB (ee (goF (wrS σ) 26 j) x y) 1) X tw_130 dX11_write_30 rfl ?_
      refine V.if_eqB X 39 dX11_write_33 (by decide) (fun c33 => ?_) (fun c33 => ?_)
      · refine V.aload_n X 1 dX11_write_39 rfl rfl ?_
        refine Vg_c_0_paper X tw_372 dX11_write_40 ?_
        refine V.aload_n X 1 dX11_write_43 rfl rfl ?_
        refine Vg_c_0_draft X tw_373 dX11_write_44 ?_
        refine V.callV X rfl (c_become (zl Z) (zG Z) a (ee (goF (wrS σ) 26 j) x y) (by exact hdl j hj hje)) cv_X11_174 rfl 7 rfl rfl (len hRf (by decide)) (len hRl (by decide)) hk0 ht0 [] rfl (Nat.le_of_ble_eq_true rfl) dX11_write_47 ?_
        rintro _ _ ⟨rfl, rfl⟩
        refine V.eqs (st' := []) rfl ?_
        refine V.aload_n X 1 dX11_write_50 rfl rfl ?_
        refine Vg_c_0_paper X tw_372 dX11_write_51 ?_
        refine Vg_c_7_length (x := gN (ee (goF (wrS σ) 26 j) x y) 3) X tw_127 dX11_write_54 rfl ?_
        exact V.iret X rfl hA hk ht hQ rfl dX11_write_57 (by rw [if_pos hh]; exact ⟨j, hj, hje, x, y, by rw [wrR, if_pos c21, if_neg (show ¬ gB (goF (wrS σ) 26 j) 1 = true by rw [show gB (goF (wrS σ) 26 j) 1 = false from c33]; decide)]; rfl, by rw [wrF, if_pos c21, if_neg (show ¬ gB (goF (wrS σ) 26 j) 1 = true by rw [show gB (goF (wrS σ) 26 j) 1 = false from c33]; decide), ← ee_sN (by decide), ← ee_sA]; rfl⟩)
      · refine V.bipush X (v := (-4)) dX11_write_36 (by decide) ?_
        exact V.iret X rfl hA hk ht hQ rfl dX11_write_38 (by rw [if_pos hh]; exact ⟨j, hj, hje, x, y, by rw [wrR, if_pos c21, if_pos (show gB (goF (wrS σ) 26 j) 1 = true from c33)], by rw [wrF, if_pos c21, if_pos (show gB (goF (wrS σ) 26 j) 1 = true from c33)]⟩)
    · refine V.iload_n X 0 dX11_write_24 rfl rfl ?_
      exact V.iret X rfl hA hk ht hQ rfl dX11_write_25 (by rw [if_pos hh]; exact ⟨j, hj, hje, x, y, by rw [wrR, if_neg c21], by rw [wrF, if_neg c21]⟩)

def bcS (σ : St) (m : Int32) : St := sN (sB (sB (sI σ 6 m) 3 false) 4 false) 15 0
def mkS (ρ : St) (o : Bool) (m : Nat → Int64) : St := if o = true then sL (sA (sB (sB ρ 3 true) 4 true) 11 (va_cpy (gA ρ 2) (gA ρ 11) 0 0 (gA ρ 1 (gN ρ 1)))) 2 m else sB (sB ρ 3 true) 4 false
def rmRoom (W : St) : Prop := gN W 1 + gN W 15 ≤ 1500 ∧ gA W 1 (gN W 1) + (gN W 15 - 1) ≤ 4000
/-- what remake asks -/
def preR (σ : St) (m : Int32) (o : Bool) (j : Nat) : Prop := preG (bcS σ m) 28 j ∧ (gI (goF (bcS σ m) 28 j) 2 = 0 → DOK (goF (bcS σ m) 28 j) ∧ gN (goF (bcS σ m) 28 j) 1 = gN σ 1 ∧ 1 ≤ gN (goF (bcS σ m) 28 j) 15 ∧ gN (goF (bcS σ m) 28 j) 15 ≤ 100000 ∧
  (∀ d, d ≤ j → ∀ i, i < npt (goF (bcS σ m) 28 j) d → gA (goF (bcS σ m) 28 j) 2 (gA (goF (bcS σ m) 28 j) 1 d + i) < d) ∧
  (rmRoom (goF (bcS σ m) 28 j) → ∀ x y mk, (o = true → mkOK (goF (bcS σ m) 28 j) mk (j + 1)) → preG (mkS (ee (goF (bcS σ m) 28 j) x y) o mk) 28 j))
/-- how remake ends -/
def rmP (G : Gx) (a : Nat → Nat) (σ : St) (m : Int32) (o : Bool) (j : Nat) (rv : Option Value) (w : va_W) : Prop :=
  (¬ gI (goF (bcS σ m) 28 j) 2 = 0 → rv = some (.int (gI (goF (bcS σ m) 28 j) 2)) ∧ ∃ x y, w = cw G a (ee (goF (bcS σ m) 28 j) x y)) ∧
  (gI (goF (bcS σ m) 28 j) 2 = 0 → ¬ rmRoom (goF (bcS σ m) 28 j) → rv = some (.int (-4)) ∧ ∃ x y, w = cw G a (ee (goF (bcS σ m) 28 j) x y)) ∧
  (gI (goF (bcS σ m) 28 j) 2 = 0 → rmRoom (goF (bcS σ m) 28 j) → ∃ x y mk x2 y2, (o = true → mkOK (goF (bcS σ m) 28 j) mk (j + 1)) ∧ rv = some (.int (nI (gA (goF (mkS (ee (goF (bcS σ m) 28 j) x y) o mk) 28 j) 3 0))) ∧ w = cw G a (ee (sN (goF (mkS (ee (goF (bcS σ m) 28 j) x y) o mk) 28 j) 0 0) x2 y2))
def rmQ (G : Gx) (a : Nat → Nat) (σ : St) (d m : Int32) (o : Bool) (rv : Option Value) (w : va_W) : Prop :=
  if hasD (gN σ 1) d = true then ∃ j, j < gN σ 1 ∧ d = nI j ∧ rmP G a σ m o j rv w else rv = some (.int (-2)) ∧ w = cw G a (sI (bcS σ m) 2 (-2))

theorem mkS_1 (ρ : St) (o : Bool) (m : Nat → Int64) : gN (mkS ρ o m) 1 = gN ρ 1 := by simp only [mkS]; split <;> rfl
set_option maxHeartbeats 4000000 in
set_option maxRecDepth 100000 in
theorem n_remake (l : Launch) (G : Gx) (a : Nat → Nat) (σ : St) (d m : Int32) (o : Bool) (h1 : gN σ 1 ≤ 1500) (hgo : ∀ j, j < gN σ 1 → d = nI j → preR σ m o j) : MM l G ⟨"NestedDeeds", "remake", "(IIZ)I"⟩ prog_1_method_21_code 5 (some .int) 257 6277 [.ref (a 0), .int d, .int m, .int (bI o)] (cw G a σ) (rmQ G a σ d m o) := by
  refine MM.of (lv := [(0, .ref (a 0)), (1, .int d), (2, .int m), (3, .int (bI o))]) (by decide +kernel) rfl (Nat.le_of_ble_eq_true rfl) ?_
  intro Z hRf hRl hl hG hn hk ht hA hQ X
  subst hG hl
  have X : XC Z "NestedDeeds" prog_1_method_21_code (some .int) := X
  have hk0 : zk Z ≤ (zR Z).cells := hk ▸ Nat.zero_le _
  have ht0 : zt Z ≤ (zR Z).slots := ht ▸ Nat.zero_le _
  rcases hh : hasD (gN σ 1) d with _ | _
  · refine V.aload_n X 0 dX11_remake_0 rfl rfl ?_
    refine Vg_c_0_copying X tw_383 dX11_remake_1 ?_
    refine V.iload_n X 2 dX11_remake_4 rfl rfl ?_
    refine V.callV X rfl (t28_beginCounting (zl Z) (zG Z) a σ m) cv_X11_195 rfl 28 rfl rfl (len hRf (by decide)) (len hRl (by decide)) hk0 ht0 [] rfl (Nat.le_of_ble_eq_true rfl) dX11_remake_5 ?_
    rintro _ _ ⟨rfl, rfl⟩
    refine V.eqs (st' := []) rfl ?_
    refine V.eqw (ws' := cw (zG Z) a (bcS σ m)) rfl ?_
    refine V.aload_n X 0 dX11_remake_8 rfl rfl ?_
    refine Vg_c_0_walker X tw_375 dX11_remake_9 ?_
    refine V.aload_n X 0 dX11_remake_12 rfl rfl ?_
    refine Vg_c_0_copying X tw_383 dX11_remake_13 ?_
    refine V.iload_n X 1 dX11_remake_16 rfl rfl ?_
    refine V.callV X rfl (w_go (zl Z) (zG Z) a (bcS σ m) 28 d (h1) (fun j a b => (hgo j a b).1)) cv_X11_146 rfl 15 rfl rfl (len hRf (by decide)) (len hRl (by decide)) hk0 ht0 [] rfl (Nat.le_of_ble_eq_true rfl) dX11_remake_17 ?_
    rintro rv w hw; rw [if_neg (show ¬ hasD (gN (bcS σ m) 1) d = true from fun q => absurd (q.symm.trans hh) (by decide))] at hw; obtain ⟨rfl, rfl⟩ := hw
    refine V.eqs (st' := [.int (-2)]) rfl ?_
    refine V.istore X (lv' := [(4, .int (-2)), (0, .ref (a 0)), (1, .int d), (2, .int m), (3, .int (bI o))]) dX11_remake_20 (ltn hn (by decide)) rfl ?_
    refine V.iload X 0 dX11_remake_22 rfl ?_
    refine V.if_eq X 30 dX11_remake_24 (by decide) (fun c24 => by exfalso; exact absurd c24 (by decide)) (fun c24 => ?_)
    refine V.iload X 0 dX11_remake_27 rfl ?_
    exact V.iret X rfl hA hk ht hQ rfl dX11_remake_29 (by rw [rmQ, if_neg (by rw [hh]; decide)]; exact ⟨rfl, rfl⟩)
  · refine V.aload_n X 0 dX11_remake_0 rfl rfl ?_
    refine Vg_c_0_copying X tw_383 dX11_remake_1 ?_
    refine V.iload_n X 2 dX11_remake_4 rfl rfl ?_
    refine V.callV X rfl (t28_beginCounting (zl Z) (zG Z) a σ m) cv_X11_195 rfl 28 rfl rfl (len hRf (by decide)) (len hRl (by decide)) hk0 ht0 [] rfl (Nat.le_of_ble_eq_true rfl) dX11_remake_5 ?_
    rintro _ _ ⟨rfl, rfl⟩
    refine V.eqs (st' := []) rfl ?_
    refine V.eqw (ws' := cw (zG Z) a (bcS σ m)) rfl ?_
    refine V.aload_n X 0 dX11_remake_8 rfl rfl ?_
    refine Vg_c_0_walker X tw_375 dX11_remake_9 ?_
    refine V.aload_n X 0 dX11_remake_12 rfl rfl ?_
    refine Vg_c_0_copying X tw_383 dX11_remake_13 ?_
    refine V.iload_n X 1 dX11_remake_16 rfl rfl ?_
    refine V.callV X rfl (w_go (zl Z) (zG Z) a (bcS σ m) 28 d (h1) (fun j a b => (hgo j a b).1)) cv_X11_146 rfl 15 rfl rfl (len hRf (by decide)) (len hRl (by decide)) hk0 ht0 [] rfl (Nat.le_of_ble_eq_true rfl) dX11_remake_17 ?_
    rintro rv w hw; rw [if_pos (show hasD (gN (bcS σ m) 1) d = true from hh)] at hw; obtain ⟨j, hj, hje, x, y, rfl, rfl⟩ := hw
    refine V.eqs (st' := [.int (gI (goF (bcS σ m) 28 j) 2)]) rfl ?_
    refine V.istore X (lv' := [(4, .int (gI (goF (bcS σ m) 28 j) 2)), (0, .ref (a 0)), (1, .int d), (2, .int m), (3, .int (bI o))]) dX11_remake_20 (ltn hn (by decide)) rfl ?_
    refine V.iload X 0 dX11_remake_22 rfl ?_
    refine V.if_eq X 30 dX11_remake_24 (by decide) (fun c24 => ?_) (fun c24 => ?_)
    · have hj : j < gN σ 1 := hj
      obtain ⟨g1, g2, g3, g4, g5, g6⟩ := (hgo j hj hje).2 c24
      subst hje
      refine V.aload_n X 1 dX11_remake_30 rfl rfl ?_
      refine Vg_c_0_deeds X tw_371 dX11_remake_31 ?_
      refine V.aload_n X 1 dX11_remake_34 rfl rfl ?_
      refine Vg_c_0_copying X tw_383 dX11_remake_35 ?_
      refine Vg_c_28_kept (x := gN (goF (bcS σ m) 28 j) 15) X tw_294 dX11_remake_38 rfl ?_
      refine V.aload_n X 1 dX11_remake_41 rfl rfl ?_
      refine Vg_c_0_copying X tw_383 dX11_remake_42 ?_
      refine Vg_c_28_kept (x := gN (goF (bcS σ m) 28 j) 15) X tw_294 dX11_remake_45 rfl ?_
      refine V.iconst X (v := nI 1) dX11_remake_48 (by decide) ?_
      refine V.isubN X dX11_remake_49 (by omega) ?_
      refine V.callV X rfl (c_hasRoom (zl Z) (zG Z) a (ee (goF (bcS σ m) 28 j) x y) (gN (goF (bcS σ m) 28 j) 15) ((gN (goF (bcS σ m) 28 j) 15) - 1) (by exact g1.1) (by exact g1.2.1) (by omega) (by omega)) cv_X11_105 rfl 1 rfl rfl (len hRf (by decide)) (len hRl (by decide)) hk0 ht0 [] rfl (Nat.le_of_ble_eq_true rfl) dX11_remake_50 ?_
      rintro _ _ ⟨rfl, rfl⟩
      refine V.eqs (st' := [.int (bI (decide ((gN (goF (bcS σ m) 28 j) 1) + (gN (goF (bcS σ m) 28 j) 15) ≤ 1500 ∧ (gA (goF (bcS σ m) 28 j) 1) (gN (goF (bcS σ m) 28 j) 1) + ((gN (goF (bcS σ m) 28 j) 15) - 1) ≤ 4000)))]) rfl ?_
      refine V.if_neB X 59 dX11_remake_53 (by decide) (fun c53 => ?_) (fun c53 => ?_)
      · have hrm : rmRoom (goF (bcS σ m) 28 j) := of_decide_eq_true (p := gN (goF (bcS σ m) 28 j) 1 + gN (goF (bcS σ m) 28 j) 15 ≤ 1500 ∧ gA (goF (bcS σ m) 28 j) 1 (gN (goF (bcS σ m) 28 j) 1) + (gN (goF (bcS σ m) 28 j) 15 - 1) ≤ 4000) c53
        refine V.aload_n X 1 dX11_remake_59 rfl rfl ?_
        refine Vg_c_0_copying X tw_383 dX11_remake_60 ?_
        refine V.iload_n X 2 dX11_remake_63 rfl rfl ?_
        refine V.iload_n X 4 dX11_remake_64 rfl rfl ?_
        refine V.callV X rfl (t28_beginMaking (zl Z) (zG Z) a (ee (goF (bcS σ m) 28 j) x y) j o g1.1 g1.2.1 (by omega) (fun d hd => (g1.2.2 d (by show d < gN (goF (bcS σ m) 28 j) 1; omega)).1) g5) cv_X11_201 rfl 28 rfl rfl (len hRf (by decide)) (len hRl (by decide)) hk0 ht0 [] rfl (Nat.le_of_ble_eq_true rfl) dX11_remake_65 ?_
        rintro rv w ⟨rfl, hbm⟩
        refine V.eqs (st' := []) rfl ?_
        obtain ⟨mk, hmk, rfl⟩ : ∃ mk : Nat → Int64, (o = true → mkOK (goF (bcS σ m) 28 j) mk (j + 1)) ∧ w = cw (zG Z) a (mkS (ee (goF (bcS σ m) 28 j) x y) o mk) := by
          cases o with
          | false => exact ⟨fun _ => 0, (fun q => by cases q), hbm⟩
          | true => obtain ⟨mk, q1, q2⟩ := hbm; exact ⟨mk, fun _ => q2, q1⟩
        have hh2 : hasD (gN (mkS (ee (goF (bcS σ m) 28 j) x y) o mk) 1) (nI j) = true := by rw [mkS_1]; show hasD (gN (goF (bcS σ m) 28 j) 1) (nI j) = true; rw [g2]; exact hh
        have h1b : gN (mkS (ee (goF (bcS σ m) 28 j) x y) o mk) 1 ≤ 1500 := by rw [mkS_1]; show gN (goF (bcS σ m) 28 j) 1 ≤ 1500; omega
        refine V.aload_n X 1 dX11_remake_68 rfl rfl ?_
        refine Vg_c_0_walker X tw_375 dX11_remake_69 ?_
        refine V.aload_n X 1 dX11_remake_72 rfl rfl ?_
        refine Vg_c_0_copying X tw_383 dX11_remake_73 ?_
        refine V.iload_n X 2 dX11_remake_76 rfl rfl ?_
        refine V.callV X rfl (w_go (zl Z) (zG Z) a (mkS (ee (goF (bcS σ m) 28 j) x y) o mk) 28 (nI j) (h1b) (fun j2 a b => by have a2 : j2 < gN (goF (bcS σ m) 28 j) 1 := Nat.lt_of_lt_of_eq a (mkS_1 (ee (goF (bcS σ m) 28 j) x y) o mk); have e2 : j = j2 := (nI_eq (by omega) (by omega)).mp b; subst e2; exact g6 hrm x y mk hmk)) cv_X11_146 rfl 15 rfl rfl (len hRf (by decide)) (len hRl (by decide)) hk0 ht0 [] rfl (Nat.le_of_ble_eq_true rfl) dX11_remake_77 ?_
        rintro rv w hw; rw [if_pos hh2] at hw; obtain ⟨j3, hj3, hje3, x2, y2, rfl, rfl⟩ := hw; have hj33 : j3 < gN (goF (bcS σ m) 28 j) 1 := Nat.lt_of_lt_of_eq hj3 (mkS_1 (ee (goF (bcS σ m) 28 j) x y) o mk); obtain rfl : j = j3 := (nI_eq (by omega) (by omega)).mp hje3
        refine V.eqs (st' := [.int (gI (goF (mkS (ee (goF (bcS σ m) 28 j) x y) o mk) 28 j) 2)]) rfl ?_
        refine V.pop X dX11_remake_80 rfl ?_
        refine V.aload_n X 1 dX11_remake_81 rfl rfl ?_
        refine Vg_c_0_deeds X tw_371 dX11_remake_82 ?_
        refine V.callV X rfl (c_takeBound (zl Z) (zG Z) a (ee (goF (mkS (ee (goF (bcS σ m) 28 j) x y) o mk) 28 j) x2 y2)) cv_X11_205 rfl 1 rfl rfl (len hRf (by decide)) (len hRl (by decide)) hk0 ht0 [] rfl (Nat.le_of_ble_eq_true rfl) dX11_remake_85 ?_
        rintro _ _ ⟨rfl, rfl⟩
        refine V.eqs (st' := [.int (nI ((gA (ee (goF (mkS (ee (goF (bcS σ m) 28 j) x y) o mk) 28 j) x2 y2) 3) 0))]) rfl ?_
        exact V.iret X rfl hA hk ht hQ rfl dX11_remake_88 (by rw [rmQ, if_pos hh]; exact ⟨_, hj, rfl, fun q => absurd c24 q, fun _ q => absurd hrm q, fun _ _ => ⟨x, y, mk, x2, y2, hmk, rfl, by rw [← ee_sN (by decide)]⟩⟩)
      · refine V.bipush X (v := (-4)) dX11_remake_56 (by decide) ?_
        exact V.iret X rfl hA hk ht hQ rfl dX11_remake_58 (by rw [rmQ, if_pos hh]; exact ⟨j, hj, rfl, fun q => absurd c24 q, fun _ _ => ⟨rfl, x, y, rfl⟩, fun _ q => absurd q (show ¬ (gN (goF (bcS σ m) 28 j) 1 + gN (goF (bcS σ m) 28 j) 15 ≤ 1500 ∧ gA (goF (bcS σ m) 28 j) 1 (gN (goF (bcS σ m) 28 j) 1) + (gN (goF (bcS σ m) 28 j) 15 - 1) ≤ 4000) from of_decide_eq_false c53)⟩)
    · refine V.iload X 0 dX11_remake_27 rfl ?_
      exact V.iret X rfl hA hk ht hQ rfl dX11_remake_29 (by rw [rmQ, if_pos hh]; exact ⟨j, hj, hje, fun _ => ⟨rfl, x, y, rfl⟩, fun q => absurd q c24, fun q => absurd q c24⟩)

theorem rmQ_int {G : Gx} {a : Nat → Nat} {σ : St} {d m : Int32} {o : Bool} {rv : Option Value} {w : va_W} (h : rmQ G a σ d m o rv w) : ∃ r : Int32, rv = some (.int r) := by
  by_cases hh : hasD (gN σ 1) d = true
  · rw [rmQ, if_pos hh] at h
    obtain ⟨j, -, -, h1, h2, h3⟩ := h
    by_cases q : gI (goF (bcS σ m) 28 j) 2 = 0
    · by_cases q2 : rmRoom (goF (bcS σ m) 28 j)
      · obtain ⟨x, y, mk, x2, y2, -, e, -⟩ := h3 q q2; exact ⟨_, e⟩
      · exact ⟨_, (h2 q q2).1⟩
    · exact ⟨_, (h1 q).1⟩
  · rw [rmQ, if_neg hh] at h; exact ⟨_, h.1⟩
set_option maxHeartbeats 4000000 in
set_option maxRecDepth 100000 in
theorem n_copy (l : Launch) (G : Gx) (a : Nat → Nat) (σ : St) (d : Int32) (h1 : gN σ 1 ≤ 1500) (hgo : ∀ j, j < gN σ 1 → d = nI j → preR σ (nI 2147483647) false j) : MM l G ⟨"NestedDeeds", "copy", "(I)I"⟩ prog_1_method_18_code 2 (some .int) 258 6301 [.ref (a 0), .int d] (cw G a σ) (rmQ G a σ d (nI 2147483647) false) := by
  refine MM.of (lv := [(0, .ref (a 0)), (1, .int d)]) (by decide +kernel) rfl (Nat.le_of_ble_eq_true rfl) ?_
  intro Z hRf hRl hl hG hn hk ht hA hQ X
  subst hG hl
  have X : XC Z "NestedDeeds" prog_1_method_18_code (some .int) := X
  have hk0 : zk Z ≤ (zR Z).cells := hk ▸ Nat.zero_le _
  have ht0 : zt Z ≤ (zR Z).slots := ht ▸ Nat.zero_le _
  refine V.aload_n X 0 dX11_copy_0 rfl rfl ?_
  refine V.iload_n X 1 dX11_copy_1 rfl rfl ?_
  refine V.ldc X dX11_copy_2 tw_718 ?_
  refine V.topi (y := nI 2147483647) (by decide) ?_
  refine V.iconst X (v := nI 0) dX11_copy_4 (by decide) ?_
  refine V.topi (y := bI false) rfl ?_
  refine V.callV X rfl (n_remake (zl Z) (zG Z) a σ d (nI 2147483647) false h1 hgo) cv_X11_191 rfl 0 rfl rfl (len hRf (by decide)) (len hRl (by decide)) hk0 ht0 [] rfl (Nat.le_of_ble_eq_true rfl) dX11_copy_5 ?_
  rintro rv w hw
  obtain ⟨r, rfl⟩ := rmQ_int hw
  refine V.eqs (st' := [.int r]) rfl ?_
  exact V.iret X rfl hA hk ht hQ rfl dX11_copy_8 hw

set_option maxHeartbeats 4000000 in
set_option maxRecDepth 100000 in
theorem n_thin (l : Launch) (G : Gx) (a : Nat → Nat) (σ : St) (d t : Int32) (h1 : gN σ 1 ≤ 1500) (hgo : ∀ j, j < gN σ 1 → d = nI j → preR σ t false j) : MM l G ⟨"NestedDeeds", "thin", "(II)I"⟩ prog_1_method_19_code 3 (some .int) 258 6301 [.ref (a 0), .int d, .int t] (cw G a σ) (rmQ G a σ d t false) := by
  refine MM.of (lv := [(0, .ref (a 0)), (1, .int d), (2, .int t)]) (by decide +kernel) rfl (Nat.le_of_ble_eq_true rfl) ?_
  intro Z hRf hRl hl hG hn hk ht hA hQ X
  subst hG hl
  have X : XC Z "NestedDeeds" prog_1_method_19_code (some .int) := X
  have hk0 : zk Z ≤ (zR Z).cells := hk ▸ Nat.zero_le _
  have ht0 : zt Z ≤ (zR Z).slots := ht ▸ Nat.zero_le _
  refine V.aload_n X 0 dX11_thin_0 rfl rfl ?_
  refine V.iload_n X 1 dX11_thin_1 rfl rfl ?_
  refine V.iload_n X 2 dX11_thin_2 rfl rfl ?_
  refine V.iconst X (v := nI 0) dX11_thin_3 (by decide) ?_
  refine V.topi (y := bI false) rfl ?_
  refine V.callV X rfl (n_remake (zl Z) (zG Z) a σ d t false h1 hgo) cv_X11_191 rfl 0 rfl rfl (len hRf (by decide)) (len hRl (by decide)) hk0 ht0 [] rfl (Nat.le_of_ble_eq_true rfl) dX11_thin_4 ?_
  rintro rv w hw
  obtain ⟨r, rfl⟩ := rmQ_int hw
  refine V.eqs (st' := [.int r]) rfl ?_
  exact V.iret X rfl hA hk ht hQ rfl dX11_thin_7 hw

set_option maxHeartbeats 4000000 in
set_option maxRecDepth 100000 in
theorem n_order (l : Launch) (G : Gx) (a : Nat → Nat) (σ : St) (d : Int32) (h1 : gN σ 1 ≤ 1500) (hgo : ∀ j, j < gN σ 1 → d = nI j → preR σ (nI 2147483647) true j) : MM l G ⟨"NestedDeeds", "order", "(I)I"⟩ prog_1_method_20_code 2 (some .int) 258 6301 [.ref (a 0), .int d] (cw G a σ) (rmQ G a σ d (nI 2147483647) true) := by
  refine MM.of (lv := [(0, .ref (a 0)), (1, .int d)]) (by decide +kernel) rfl (Nat.le_of_ble_eq_true rfl) ?_
  intro Z hRf hRl hl hG hn hk ht hA hQ X
  subst hG hl
  have X : XC Z "NestedDeeds" prog_1_method_20_code (some .int) := X
  have hk0 : zk Z ≤ (zR Z).cells := hk ▸ Nat.zero_le _
  have ht0 : zt Z ≤ (zR Z).slots := ht ▸ Nat.zero_le _
  refine V.aload_n X 0 dX11_order_0 rfl rfl ?_
  refine V.iload_n X 1 dX11_order_1 rfl rfl ?_
  refine V.ldc X dX11_order_2 tw_718 ?_
  refine V.topi (y := nI 2147483647) (by decide) ?_
  refine V.iconst X (v := nI 1) dX11_order_4 (by decide) ?_
  refine V.topi (y := bI true) rfl ?_
  refine V.callV X rfl (n_remake (zl Z) (zG Z) a σ d (nI 2147483647) true h1 hgo) cv_X11_191 rfl 0 rfl rfl (len hRf (by decide)) (len hRl (by decide)) hk0 ht0 [] rfl (Nat.le_of_ble_eq_true rfl) dX11_order_5 ?_
  rintro rv w hw
  obtain ⟨r, rfl⟩ := rmQ_int hw
  refine V.eqs (st' := [.int r]) rfl ?_
  exact V.iret X rfl hA hk ht hQ rfl dX11_order_8 hw

