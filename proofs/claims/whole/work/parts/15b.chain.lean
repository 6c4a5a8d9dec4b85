/-- NestedDeeds.link: the part o, i times, of deed d -/
def dAddPs (σ : St) (d : Nat) (o : Option Nat) : Nat → St
  | 0 => σ
  | i + 1 => match o with
    | none => σ
    | some p => dAddP (dAddPs σ d o i) d p
def lnkS (σ : St) (k : Nat) (v : Int32) (t : Nat) (o : Option Nat) : St := dAddPs (dAdd σ k v) (gN σ 1) o t
def chS (k : Nat) (v : Int32) (t : Nat) : Nat → St → Option Nat → St
  | 0, σ, _ => σ
  | n + 1, σ, o => chS k v t n (lnkS σ k v t o) (some (gN σ 1))
theorem dAddPs_none (σ : St) (d : Nat) : ∀ i, dAddPs σ d none i = σ
  | 0 => rfl
  | _ + 1 => rfl
theorem dAddPs_1 (σ : St) (d : Nat) (o : Option Nat) : ∀ i, gN (dAddPs σ d o i) 1 = gN σ 1
  | 0 => rfl
  | i + 1 => by
    cases o with
    | none => rfl
    | some p => exact dAddPs_1 σ d (some p) i
theorem dAddPs_e (σ : St) (d p : Nat) (hd : d + 1 = gN σ 1) : ∀ i, gA (dAddPs σ d (some p) i) 1 (d + 1) = gA σ 1 (d + 1) + i
  | 0 => rfl
  | i + 1 => by
    have h := dAddPs_1 σ d (some p) i
    show gA (dAddP (dAddPs σ d (some p) i) d p) 1 (d + 1) = _
    rw [dAddP_st, if_pos (by omega), dAddPs_e σ d p hd i]; omega
theorem dAdd_st (σ : St) (k : Nat) (v : Int32) (j : Nat) : gA (dAdd σ k v) 1 j = if j = gN σ 1 + 1 then gA σ 1 (gN σ 1) else gA σ 1 j := rfl
theorem dAdd_1 (σ : St) (k : Nat) (v : Int32) : gN (dAdd σ k v) 1 = gN σ 1 + 1 := rfl
theorem lnkS_1 (σ : St) (k : Nat) (v : Int32) (t : Nat) (o : Option Nat) : gN (lnkS σ k v t o) 1 = gN σ 1 + 1 := by rw [lnkS, dAddPs_1, dAdd_1]
def oc (o : Option Nat) : Nat := match o with
  | none => 0
  | some _ => 1
theorem lnkS_t (σ : St) (k : Nat) (v : Int32) (t : Nat) (o : Option Nat) : gA (lnkS σ k v t o) 1 (gN σ 1 + 1) = gA σ 1 (gN σ 1) + oc o * t := by
  cases o with
  | none => rw [lnkS, dAddPs_none, dAdd_st, if_pos rfl]; simp [oc]
  | some p => rw [lnkS, dAddPs_e _ _ _ rfl, dAdd_st, if_pos rfl]; simp [oc]

set_option maxHeartbeats 4000000 in
set_option maxRecDepth 100000 in
theorem n_link (l : Launch) (G : Gx) (a : Nat → Nat) (σ : St) (k : Nat) (v : Int32) (t : Nat) (o : Option Nat) (hr1 : gN σ 1 < 1500) (hr2 : gA σ 1 (gN σ 1) + oc o * t ≤ 4000) (ht1 : 1 ≤ t) (ht2 : t ≤ 4) (ho : ∀ p, o = some p → p < gN σ 1) : MM l G ⟨"NestedDeeds", "link", "(IIII)I"⟩ prog_1_method_5_code 7 (some .int) 2 84 [.ref (a 0), .int (nI k), .int v, .int (nI t), .int (oI o)] (cw G a σ) (fun rv w => rv = some (.int (nI (gN σ 1))) ∧ w = cw G a (lnkS σ k v t o)) := by
  refine MM.of (lv := [(0, .ref (a 0)), (1, .int (nI k)), (2, .int v), (3, .int (nI t)), (4, .int (oI o))]) (by decide +kernel) rfl (Nat.le_of_ble_eq_true rfl) ?_
  intro Z hRf hRl hl hG hn hk ht hA hQ X
  subst hG hl
  have X : XC Z "NestedDeeds" prog_1_method_5_code (some .int) := X
  have hk0 : zk Z ≤ (zR Z).cells := hk ▸ Nat.zero_le _
  have ht0 : zt Z ≤ (zR Z).slots := ht ▸ Nat.zero_le _
  have hop : ∀ p, o = some p → p < 1500 := fun p h => by have := ho p h; omega
  rcases o with _ | p
  · refine V.eql (lv' := [(0, .ref (a 0)), (1, .int (nI k)), (2, .int v), (3, .int (nI t)), (4, .int (-1))]) rfl ?_
    refine V.aload_n X 0 dX11_link_0 rfl rfl ?_
    refine Vg_c_0_deeds X tw_371 dX11_link_1 ?_
    refine V.iload_n X 1 dX11_link_4 rfl rfl ?_
    refine V.iload_n X 2 dX11_link_5 rfl rfl ?_
    refine V.callV X rfl (c_add (zl Z) (zG Z) a σ k v (by omega)) cv_X11_109 rfl 1 rfl rfl (len hRf (by decide)) (len hRl (by decide)) hk0 ht0 [] rfl (Nat.le_of_ble_eq_true rfl) dX11_link_6 ?_
    rintro _ _ ⟨rfl, rfl⟩
    refine V.eqs (st' := [.int (nI (gN σ 1))]) rfl ?_
    refine V.istore X (lv' := [(5, .int (nI (gN σ 1))), (0, .ref (a 0)), (1, .int (nI k)), (2, .int v), (3, .int (nI t)), (4, .int (-1))]) dX11_link_9 (ltn hn (by decide)) rfl ?_
    refine V.iconst X (v := nI 0) dX11_link_11 (by decide) ?_
    refine V.istore X (lv' := [(6, .int (nI 0)), (5, .int (nI (gN σ 1))), (0, .ref (a 0)), (1, .int (nI k)), (2, .int v), (3, .int (nI t)), (4, .int (-1))]) dX11_link_12 (ltn hn (by decide)) rfl ?_
    refine V.iload X 0 dX11_link_14 rfl ?_
    refine V.iload_n X 5 dX11_link_16 rfl rfl ?_
    refine V.icmp_geN X 43 dX11_link_17 (by decide) (by decide) (by omega) (fun c17 => by exfalso; omega) (fun c17 => ?_)
    refine V.iload X 6 dX11_link_20 rfl ?_
    refine V.iconst X (v := -1) dX11_link_22 (by decide) ?_
    refine V.icmp_eq X 43 dX11_link_23 (by decide) (fun c23 => ?_) (fun c23 => by exfalso; exact c23 rfl)
    refine V.iload X 1 dX11_link_43 rfl ?_
    exact V.iret X rfl hA hk ht hQ rfl dX11_link_45 (⟨rfl, by rw [lnkS, dAddPs_none]⟩)
  · refine V.eql (lv' := [(0, .ref (a 0)), (1, .int (nI k)), (2, .int v), (3, .int (nI t)), (4, .int (nI p))]) rfl ?_
    have LP : ∀ (m i : Nat), i + m = t → V Z (cw (zG Z) a (dAddPs (dAdd σ k v) (gN σ 1) (some p) i)) [(6, .int (nI i)), (5, .int (nI (gN σ 1))), (0, .ref (a 0)), (1, .int (nI k)), (2, .int v), (3, .int (nI t)), (4, .int (nI p))] 14 [] := by
      intro m
      induction m with
      | zero =>
        intro i hi
        refine V.iload X 0 dX11_link_14 rfl ?_
        refine V.iload_n X 5 dX11_link_16 rfl rfl ?_
        refine V.icmp_geN X 43 dX11_link_17 (by decide) (by omega) (by omega) (fun c17 => ?_) (fun c17 => by exfalso; omega)
        refine V.iload X 1 dX11_link_43 rfl ?_
        exact V.iret X rfl hA hk ht hQ rfl dX11_link_45 (⟨rfl, by rw [lnkS, show i = t by omega]⟩)
      | succ m ih =>
        intro i hi
        have e1 : gN (dAddPs (dAdd σ k v) (gN σ 1) (some p) i) 1 = gN σ 1 + 1 := by rw [dAddPs_1]; rfl
        have e2 : gA (dAddPs (dAdd σ k v) (gN σ 1) (some p) i) 1 (gN σ 1 + 1) = gA σ 1 (gN σ 1) + i := by rw [dAddPs_e _ _ _ rfl, dAdd_st, if_pos rfl]
        have hm : i < t := by omega
        have hoc : oc (some p) * t = t := by simp [oc]
        refine V.iload X 0 dX11_link_14 rfl ?_
        refine V.iload_n X 5 dX11_link_16 rfl rfl ?_
        refine V.icmp_geN X 43 dX11_link_17 (by decide) (by omega) (by omega) (fun c17 => by exfalso; omega) (fun c17 => ?_)
        refine V.iload X 6 dX11_link_20 rfl ?_
        refine V.iconst X (v := -1) dX11_link_22 (by decide) ?_
        refine V.icmp_eq X 43 dX11_link_23 (by decide) (fun c23 => by exfalso; exact nI_nm1 (by have := hop p rfl; omega) c23) (fun c23 => ?_)
        refine V.aload_n X 2 dX11_link_26 rfl rfl ?_
        refine Vg_c_0_deeds X tw_371 dX11_link_27 ?_
        refine V.iload X 1 dX11_link_30 rfl ?_
        refine V.iload X 6 dX11_link_32 rfl ?_
        refine V.callV X rfl (c_addPart (zl Z) (zG Z) a (dAddPs (dAdd σ k v) (gN σ 1) (some p) i) (gN σ 1) p (by rw [e1]; omega) (by rw [e1]; omega) (by rw [e1]; exact Nat.le_refl _) (by rw [e1, e2]; omega)) cv_X11_116 rfl 1 rfl rfl (len hRf (by decide)) (len hRl (by decide)) hk0 ht0 [] rfl (Nat.le_of_ble_eq_true rfl) dX11_link_34 ?_
        rintro _ _ ⟨rfl, rfl⟩
        refine V.eqs (st' := []) rfl ?_
        refine V.iinc X (v := nI (i + 1)) (lv' := [(6, .int (nI (i + 1))), (5, .int (nI (gN σ 1))), (0, .ref (a 0)), (1, .int (nI k)), (2, .int v), (3, .int (nI t)), (4, .int (nI p))]) (k0 := 0) dX11_link_37 rfl (inc_1 _) (ltn hn (by decide)) rfl ?_
        refine V.goto X 14 dX11_link_40 (by decide) ?_
        exact V.sub [0, 1, 2, 3, 4, 5, 6] rfl (ih (i + 1) (by omega))
    refine V.aload_n X 0 dX11_link_0 rfl rfl ?_
    refine Vg_c_0_deeds X tw_371 dX11_link_1 ?_
    refine V.iload_n X 1 dX11_link_4 rfl rfl ?_
    refine V.iload_n X 2 dX11_link_5 rfl rfl ?_
    refine V.callV X rfl (c_add (zl Z) (zG Z) a σ k v (by omega)) cv_X11_109 rfl 1 rfl rfl (len hRf (by decide)) (len hRl (by decide)) hk0 ht0 [] rfl (Nat.le_of_ble_eq_true rfl) dX11_link_6 ?_
    rintro _ _ ⟨rfl, rfl⟩
    refine V.eqs (st' := [.int (nI (gN σ 1))]) rfl ?_
    refine V.istore X (lv' := [(5, .int (nI (gN σ 1))), (0, .ref (a 0)), (1, .int (nI k)), (2, .int v), (3, .int (nI t)), (4, .int (nI p))]) dX11_link_9 (ltn hn (by decide)) rfl ?_
    refine V.iconst X (v := nI 0) dX11_link_11 (by decide) ?_
    refine V.istore X (lv' := [(6, .int (nI 0)), (5, .int (nI (gN σ 1))), (0, .ref (a 0)), (1, .int (nI k)), (2, .int v), (3, .int (nI t)), (4, .int (nI p))]) dX11_link_12 (ltn hn (by decide)) rfl ?_
    exact V.sub [0, 1, 2, 3, 4, 5, 6] rfl (LP t 0 (by omega))

def fO (f : Int32) : Option Nat := if f = -1 then none else some f.toNatClampNeg
def chOK (σ : St) (n k t f : Int32) : Bool := inR n (nI 1) (nI 400) && inR t (nI 1) (nI 4) && hasD 12 k && (decide (f = -1) || hasD (gN σ 1) f)
def chNd (n t : Nat) (o : Option Nat) : Nat := (n - 1 + oc o) * t
def chRoom (σ : St) (n t : Nat) (o : Option Nat) : Prop := gN σ 1 + n ≤ 1500 ∧ gA σ 1 (gN σ 1) + chNd n t o ≤ 4000

theorem fO_lt {f : Int32} {n : Nat} (h1 : n ≤ 1500) (h : f = -1 ∨ hasD n f = true) : ∀ p, fO f = some p → p < n := by
  intro p hp
  simp only [fO] at hp
  by_cases hf : f = -1
  · rw [if_pos hf] at hp; cases hp
  · rw [if_neg hf] at hp; cases hp
    rcases h with h | h
    · exact absurd h hf
    · obtain ⟨j, hj, e⟩ := hasD_t (by omega) h
      rw [e, nI_clamp (by omega)]; exact hj
theorem fO_eq {f : Int32} {n : Nat} (h1 : n ≤ 1500) (h : f = -1 ∨ hasD n f = true) : f = oI (fO f) := by
  simp only [fO]
  by_cases hf : f = -1
  · rw [if_pos hf]; exact hf
  · rw [if_neg hf]
    rcases h with h | h
    · exact absurd h hf
    · obtain ⟨j, hj, e⟩ := hasD_t (by omega) h
      rw [e, nI_clamp (by omega)]; rfl
/-- how chain ends -/
def chP (G : Gx) (a : Nat → Nat) (σ : St) (n k v t f : Int32) (rv : Option Value) (w : va_W) : Prop :=
  if chOK σ n k t f = true then
    (chRoom σ n.toNatClampNeg t.toNatClampNeg (fO f) → rv = some (.int (nI (gN σ 1 + n.toNatClampNeg - 1))) ∧ w = cw G a (chS k.toNatClampNeg v t.toNatClampNeg n.toNatClampNeg σ (fO f))) ∧
    (¬ chRoom σ n.toNatClampNeg t.toNatClampNeg (fO f) → rv = some (.int (-4)) ∧ w = cw G a σ)
  else rv = some (.int (-2)) ∧ w = cw G a σ

set_option maxHeartbeats 4000000 in
set_option maxRecDepth 100000 in
theorem n_chain (l : Launch) (G : Gx) (a : Nat → Nat) (σ : St) (n k v t f : Int32) (hD : DOK σ) : MM l G ⟨"NestedDeeds", "chain", "(IIIII)I"⟩ prog_1_method_4_code 10 (some .int) 3 110 [.ref (a 0), .int n, .int k, .int v, .int t, .int f] (cw G a σ) (chP G a σ n k v t f) := by
  refine MM.of (lv := [(0, .ref (a 0)), (1, .int n), (2, .int k), (3, .int v), (4, .int t), (5, .int f)]) (by decide +kernel) rfl (Nat.le_of_ble_eq_true rfl) ?_
  intro Z hRf hRl hl hG hn hk ht hA hQ X
  subst hG hl
  have X : XC Z "NestedDeeds" prog_1_method_4_code (some .int) := X
  have hk0 : zk Z ≤ (zR Z).cells := hk ▸ Nat.zero_le _
  have ht0 : zt Z ≤ (zR Z).slots := ht ▸ Nat.zero_le _
  obtain ⟨h1, h2, h3⟩ := hD
  refine V.iload_n X 1 dX11_chain_0 rfl rfl ?_
  refine V.iconst X (v := nI 1) dX11_chain_1 (by decide) ?_
  refine V.icmp_lt X 28 dX11_chain_2 (by decide) (fun c2 => ?_) (fun c2 => ?_)
  · refine V.iconst X (v := nI 0) dX11_chain_28 (by decide) ?_
    refine V.istore X (lv' := [(6, .int (nI 0)), (0, .ref (a 0)), (1, .int n), (2, .int k), (3, .int v), (4, .int t), (5, .int f)]) dX11_chain_29 (ltn hn (by decide)) rfl ?_
    refine V.iload X 0 dX11_chain_31 rfl ?_
    refine V.if_eqN X 61 dX11_chain_33 (by decide) (by decide) (fun c33 => ?_) (fun c33 => by exfalso; omega)
    refine V.bipush X (v := (-2)) dX11_chain_61 (by decide) ?_
    exact V.iret X rfl hA hk ht hQ rfl dX11_chain_63 (by rw [chP, if_neg (show ¬ chOK σ n k t f = true from fun z => absurd (z.symm.trans (show chOK σ n k t f = false by rw [chOK, inR_f1 c2]; rfl)) (by decide))]; exact ⟨rfl, rfl⟩)
  · refine V.iload_n X 1 dX11_chain_5 rfl rfl ?_
    refine V.sipush X (v := nI 400) dX11_chain_6 (by decide) ?_
    refine V.icmp_gt X 28 dX11_chain_9 (by decide) (fun c9 => ?_) (fun c9 => ?_)
    · refine V.iconst X (v := nI 0) dX11_chain_28 (by decide) ?_
      refine V.istore X (lv' := [(6, .int (nI 0)), (0, .ref (a 0)), (1, .int n), (2, .int k), (3, .int v), (4, .int t), (5, .int f)]) dX11_chain_29 (ltn hn (by decide)) rfl ?_
      refine V.iload X 0 dX11_chain_31 rfl ?_
      refine V.if_eqN X 61 dX11_chain_33 (by decide) (by decide) (fun c33 => ?_) (fun c33 => by exfalso; omega)
      refine V.bipush X (v := (-2)) dX11_chain_61 (by decide) ?_
      exact V.iret X rfl hA hk ht hQ rfl dX11_chain_63 (by rw [chP, if_neg (show ¬ chOK σ n k t f = true from fun z => absurd (z.symm.trans (show chOK σ n k t f = false by rw [chOK, inR_f2 c9]; rfl)) (by decide))]; exact ⟨rfl, rfl⟩)
    · refine V.iload X 4 dX11_chain_12 rfl ?_
      refine V.iconst X (v := nI 1) dX11_chain_14 (by decide) ?_
      refine V.icmp_lt X 28 dX11_chain_15 (by decide) (fun c15 => ?_) (fun c15 => ?_)
      · refine V.iconst X (v := nI 0) dX11_chain_28 (by decide) ?_
        refine V.istore X (lv' := [(6, .int (nI 0)), (0, .ref (a 0)), (1, .int n), (2, .int k), (3, .int v), (4, .int t), (5, .int f)]) dX11_chain_29 (ltn hn (by decide)) rfl ?_
        refine V.iload X 0 dX11_chain_31 rfl ?_
        refine V.if_eqN X 61 dX11_chain_33 (by decide) (by decide) (fun c33 => ?_) (fun c33 => by exfalso; omega)
        refine V.bipush X (v := (-2)) dX11_chain_61 (by decide) ?_
        exact V.iret X rfl hA hk ht hQ rfl dX11_chain_63 (by rw [chP, if_neg (show ¬ chOK σ n k t f = true from fun z => absurd (z.symm.trans (show chOK σ n k t f = false by rw [chOK, inR_t c2 c9, inR_f1 c15]; rfl)) (by decide))]; exact ⟨rfl, rfl⟩)
      · refine V.iload X 4 dX11_chain_18 rfl ?_
        refine V.iconst X (v := nI 4) dX11_chain_20 (by decide) ?_
        refine V.icmp_gt X 28 dX11_chain_21 (by decide) (fun c21 => ?_) (fun c21 => ?_)
        · refine V.iconst X (v := nI 0) dX11_chain_28 (by decide) ?_
          refine V.istore X (lv' := [(6, .int (nI 0)), (0, .ref (a 0)), (1, .int n), (2, .int k), (3, .int v), (4, .int t), (5, .int f)]) dX11_chain_29 (ltn hn (by decide)) rfl ?_
          refine V.iload X 0 dX11_chain_31 rfl ?_
          refine V.if_eqN X 61 dX11_chain_33 (by decide) (by decide) (fun c33 => ?_) (fun c33 => by exfalso; omega)
          refine V.bipush X (v := (-2)) dX11_chain_61 (by decide) ?_
          exact V.iret X rfl hA hk ht hQ rfl dX11_chain_63 (by rw [chP, if_neg (show ¬ chOK σ n k t f = true from fun z => absurd (z.symm.trans (show chOK σ n k t f = false by rw [chOK, inR_t c2 c9, inR_f2 c21]; rfl)) (by decide))]; exact ⟨rfl, rfl⟩)
        · refine V.iconst X (v := nI 1) dX11_chain_24 (by decide) ?_
          refine V.goto X 29 dX11_chain_25 (by decide) ?_
          refine V.istore X (lv' := [(6, .int (nI 1)), (0, .ref (a 0)), (1, .int n), (2, .int k), (3, .int v), (4, .int t), (5, .int f)]) dX11_chain_29 (ltn hn (by decide)) rfl ?_
          refine V.iload X 0 dX11_chain_31 rfl ?_
          refine V.if_eqN X 61 dX11_chain_33 (by decide) (by decide) (fun c33 => by exfalso; omega) (fun c33 => ?_)
          refine V.iload_n X 3 dX11_chain_36 rfl rfl ?_
          refine V.callS X rfl (k_isKind (zl Z) (zG Z) (cw (zG Z) a σ) k) cs_X11_101 rfl (len hRf (by decide)) (len hRl (by decide)) hk0 ht0 [] rfl (Nat.le_of_ble_eq_true rfl) dX11_chain_37 ?_
          rintro _ _ ⟨rfl, rfl⟩
          refine V.eqs (st' := [.int (bI (hasD 12 k))]) rfl ?_
          refine V.if_eqB X 61 dX11_chain_40 (by decide) (fun c40 => ?_) (fun c40 => ?_)
          · refine V.bipush X (v := (-2)) dX11_chain_61 (by decide) ?_
            exact V.iret X rfl hA hk ht hQ rfl dX11_chain_63 (by rw [chP, if_neg (show ¬ chOK σ n k t f = true from fun z => absurd (z.symm.trans (show chOK σ n k t f = false by rw [chOK, inR_t c2 c9, inR_t c15 c21, c40]; rfl)) (by decide))]; exact ⟨rfl, rfl⟩)
          · refine V.iload X 6 dX11_chain_43 rfl ?_
            refine V.iconst X (v := -1) dX11_chain_45 (by decide) ?_
            refine V.icmp_eq X 64 dX11_chain_46 (by decide) (fun c46 => ?_) (fun c46 => ?_)
            · have hv : chOK σ n k t f = true := by rw [chOK, inR_t c2 c9, inR_t c15 c21, c40]; simp [c46]
              obtain ⟨n2, hn1, hn2, hne⟩ := inR_nat (by decide) (by decide) (inR_t c2 c9)
              obtain ⟨t2, ht1, ht2, hte⟩ := inR_nat (by decide) (by decide) (inR_t c15 c21)
              obtain ⟨k2, hk2, hke⟩ := hasD_t (by decide) c40
              subst hne
              subst hte
              subst hke
              have hfo : ∀ p, fO f = some p → p < gN σ 1 := fO_lt h1 (Or.inl c46)
              have hfe : f = oI (fO f) := fO_eq h1 (Or.inl c46)
              refine V.iload X 6 dX11_chain_64 rfl ?_
              refine V.iconst X (v := -1) dX11_chain_66 (by decide) ?_
              refine V.icmp_ne X 76 dX11_chain_67 (by decide) (fun c67 => ?_) (fun c67 => ?_)
              · refine V.iload_n X 2 dX11_chain_76 rfl rfl ?_
                refine V.istore X (lv' := [(7, .int (nI n2)), (6, .int (nI 1)), (0, .ref (a 0)), (1, .int (nI n2)), (2, .int (nI k2)), (3, .int v), (4, .int (nI t2)), (5, .int f)]) dX11_chain_77 (ltn hn (by decide)) rfl ?_
                have hoc : oc (fO f) = 1 := by rw [fO, if_neg c67]; rfl
                refine V.eql (lv' := [(7, .int (nI (n2 - 1 + oc (fO f)))), (6, .int (nI 1)), (0, .ref (a 0)), (1, .int (nI n2)), (2, .int (nI k2)), (3, .int v), (4, .int (nI t2)), (5, .int f)]) (by rw [hoc]; congr; try omega) ?_
                refine V.aload_n X 2 dX11_chain_79 rfl rfl ?_
                refine Vg_c_0_deeds X tw_371 dX11_chain_80 ?_
                refine V.iload_n X 3 dX11_chain_83 rfl rfl ?_
                refine V.iload X 0 dX11_chain_84 rfl ?_
                refine V.iload X 6 dX11_chain_86 rfl ?_
                refine V.imulN X dX11_chain_88 ?_
                refine V.callV X rfl (c_hasRoom (zl Z) (zG Z) a σ n2 ((n2 - 1 + oc (fO f)) * t2) (by exact h1) (by exact h2) (by omega) (by have := Nat.mul_le_mul (show n2 - 1 + oc (fO f) ≤ 400 by rw [hoc]; omega) ht2; omega)) cv_X11_105 rfl 1 rfl rfl (len hRf (by decide)) (len hRl (by decide)) hk0 ht0 [] rfl (Nat.le_of_ble_eq_true rfl) dX11_chain_89 ?_
                rintro _ _ ⟨rfl, rfl⟩
                refine V.eqs (st' := [.int (bI (decide ((gN σ 1) + n2 ≤ 1500 ∧ (gA σ 1) (gN σ 1) + ((n2 - 1 + oc (fO f)) * t2) ≤ 4000)))]) rfl ?_
                refine V.if_neB X 98 dX11_chain_92 (by decide) (fun c92 => ?_) (fun c92 => ?_)
                · have hrm : gN σ 1 + n2 ≤ 1500 ∧ gA σ 1 (gN σ 1) + (n2 - 1 + oc (fO f)) * t2 ≤ 4000 := of_decide_eq_true c92
                  have LP : ∀ (m i : Nat) (τ : St) (o : Option Nat), i + m = n2 → gN τ 1 = gN σ 1 + i → (i = 0 → o = fO f) → (0 < i → o = some (gN σ 1 + i - 1)) → (∀ p, o = some p → p < gN τ 1) → gA τ 1 (gN τ 1) + (m - 1 + oc o) * t2 ≤ 4000 ∨ m = 0 → chS k2 v t2 m τ o = chS k2 v t2 n2 σ (fO f) → V Z (cw (zG Z) a τ) [(9, .int (nI i)), (8, .int (oI o)), (0, .ref (a 0)), (1, .int (nI n2)), (2, .int (nI k2)), (3, .int v), (4, .int (nI t2))] 105 [] := by
                    intro m
                    induction m with
                    | zero =>
                      intro i τ o g1 g2 g3 g4 g5 g6 g7
                      refine V.iload X 0 dX11_chain_105 rfl ?_
                      refine V.iload_n X 3 dX11_chain_107 rfl rfl ?_
                      refine V.icmp_geN X 129 dX11_chain_108 (by decide) (by omega) (by omega) (fun c108 => ?_) (fun c108 => by exfalso; omega)
                      refine V.iload X 1 dX11_chain_129 rfl ?_
                      exact V.iret X rfl hA hk ht hQ rfl dX11_chain_131 (by rw [chP, if_pos hv, nI_clamp (by omega), nI_clamp (by omega), nI_clamp (by omega)]; exact ⟨fun _ => ⟨by rw [g4 (by omega), show i = n2 by omega]; rfl, by rw [← g7]; rfl⟩, fun z => absurd hrm z⟩)
                    | succ m ih =>
                      intro i τ o g1 g2 g3 g4 g5 g6 g7
                      have g8 : gA τ 1 (gN τ 1) + (m + oc o) * t2 ≤ 4000 := by rcases g6 with q | q; (exact q); omega
                      have g9 : (m + oc o) * t2 = m * t2 + oc o * t2 := Nat.add_mul _ _ _
                      refine V.iload X 0 dX11_chain_105 rfl ?_
                      refine V.iload_n X 3 dX11_chain_107 rfl rfl ?_
                      refine V.icmp_geN X 129 dX11_chain_108 (by decide) (by omega) (by omega) (fun c108 => by exfalso; omega) (fun c108 => ?_)
                      refine V.aload_n X 2 dX11_chain_111 rfl rfl ?_
                      refine V.iload_n X 4 dX11_chain_112 rfl rfl ?_
                      refine V.iload_n X 5 dX11_chain_113 rfl rfl ?_
                      refine V.iload X 6 dX11_chain_114 rfl ?_
                      refine V.iload X 1 dX11_chain_116 rfl ?_
                      refine V.callV X rfl (n_link (zl Z) (zG Z) a τ k2 v t2 o (by omega) (by omega) (by omega) (by omega) g5) cv_X11_124 rfl 0 rfl rfl (len hRf (by decide)) (len hRl (by decide)) hk0 ht0 [] rfl (Nat.le_of_ble_eq_true rfl) dX11_chain_118 ?_
                      rintro _ _ ⟨rfl, rfl⟩
                      refine V.eqs (st' := [.int (nI (gN τ 1))]) rfl ?_
                      refine V.istore X (lv' := [(8, .int (nI (gN τ 1))), (9, .int (nI i)), (0, .ref (a 0)), (1, .int (nI n2)), (2, .int (nI k2)), (3, .int v), (4, .int (nI t2))]) dX11_chain_121 (ltn hn (by decide)) rfl ?_
                      refine V.iinc X (v := nI (i + 1)) (lv' := [(9, .int (nI (i + 1))), (8, .int (nI (gN τ 1))), (0, .ref (a 0)), (1, .int (nI n2)), (2, .int (nI k2)), (3, .int v), (4, .int (nI t2))]) (k0 := 1) dX11_chain_123 rfl (inc_1 _) (ltn hn (by decide)) rfl ?_
                      refine V.goto X 105 dX11_chain_126 (by decide) ?_
                      refine V.eql (lv' := [(9, .int (nI (i + 1))), (8, .int (oI (some (gN τ 1)))), (0, .ref (a 0)), (1, .int (nI n2)), (2, .int (nI k2)), (3, .int v), (4, .int (nI t2))]) rfl ?_
                      exact V.sub [0, 1, 2, 3, 4, 5, 6] rfl (ih (i + 1) (lnkS τ k2 v t2 o) (some (gN τ 1)) (by omega) (by rw [lnkS_1]; omega) (by omega) (fun _ => by rw [g2]; congr 1) (fun p hp => by cases hp; rw [lnkS_1]; omega) (by rcases m with _ | m; (right; rfl); (left; rw [lnkS_1, lnkS_t]; show _ + (m + 1 - 1 + 1) * t2 ≤ 4000; rw [Nat.add_sub_cancel]; omega)) g7)
                  refine V.iload X 7 dX11_chain_98 rfl ?_
                  refine V.topi (y := oI (fO f)) hfe ?_
                  refine V.istore X (lv' := [(8, .int (oI (fO f))), (7, .int (nI (n2 - 1 + oc (fO f)))), (6, .int (nI 1)), (0, .ref (a 0)), (1, .int (nI n2)), (2, .int (nI k2)), (3, .int v), (4, .int (nI t2)), (5, .int f)]) dX11_chain_100 (ltn hn (by decide)) rfl ?_
                  refine V.iconst X (v := nI 0) dX11_chain_102 (by decide) ?_
                  refine V.istore X (lv' := [(9, .int (nI 0)), (8, .int (oI (fO f))), (7, .int (nI (n2 - 1 + oc (fO f)))), (6, .int (nI 1)), (0, .ref (a 0)), (1, .int (nI n2)), (2, .int (nI k2)), (3, .int v), (4, .int (nI t2)), (5, .int f)]) dX11_chain_103 (ltn hn (by decide)) rfl ?_
                  exact V.sub [0, 1, 4, 5, 6, 7, 8] rfl (LP n2 0 σ (fO f) (by omega) rfl (fun _ => rfl) (by omega) hfo (Or.inl hrm.2) rfl)
                · refine V.bipush X (v := (-4)) dX11_chain_95 (by decide) ?_
                  exact V.iret X rfl hA hk ht hQ rfl dX11_chain_97 (by rw [chP, if_pos hv, nI_clamp (by omega), nI_clamp (by omega)]; exact ⟨fun z => absurd z (show ¬ (gN σ 1 + n2 ≤ 1500 ∧ gA σ 1 (gN σ 1) + (n2 - 1 + oc (fO f)) * t2 ≤ 4000) from of_decide_eq_false c92), fun _ => ⟨rfl, rfl⟩⟩)
              · refine V.iload_n X 2 dX11_chain_70 rfl rfl ?_
                refine V.iconst X (v := nI 1) dX11_chain_71 (by decide) ?_
                refine V.isubN X dX11_chain_72 (by omega) ?_
                refine V.goto X 77 dX11_chain_73 (by decide) ?_
                refine V.istore X (lv' := [(7, .int (nI (n2 - 1))), (6, .int (nI 1)), (0, .ref (a 0)), (1, .int (nI n2)), (2, .int (nI k2)), (3, .int v), (4, .int (nI t2)), (5, .int f)]) dX11_chain_77 (ltn hn (by decide)) rfl ?_
                have hoc : oc (fO f) = 0 := by rw [fO, if_pos c67]; rfl
                refine V.eql (lv' := [(7, .int (nI (n2 - 1 + oc (fO f)))), (6, .int (nI 1)), (0, .ref (a 0)), (1, .int (nI n2)), (2, .int (nI k2)), (3, .int v), (4, .int (nI t2)), (5, .int f)]) (by rw [hoc]; congr; try omega) ?_
                refine V.aload_n X 2 dX11_chain_79 rfl rfl ?_
                refine Vg_c_0_deeds X tw_371 dX11_chain_80 ?_
                refine V.iload_n X 3 dX11_chain_83 rfl rfl ?_
                refine V.iload X 0 dX11_chain_84 rfl ?_
                refine V.iload X 6 dX11_chain_86 rfl ?_
                refine V.imulN X dX11_chain_88 ?_
                refine V.callV X rfl (c_hasRoom (zl Z) (zG Z) a σ n2 ((n2 - 1 + oc (fO f)) * t2) (by exact h1) (by exact h2) (by omega) (by have := Nat.mul_le_mul (show n2 - 1 + oc (fO f) ≤ 400 by rw [hoc]; omega) ht2; omega)) cv_X11_105 rfl 1 rfl rfl (len hRf (by decide)) (len hRl (by decide)) hk0 ht0 [] rfl (Nat.le_of_ble_eq_true rfl) dX11_chain_89 ?_
                rintro _ _ ⟨rfl, rfl⟩
                refine V.eqs (st' := [.int (bI (decide ((gN σ 1) + n2 ≤ 1500 ∧ (gA σ 1) (gN σ 1) + ((n2 - 1 + oc (fO f)) * t2) ≤ 4000)))]) rfl ?_
                refine V.if_neB X 98 dX11_chain_92 (by decide) (fun c92 => ?_) (fun c92 => ?_)
                · have hrm : gN σ 1 + n2 ≤ 1500 ∧ gA σ 1 (gN σ 1) + (n2 - 1 + oc (fO f)) * t2 ≤ 4000 := of_decide_eq_true c92
                  have LP : ∀ (m i : Nat) (τ : St) (o : Option Nat), i + m = n2 → gN τ 1 = gN σ 1 + i → (i = 0 → o = fO f) → (0 < i → o = some (gN σ 1 + i - 1)) → (∀ p, o = some p → p < gN τ 1) → gA τ 1 (gN τ 1) + (m - 1 + oc o) * t2 ≤ 4000 ∨ m = 0 → chS k2 v t2 m τ o = chS k2 v t2 n2 σ (fO f) → V Z (cw (zG Z) a τ) [(9, .int (nI i)), (8, .int (oI o)), (0, .ref (a 0)), (1, .int (nI n2)), (2, .int (nI k2)), (3, .int v), (4, .int (nI t2))] 105 [] := by
                    intro m
                    induction m with
                    | zero =>
                      intro i τ o g1 g2 g3 g4 g5 g6 g7
                      refine V.iload X 0 dX11_chain_105 rfl ?_
                      refine V.iload_n X 3 dX11_chain_107 rfl rfl ?_
                      refine V.icmp_geN X 129 dX11_chain_108 (by decide) (by omega) (by omega) (fun c108 => ?_) (fun c108 => by exfalso; omega)
                      refine V.iload X 1 dX11_chain_129 rfl ?_
                      exact V.iret X rfl hA hk ht hQ rfl dX11_chain_131 (by rw [chP, if_pos hv, nI_clamp (by omega), nI_clamp (by omega), nI_clamp (by omega)]; exact ⟨fun _ => ⟨by rw [g4 (by omega), show i = n2 by omega]; rfl, by rw [← g7]; rfl⟩, fun z => absurd hrm z⟩)
                    | succ m ih =>
                      intro i τ o g1 g2 g3 g4 g5 g6 g7
                      have g8 : gA τ 1 (gN τ 1) + (m + oc o) * t2 ≤ 4000 := by rcases g6 with q | q; (exact q); omega
                      have g9 : (m + oc o) * t2 = m * t2 + oc o * t2 := Nat.add_mul _ _ _
                      refine V.iload X 0 dX11_chain_105 rfl ?_
                      refine V.iload_n X 3 dX11_chain_107 rfl rfl ?_
                      refine V.icmp_geN X 129 dX11_chain_108 (by decide) (by omega) (by omega) (fun c108 => by exfalso; omega) (fun c108 => ?_)
                      refine V.aload_n X 2 dX11_chain_111 rfl rfl ?_
                      refine V.iload_n X 4 dX11_chain_112 rfl rfl ?_
                      refine V.iload_n X 5 dX11_chain_113 rfl rfl ?_
                      refine V.iload X 6 dX11_chain_114 rfl ?_
                      refine V.iload X 1 dX11_chain_116 rfl ?_
                      refine V.callV X rfl (n_link (zl Z) (zG Z) a τ k2 v t2 o (by omega) (by omega) (by omega) (by omega) g5) cv_X11_124 rfl 0 rfl rfl (len hRf (by decide)) (len hRl (by decide)) hk0 ht0 [] rfl (Nat.le_of_ble_eq_true rfl) dX11_chain_118 ?_
                      rintro _ _ ⟨rfl, rfl⟩
                      refine V.eqs (st' := [.int (nI (gN τ 1))]) rfl ?_
                      refine V.istore X (lv' := [(8, .int (nI (gN τ 1))), (9, .int (nI i)), (0, .ref (a 0)), (1, .int (nI n2)), (2, .int (nI k2)), (3, .int v), (4, .int (nI t2))]) dX11_chain_121 (ltn hn (by decide)) rfl ?_
                      refine V.iinc X (v := nI (i + 1)) (lv' := [(9, .int (nI (i + 1))), (8, .int (nI (gN τ 1))), (0, .ref (a 0)), (1, .int (nI n2)), (2, .int (nI k2)), (3, .int v), (4, .int (nI t2))]) (k0 := 1) dX11_chain_123 rfl (inc_1 _) (ltn hn (by decide)) rfl ?_
                      refine V.goto X 105 dX11_chain_126 (by decide) ?_
                      refine V.eql (lv' := [(9, .int (nI (i + 1))), (8, .int (oI (some (gN τ 1)))), (0, .ref (a 0)), (1, .int (nI n2)), (2, .int (nI k2)), (3, .int v), (4, .int (nI t2))]) rfl ?_
                      exact V.sub [0, 1, 2, 3, 4, 5, 6] rfl (ih (i + 1) (lnkS τ k2 v t2 o) (some (gN τ 1)) (by omega) (by rw [lnkS_1]; omega) (by omega) (fun _ => by rw [g2]; congr 1) (fun p hp => by cases hp; rw [lnkS_1]; omega) (by rcases m with _ | m; (right; rfl); (left; rw [lnkS_1, lnkS_t]; show _ + (m + 1 - 1 + 1) * t2 ≤ 4000; rw [Nat.add_sub_cancel]; omega)) g7)
                  refine V.iload X 7 dX11_chain_98 rfl ?_
                  refine V.topi (y := oI (fO f)) hfe ?_
                  refine V.istore X (lv' := [(8, .int (oI (fO f))), (7, .int (nI (n2 - 1 + oc (fO f)))), (6, .int (nI 1)), (0, .ref (a 0)), (1, .int (nI n2)), (2, .int (nI k2)), (3, .int v), (4, .int (nI t2)), (5, .int f)]) dX11_chain_100 (ltn hn (by decide)) rfl ?_
                  refine V.iconst X (v := nI 0) dX11_chain_102 (by decide) ?_
                  refine V.istore X (lv' := [(9, .int (nI 0)), (8, .int (oI (fO f))), (7, .int (nI (n2 - 1 + oc (fO f)))), (6, .int (nI 1)), (0, .ref (a 0)), (1, .int (nI n2)), (2, .int (nI k2)), (3, .int v), (4, .int (nI t2)), (5, .int f)]) dX11_chain_103 (ltn hn (by decide)) rfl ?_
                  exact V.sub [0, 1, 4, 5, 6, 7, 8] rfl (LP n2 0 σ (fO f) (by omega) rfl (fun _ => rfl) (by omega) hfo (Or.inl hrm.2) rfl)
                · refine V.bipush X (v := (-4)) dX11_chain_95 (by decide) ?_
                  exact V.iret X rfl hA hk ht hQ rfl dX11_chain_97 (by rw [chP, if_pos hv, nI_clamp (by omega), nI_clamp (by omega)]; exact ⟨fun z => absurd z (show ¬ (gN σ 1 + n2 ≤ 1500 ∧ gA σ 1 (gN σ 1) + (n2 - 1 + oc (fO f)) * t2 ≤ 4000) from of_decide_eq_false c92), fun _ => ⟨rfl, rfl⟩⟩)
            · refine V.aload_n X 1 dX11_chain_49 rfl rfl ?_
              refine Vg_c_0_deeds X tw_371 dX11_chain_50 ?_
              refine V.iload X 6 dX11_chain_53 rfl ?_
              refine V.callV X rfl (c_has (zl Z) (zG Z) a σ f) cv_X11_113 rfl 1 rfl rfl (len hRf (by decide)) (len hRl (by decide)) hk0 ht0 [] rfl (Nat.le_of_ble_eq_true rfl) dX11_chain_55 ?_
              rintro _ _ ⟨rfl, rfl⟩
              refine V.eqs (st' := [.int (bI (hasD (gN σ 1) f))]) rfl ?_
              refine V.if_neB X 64 dX11_chain_58 (by decide) (fun c58 => ?_) (fun c58 => ?_)
              · have hv : chOK σ n k t f = true := by rw [chOK, inR_t c2 c9, inR_t c15 c21, c40, c58]; simp
                obtain ⟨n2, hn1, hn2, hne⟩ := inR_nat (by decide) (by decide) (inR_t c2 c9)
                obtain ⟨t2, ht1, ht2, hte⟩ := inR_nat (by decide) (by decide) (inR_t c15 c21)
                obtain ⟨k2, hk2, hke⟩ := hasD_t (by decide) c40
                subst hne
                subst hte
                subst hke
                have hfo : ∀ p, fO f = some p → p < gN σ 1 := fO_lt h1 (Or.inr c58)
                have hfe : f = oI (fO f) := fO_eq h1 (Or.inr c58)
                refine V.iload X 6 dX11_chain_64 rfl ?_
                refine V.iconst X (v := -1) dX11_chain_66 (by decide) ?_
                refine V.icmp_ne X 76 dX11_chain_67 (by decide) (fun c67 => ?_) (fun c67 => ?_)
                · refine V.iload_n X 2 dX11_chain_76 rfl rfl ?_
                  refine V.istore X (lv' := [(7, .int (nI n2)), (6, .int (nI 1)), (0, .ref (a 0)), (1, .int (nI n2)), (2, .int (nI k2)), (3, .int v), (4, .int (nI t2)), (5, .int f)]) dX11_chain_77 (ltn hn (by decide)) rfl ?_
                  have hoc : oc (fO f) = 1 := by rw [fO, if_neg c67]; rfl
                  refine V.eql (lv' := [(7, .int (nI (n2 - 1 + oc (fO f)))), (6, .int (nI 1)), (0, .ref (a 0)), (1, .int (nI n2)), (2, .int (nI k2)), (3, .int v), (4, .int (nI t2)), (5, .int f)]) (by rw [hoc]; congr; try omega) ?_
                  refine V.aload_n X 2 dX11_chain_79 rfl rfl ?_
                  refine Vg_c_0_deeds X tw_371 dX11_chain_80 ?_
                  refine V.iload_n X 3 dX11_chain_83 rfl rfl ?_
                  refine V.iload X 0 dX11_chain_84 rfl ?_
                  refine V.iload X 6 dX11_chain_86 rfl ?_
                  refine V.imulN X dX11_chain_88 ?_
                  refine V.callV X rfl (c_hasRoom (zl Z) (zG Z) a σ n2 ((n2 - 1 + oc (fO f)) * t2) (by exact h1) (by exact h2) (by omega) (by have := Nat.mul_le_mul (show n2 - 1 + oc (fO f) ≤ 400 by rw [hoc]; omega) ht2; omega)) cv_X11_105 rfl 1 rfl rfl (len hRf (by decide)) (len hRl (by decide)) hk0 ht0 [] rfl (Nat.le_of_ble_eq_true rfl) dX11_chain_89 ?_
                  rintro _ _ ⟨rfl, rfl⟩
                  refine V.eqs (st' := [.int (bI (decide ((gN σ 1) + n2 ≤ 1500 ∧ (gA σ 1) (gN σ 1) + ((n2 - 1 + oc (fO f)) * t2) ≤ 4000)))]) rfl ?_
                  refine V.if_neB X 98 dX11_chain_92 (by decide) (fun c92 => ?_) (fun c92 => ?_)
                  · have hrm : gN σ 1 + n2 ≤ 1500 ∧ gA σ 1 (gN σ 1) + (n2 - 1 + oc (fO f)) * t2 ≤ 4000 := of_decide_eq_true c92
                    have LP : ∀ (m i : Nat) (τ : St) (o : Option Nat), i + m = n2 → gN τ 1 = gN σ 1 + i → (i = 0 → o = fO f) → (0 < i → o = some (gN σ 1 + i - 1)) → (∀ p, o = some p → p < gN τ 1) → gA τ 1 (gN τ 1) + (m - 1 + oc o) * t2 ≤ 4000 ∨ m = 0 → chS k2 v t2 m τ o = chS k2 v t2 n2 σ (fO f) → V Z (cw (zG Z) a τ) [(9, .int (nI i)), (8, .int (oI o)), (0, .ref (a 0)), (1, .int (nI n2)), (2, .int (nI k2)), (3, .int v), (4, .int (nI t2))] 105 [] := by
                      intro m
                      induction m with
                      | zero =>
                        intro i τ o g1 g2 g3 g4 g5 g6 g7
                        refine V.iload X 0 dX11_chain_105 rfl ?_
                        refine V.iload_n X 3 dX11_chain_107 rfl rfl ?_
                        refine V.icmp_geN X 129 dX11_chain_108 (by decide) (by omega) (by omega) (fun c108 => ?_) (fun c108 => by exfalso; omega)
                        refine V.iload X 1 dX11_chain_129 rfl ?_
                        exact V.iret X rfl hA hk ht hQ rfl dX11_chain_131 (by rw [chP, if_pos hv, nI_clamp (by omega), nI_clamp (by omega), nI_clamp (by omega)]; exact ⟨fun _ => ⟨by rw [g4 (by omega), show i = n2 by omega]; rfl, by rw [← g7]; rfl⟩, fun z => absurd hrm z⟩)
                      | succ m ih =>
                        intro i τ o g1 g2 g3 g4 g5 g6 g7
                        have g8 : gA τ 1 (gN τ 1) + (m + oc o) * t2 ≤ 4000 := by rcases g6 with q | q; (exact q); omega
                        have g9 : (m + oc o) * t2 = m * t2 + oc o * t2 := Nat.add_mul _ _ _
                        refine V.iload X 0 dX11_chain_105 rfl ?_
                        refine V.iload_n X 3 dX11_chain_107 rfl rfl ?_
                        refine V.icmp_geN X 129 dX11_chain_108 (by decide) (by omega) (by omega) (fun c108 => by exfalso; omega) (fun c108 => ?_)
                        refine V.aload_n X 2 dX11_chain_111 rfl rfl ?_
                        refine V.iload_n X 4 dX11_chain_112 rfl rfl ?_
                        refine V.iload_n X 5 dX11_chain_113 rfl rfl ?_
                        refine V.iload X 6 dX11_chain_114 rfl ?_
                        refine V.iload X 1 dX11_chain_116 rfl ?_
                        refine V.callV X rfl (n_link (zl Z) (zG Z) a τ k2 v t2 o (by omega) (by omega) (by omega) (by omega) g5) cv_X11_124 rfl 0 rfl rfl (len hRf (by decide)) (len hRl (by decide)) hk0 ht0 [] rfl (Nat.le_of_ble_eq_true rfl) dX11_chain_118 ?_
                        rintro _ _ ⟨rfl, rfl⟩
                        refine V.eqs (st' := [.int (nI (gN τ 1))]) rfl ?_
                        refine V.istore X (lv' := [(8, .int (nI (gN τ 1))), (9, .int (nI i)), (0, .ref (a 0)), (1, .int (nI n2)), (2, .int (nI k2)), (3, .int v), (4, .int (nI t2))]) dX11_chain_121 (ltn hn (by decide)) rfl ?_
                        refine V.iinc X (v := nI (i + 1)) (lv' := [(9, .int (nI (i + 1))), (8, .int (nI (gN τ 1))), (0, .ref (a 0)), (1, .int (nI n2)), (2, .int (nI k2)), (3, .int v), (4, .int (nI t2))]) (k0 := 1) dX11_chain_123 rfl (inc_1 _) (ltn hn (by decide)) rfl ?_
                        refine V.goto X 105 dX11_chain_126 (by decide) ?_
                        refine V.eql (lv' := [(9, .int (nI (i + 1))), (8, .int (oI (some (gN τ 1)))), (0, .ref (a 0)), (1, .int (nI n2)), (2, .int (nI k2)), (3, .int v), (4, .int (nI t2))]) rfl ?_
                        exact V.sub [0, 1, 2, 3, 4, 5, 6] rfl (ih (i + 1) (lnkS τ k2 v t2 o) (some (gN τ 1)) (by omega) (by rw [lnkS_1]; omega) (by omega) (fun _ => by rw [g2]; congr 1) (fun p hp => by cases hp; rw [lnkS_1]; omega) (by rcases m with _ | m; (right; rfl); (left; rw [lnkS_1, lnkS_t]; show _ + (m + 1 - 1 + 1) * t2 ≤ 4000; rw [Nat.add_sub_cancel]; omega)) g7)
                    refine V.iload X 7 dX11_chain_98 rfl ?_
                    refine V.topi (y := oI (fO f)) hfe ?_
                    refine V.istore X (lv' := [(8, .int (oI (fO f))), (7, .int (nI (n2 - 1 + oc (fO f)))), (6, .int (nI 1)), (0, .ref (a 0)), (1, .int (nI n2)), (2, .int (nI k2)), (3, .int v), (4, .int (nI t2)), (5, .int f)]) dX11_chain_100 (ltn hn (by decide)) rfl ?_
                    refine V.iconst X (v := nI 0) dX11_chain_102 (by decide) ?_
                    refine V.istore X (lv' := [(9, .int (nI 0)), (8, .int (oI (fO f))), (7, .int (nI (n2 - 1 + oc (fO f)))), (6, .int (nI 1)), (0, .ref (a 0)), (1, .int (nI n2)), (2, .int (nI k2)), (3, .int v), (4, .int (nI t2)), (5, .int f)]) dX11_chain_103 (ltn hn (by decide)) rfl ?_
                    exact V.sub [0, 1, 4, 5, 6, 7, 8] rfl (LP n2 0 σ (fO f) (by omega) rfl (fun _ => rfl) (by omega) hfo (Or.inl hrm.2) rfl)
                  · refine V.bipush X (v := (-4)) dX11_chain_95 (by decide) ?_
                    exact V.iret X rfl hA hk ht hQ rfl dX11_chain_97 (by rw [chP, if_pos hv, nI_clamp (by omega), nI_clamp (by omega)]; exact ⟨fun z => absurd z (show ¬ (gN σ 1 + n2 ≤ 1500 ∧ gA σ 1 (gN σ 1) + (n2 - 1 + oc (fO f)) * t2 ≤ 4000) from of_decide_eq_false c92), fun _ => ⟨rfl, rfl⟩⟩)
                · refine V.iload_n X 2 dX11_chain_70 rfl rfl ?_
                  refine V.iconst X (v := nI 1) dX11_chain_71 (by decide) ?_
                  refine V.isubN X dX11_chain_72 (by omega) ?_
                  refine V.goto X 77 dX11_chain_73 (by decide) ?_
                  refine V.istore X (lv' := [(7, .int (nI (n2 - 1))), (6, .int (nI 1)), (0, .ref (a 0)), (1, .int (nI n2)), (2, .int (nI k2)), (3, .int v), (4, .int (nI t2)), (5, .int f)]) dX11_chain_77 (ltn hn (by decide)) rfl ?_
                  have hoc : oc (fO f) = 0 := by rw [fO, if_pos c67]; rfl
                  refine V.eql (lv' := [(7, .int (nI (n2 - 1 + oc (fO f)))), (6, .int (nI 1)), (0, .ref (a 0)), (1, .int (nI n2)), (2, .int (nI k2)), (3, .int v), (4, .int (nI t2)), (5, .int f)]) (by rw [hoc]; congr; try omega) ?_
                  refine V.aload_n X 2 dX11_chain_79 rfl rfl ?_
                  refine Vg_c_0_deeds X tw_371 dX11_chain_80 ?_
                  refine V.iload_n X 3 dX11_chain_83 rfl rfl ?_
                  refine V.iload X 0 dX11_chain_84 rfl ?_
                  refine V.iload X 6 dX11_chain_86 rfl ?_
                  refine V.imulN X dX11_chain_88 ?_
                  refine V.callV X rfl (c_hasRoom (zl Z) (zG Z) a σ n2 ((n2 - 1 + oc (fO f)) * t2) (by exact h1) (by exact h2) (by omega) (by have := Nat.mul_le_mul (show n2 - 1 + oc (fO f) ≤ 400 by rw [hoc]; omega) ht2; omega)) cv_X11_105 rfl 1 rfl rfl (len hRf (by decide)) (len hRl (by decide)) hk0 ht0 [] rfl (Nat.le_of_ble_eq_true rfl) dX11_chain_89 ?_
                  rintro _ _ ⟨rfl, rfl⟩
                  refine V.eqs (st' := [.int (bI (decide ((gN σ 1) + n2 ≤ 1500 ∧ (gA σ 1) (gN σ 1) + ((n2 - 1 + oc (fO f)) * t2) ≤ 4000)))]) rfl ?_
                  refine V.if_neB X 98 dX11_chain_92 (by decide) (fun c92 => ?_) (fun c92 => ?_)
                  · have hrm : gN σ 1 + n2 ≤ 1500 ∧ gA σ 1 (gN σ 1) + (n2 - 1 + oc (fO f)) * t2 ≤ 4000 := of_decide_eq_true c92
                    have LP : ∀ (m i : Nat) (τ : St) (o : Option Nat), i + m = n2 → gN τ 1 = gN σ 1 + i → (i = 0 → o = fO f) → (0 < i → o = some (gN σ 1 + i - 1)) → (∀ p, o = some p → p < gN τ 1) → gA τ 1 (gN τ 1) + (m - 1 + oc o) * t2 ≤ 4000 ∨ m = 0 → chS k2 v t2 m τ o = chS k2 v t2 n2 σ (fO f) → V Z (cw (zG Z) a τ) [(9, .int (nI i)), (8, .int (oI o)), (0, .ref (a 0)), (1, .int (nI n2)), (2, .int (nI k2)), (3, .int v), (4, .int (nI t2))] 105 [] := by
                      intro m
                      induction m with
                      | zero =>
                        intro i τ o g1 g2 g3 g4 g5 g6 g7
                        refine V.iload X 0 dX11_chain_105 rfl ?_
                        refine V.iload_n X 3 dX11_chain_107 rfl rfl ?_
                        refine V.icmp_geN X 129 dX11_chain_108 (by decide) (by omega) (by omega) (fun c108 => ?_) (fun c108 => by exfalso; omega)
                        refine V.iload X 1 dX11_chain_129 rfl ?_
                        exact V.iret X rfl hA hk ht hQ rfl dX11_chain_131 (by rw [chP, if_pos hv, nI_clamp (by omega), nI_clamp (by omega), nI_clamp (by omega)]; exact ⟨fun _ => ⟨by rw [g4 (by omega), show i = n2 by omega]; rfl, by rw [← g7]; rfl⟩, fun z => absurd hrm z⟩)
                      | succ m ih =>
                        intro i τ o g1 g2 g3 g4 g5 g6 g7
                        have g8 : gA τ 1 (gN τ 1) + (m + oc o) * t2 ≤ 4000 := by rcases g6 with q | q; (exact q); omega
                        have g9 : (m + oc o) * t2 = m * t2 + oc o * t2 := Nat.add_mul _ _ _
                        refine V.iload X 0 dX11_chain_105 rfl ?_
                        refine V.iload_n X 3 dX11_chain_107 rfl rfl ?_
                        refine V.icmp_geN X 129 dX11_chain_108 (by decide) (by omega) (by omega) (fun c108 => by exfalso; omega) (fun c108 => ?_)
                        refine V.aload_n X 2 dX11_chain_111 rfl rfl ?_
                        refine V.iload_n X 4 dX11_chain_112 rfl rfl ?_
                        refine V.iload_n X 5 dX11_chain_113 rfl rfl ?_
                        refine V.iload X 6 dX11_chain_114 rfl ?_
                        refine V.iload X 1 dX11_chain_116 rfl ?_
                        refine V.callV X rfl (n_link (zl Z) (zG Z) a τ k2 v t2 o (by omega) (by omega) (by omega) (by omega) g5) cv_X11_124 rfl 0 rfl rfl (len hRf (by decide)) (len hRl (by decide)) hk0 ht0 [] rfl (Nat.le_of_ble_eq_true rfl) dX11_chain_118 ?_
                        rintro _ _ ⟨rfl, rfl⟩
                        refine V.eqs (st' := [.int (nI (gN τ 1))]) rfl ?_
                        refine V.istore X (lv' := [(8, .int (nI (gN τ 1))), (9, .int (nI i)), (0, .ref (a 0)), (1, .int (nI n2)), (2, .int (nI k2)), (3, .int v), (4, .int (nI t2))]) dX11_chain_121 (ltn hn (by decide)) rfl ?_
                        refine V.iinc X (v := nI (i + 1)) (lv' := [(9, .int (nI (i + 1))), (8, .int (nI (gN τ 1))), (0, .ref (a 0)), (1, .int (nI n2)), (2, .int (nI k2)), (3, .int v), (4, .int (nI t2))]) (k0 := 1) dX11_chain_123 rfl (inc_1 _) (ltn hn (by decide)) rfl ?_
                        refine V.goto X 105 dX11_chain_126 (by decide) ?_
                        refine V.eql (lv' := [(9, .int (nI (i + 1))), (8, .int (oI (some (gN τ 1)))), (0, .ref (a 0)), (1, .int (nI n2)), (2, .int (nI k2)), (3, .int v), (4, .int (nI t2))]) rfl ?_
                        exact V.sub [0, 1, 2, 3, 4, 5, 6] rfl (ih (i + 1) (lnkS τ k2 v t2 o) (some (gN τ 1)) (by omega) (by rw [lnkS_1]; omega) (by omega) (fun _ => by rw [g2]; congr 1) (fun p hp => by cases hp; rw [lnkS_1]; omega) (by rcases m with _ | m; (right; rfl); (left; rw [lnkS_1, lnkS_t]; show _ + (m + 1 - 1 + 1) * t2 ≤ 4000; rw [Nat.add_sub_cancel]; omega)) g7)
                    refine V.iload X 7 dX11_chain_98 rfl ?_
                    refine V.topi (y := oI (fO f)) hfe ?_
                    refine V.istore X (lv' := [(8, .int (oI (fO f))), (7, .int (nI (n2 - 1 + oc (fO f)))), (6, .int (nI 1)), (0, .ref (a 0)), (1, .int (nI n2)), (2, .int (nI k2)), (3, .int v), (4, .int (nI t2)), (5, .int f)]) dX11_chain_100 (ltn hn (by decide)) rfl ?_
                    refine V.iconst X (v := nI 0) dX11_chain_102 (by decide) ?_
                    refine V.istore X (lv' := [(9, .int (nI 0)), (8, .int (oI (fO f))), (7, .int (nI (n2 - 1 + oc (fO f)))), (6, .int (nI 1)), (0, .ref (a 0)), (1, .int (nI n2)), (2, .int (nI k2)), (3, .int v), (4, .int (nI t2)), (5, .int f)]) dX11_chain_103 (ltn hn (by decide)) rfl ?_
                    exact V.sub [0, 1, 4, 5, 6, 7, 8] rfl (LP n2 0 σ (fO f) (by omega) rfl (fun _ => rfl) (by omega) hfo (Or.inl hrm.2) rfl)
                  · refine V.bipush X (v := (-4)) dX11_chain_95 (by decide) ?_
                    exact V.iret X rfl hA hk ht hQ rfl dX11_chain_97 (by rw [chP, if_pos hv, nI_clamp (by omega), nI_clamp (by omega)]; exact ⟨fun z => absurd z (show ¬ (gN σ 1 + n2 ≤ 1500 ∧ gA σ 1 (gN σ 1) + (n2 - 1 + oc (fO f)) * t2 ≤ 4000) from of_decide_eq_false c92), fun _ => ⟨rfl, rfl⟩⟩)
              · refine V.bipush X (v := (-2)) dX11_chain_61 (by decide) ?_
                exact V.iret X rfl hA hk ht hQ rfl dX11_chain_63 (by rw [chP, if_neg (show ¬ chOK σ n k t f = true from fun z => absurd (z.symm.trans (show chOK σ n k t f = false by rw [chOK, inR_t c2 c9, inR_t c15 c21, c40, c58]; simp [c46])) (by decide))]; exact ⟨rfl, rfl⟩)

