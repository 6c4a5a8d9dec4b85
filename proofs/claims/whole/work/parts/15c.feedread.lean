def fdB (w : Int64) (i : Nat) : Nat := ((w.toUInt64 >>> ((nI (8 * i)).toInt64.toUInt64 &&& Int64.toUInt64 63)).toInt64.toInt32).toBitVec.toNat % 2 ^ 8
def fdL (w : Int64) : Nat → List Nat
  | 0 => []
  | c + 1 => fdB w c :: fdL w c
theorem pAddsP_app {σ : St} {L M : List Nat} (h : gN σ 2 ≤ 6000) : pAddsP (pAddsP σ L) M = pAddsP σ (L ++ M) := pAddsG_app _ _ _ _ _ _ h
theorem pAddsP_le {σ : St} {L : List Nat} : gN (pAddsP σ L) 2 ≤ 6000 := pAddsG_le
theorem pAddsP_nil {σ : St} (h : gN σ 2 ≤ 6000) : pAddsP σ [] = σ := pAddsG_nil _ _ _ _ h
theorem fdL_len (w : Int64) : ∀ c, (fdL w c).length = c
  | 0 => rfl
  | c + 1 => by simp only [fdL, List.length_cons, fdL_len w c]

set_option maxHeartbeats 4000000 in
set_option maxRecDepth 100000 in
theorem n_feed (l : Launch) (G : Gx) (a : Nat → Nat) (σ : St) (u : Int64) (n : Int32) (hl1 : gN σ 2 ≤ 6000) : MM l G ⟨"NestedDeeds", "feed", "(JI)I"⟩ prog_1_method_22_code 5 (some .int) 1 21 [.ref (a 0), .long u, .int n] (cw G a σ) (fun rv w => rv = some (.int (if inR n (nI 1) (nI 8) = true then (if gN σ 2 + n.toNatClampNeg ≤ 6000 then nI (gN σ 2 + n.toNatClampNeg) else -4) else -2)) ∧ w = cw G a (if inR n (nI 1) (nI 8) = true then (if gN σ 2 + n.toNatClampNeg ≤ 6000 then pAddsP σ (fdL u n.toNatClampNeg) else σ) else σ)) := by
  refine MM.of (lv := [(0, .ref (a 0)), (1, .long u), (3, .int n)]) (by decide +kernel) rfl (Nat.le_of_ble_eq_true rfl) ?_
  intro Z hRf hRl hl hG hn hk ht hA hQ X
  subst hG hl
  have X : XC Z "NestedDeeds" prog_1_method_22_code (some .int) := X
  have hk0 : zk Z ≤ (zR Z).cells := hk ▸ Nat.zero_le _
  have ht0 : zt Z ≤ (zR Z).slots := ht ▸ Nat.zero_le _
  refine V.iload_n X 2 dX11_feed_0 rfl rfl ?_
  refine V.iconst X (v := nI 1) dX11_feed_1 (by decide) ?_
  refine V.icmp_lt X 11 dX11_feed_2 (by decide) (fun c2 => ?_) (fun c2 => ?_)
  · refine V.bipush X (v := (-2)) dX11_feed_11 (by decide) ?_
    exact V.iret X rfl hA hk ht hQ rfl dX11_feed_13 (⟨by rw [inR_f1 c2]; rfl, by rw [inR_f1 c2]; rfl⟩)
  · refine V.iload_n X 2 dX11_feed_5 rfl rfl ?_
    refine V.bipush X (v := nI 8) dX11_feed_6 (by decide) ?_
    refine V.icmp_le X 14 dX11_feed_8 (by decide) (fun c8 => ?_) (fun c8 => ?_)
    · have hv : inR n (nI 1) (nI 8) = true := inR_t c2 (Int32.not_lt.mpr c8)
      obtain ⟨n2, hn1, hn2, hne⟩ := inR_nat (by decide) (by decide) hv
      subst hne
      refine V.aload_n X 0 dX11_feed_14 rfl rfl ?_
      refine Vg_c_0_paper X tw_372 dX11_feed_15 ?_
      refine Vg_c_7_length (x := gN σ 2) X tw_127 dX11_feed_18 rfl ?_
      refine V.iload_n X 2 dX11_feed_21 rfl rfl ?_
      refine V.iaddN X dX11_feed_22 ?_
      refine V.sipush X (v := nI 6000) dX11_feed_23 (by decide) ?_
      refine V.icmp_leN X 32 dX11_feed_26 (by decide) (by omega) (by decide) (fun c26 => ?_) (fun c26 => ?_)
      · have hrm : gN σ 2 + n2 ≤ 6000 := c26
        have hlen : gN (pAddsP σ (fdL u n2)) 2 = gN σ 2 + n2 := by show min 6000 (gN σ 2 + (fdL u n2).length) = _; rw [fdL_len]; omega
        have LP : ∀ (c : Nat) (τ : St), c ≤ 8 → gN τ 2 ≤ 6000 → pAddsP τ (fdL u c) = pAddsP σ (fdL u n2) → V Z (cw (zG Z) a τ) [(4, .int (nI c - 1)), (0, .ref (a 0)), (1, .long u), (3, .int (nI n2))] 37 [] := by
          intro c
          induction c with
          | zero =>
            intro τ g1 g2 g3
            refine V.iload X 0 dX11_feed_37 rfl ?_
            refine V.if_lt X 67 dX11_feed_39 (by decide) (fun c39 => ?_) (fun c39 => by exfalso; exact absurd (show nI 0 - 1 < 0 by decide) c39)
            refine V.aload_n X 1 dX11_feed_67 rfl rfl ?_
            refine Vg_c_0_paper X tw_372 dX11_feed_68 ?_
            refine Vg_c_7_length (x := gN (τ) 2) X tw_127 dX11_feed_71 rfl ?_
            exact V.iret X rfl hA hk ht hQ rfl dX11_feed_74 (⟨by rw [if_pos hv, nI_clamp (by omega), if_pos hrm, ← show gN (pAddsP σ (fdL u n2)) 2 = gN σ 2 + n2 from hlen, ← g3, fdL, pAddsP_nil g2], by rw [if_pos hv, nI_clamp (by omega), if_pos hrm, ← g3, fdL, pAddsP_nil g2]⟩)
          | succ c ih =>
            intro τ g1 g2 g3
            refine V.eql (lv' := [(4, .int (nI c)), (0, .ref (a 0)), (1, .long u), (3, .int (nI n2))]) (by rw [nI_pred]) ?_
            refine V.iload X 0 dX11_feed_37 rfl ?_
            refine V.if_ltN X 67 dX11_feed_39 (by decide) (by omega) (fun c39 => by exfalso; assumption) (fun c39 => ?_)
            refine V.aload_n X 1 dX11_feed_42 rfl rfl ?_
            refine Vg_c_0_paper X tw_372 dX11_feed_43 ?_
            refine V.lload_n X 2 dX11_feed_46 rfl rfl ?_
            refine V.bipush X (v := nI 8) dX11_feed_47 (by decide) ?_
            refine V.iload X 0 dX11_feed_49 rfl ?_
            refine V.imulN X dX11_feed_51 ?_
            refine V.lushr X dX11_feed_52 rfl ?_
            refine V.l2i X dX11_feed_53 rfl ?_
            refine V.sipush X (v := nI 255) dX11_feed_54 (by decide) ?_
            refine V.iand X dX11_feed_57 ?_
            refine V.topi (y := nI (fdB u c)) (pk_and _ 8 (by decide)) ?_
            refine V.callV X rfl (c_paddP (zl Z) (zG Z) a (τ) (fdB u c) (by exact g2)) cv_X11_208 rfl 7 rfl rfl (len hRf (by decide)) (len hRl (by decide)) hk0 ht0 [] rfl (Nat.le_of_ble_eq_true rfl) dX11_feed_58 ?_
            rintro _ _ ⟨rfl, rfl⟩
            refine V.eqs (st' := []) rfl ?_
            refine V.iinc X (v := nI c - 1) (lv' := [(4, .int (nI c - 1)), (0, .ref (a 0)), (1, .long u), (3, .int (nI n2))]) (k0 := 0) dX11_feed_61 rfl (by rw [Int32.sub_eq_add_neg]; rfl) (ltn hn (by decide)) rfl ?_
            refine V.goto X 37 dX11_feed_64 (by decide) ?_
            exact V.sub [0, 1, 2, 3] rfl (ih (pAddsP τ [fdB u c]) (by omega) pAddsP_le (by rw [pAddsP_app g2]; exact g3))
        refine V.iload_n X 2 dX11_feed_32 rfl rfl ?_
        refine V.iconst X (v := nI 1) dX11_feed_33 (by decide) ?_
        refine V.isubN X dX11_feed_34 (by omega) ?_
        refine V.istore X (lv' := [(4, .int (nI (n2 - 1))), (0, .ref (a 0)), (1, .long u), (3, .int (nI n2))]) dX11_feed_35 (ltn hn (by decide)) rfl ?_
        refine V.eql (lv' := [(4, .int (nI n2 - 1)), (0, .ref (a 0)), (1, .long u), (3, .int (nI n2))]) (by rw [← pk_sub hn1]; rfl) ?_
        exact V.sub [0, 1, 2, 3] rfl (LP n2 σ hn2 hl1 rfl)
      · refine V.bipush X (v := (-4)) dX11_feed_29 (by decide) ?_
        exact V.iret X rfl hA hk ht hQ rfl dX11_feed_31 (⟨by rw [if_pos hv, nI_clamp (by omega), if_neg (by omega)], by rw [if_pos hv, nI_clamp (by omega), if_neg (by omega)]⟩)
    · refine V.bipush X (v := (-2)) dX11_feed_11 (by decide) ?_
      exact V.iret X rfl hA hk ht hQ rfl dX11_feed_13 (⟨by rw [inR_f2 (Int32.not_le.mp c8)]; rfl, by rw [inR_f2 (Int32.not_le.mp c8)]; rfl⟩)

def rdS (σ : St) : St := (scn 6001 (scI σ false)).1
def rdM (σ : St) : St := (scn 6001 (scI (rdS σ) true)).1
def rdP (σ : St) : Prop := scP 6001 (scI σ false) ∧ gN (rdS σ) 5 < 2 ^ 30 ∧ ((scn 6001 (scI σ false)).2 = none → DOK (rdS σ) ∧ 1 ≤ gN (rdS σ) 6 ∧ gN (rdS σ) 6 ≤ 100000 ∧ (gN (rdS σ) 1 + gN (rdS σ) 6 ≤ 1500 ∧ gA (rdS σ) 1 (gN (rdS σ) 1) + (gN (rdS σ) 6 - 1) ≤ 4000 → scP 6001 (scI (rdS σ) true)))
def rdR (σ : St) : Int32 := match (scn 6001 (scI σ false)).2 with
  | some p => -10 - nI p
  | none => if gN (rdS σ) 1 + gN (rdS σ) 6 ≤ 1500 ∧ gA (rdS σ) 1 (gN (rdS σ) 1) + (gN (rdS σ) 6 - 1) ≤ 4000 then nI (gA (rdM σ) 3 0) else -4
def rdF (σ : St) : St := match (scn 6001 (scI σ false)).2 with
  | some _ => rdS σ
  | none => if gN (rdS σ) 1 + gN (rdS σ) 6 ≤ 1500 ∧ gA (rdS σ) 1 (gN (rdS σ) 1) + (gN (rdS σ) 6 - 1) ≤ 4000 then sN (rdM σ) 0 0 else rdS σ
theorem rd_some {σ : St} {p : Nat} (h : (scn 6001 (scI σ false)).2 = some p) : rdR σ = -10 - nI p ∧ rdF σ = rdS σ := by simp only [rdR, rdF, h]; exact ⟨trivial, trivial⟩
theorem rd_none {σ : St} (h : (scn 6001 (scI σ false)).2 = none) : rdR σ = (if gN (rdS σ) 1 + gN (rdS σ) 6 ≤ 1500 ∧ gA (rdS σ) 1 (gN (rdS σ) 1) + (gN (rdS σ) 6 - 1) ≤ 4000 then nI (gA (rdM σ) 3 0) else -4) ∧ rdF σ = (if gN (rdS σ) 1 + gN (rdS σ) 6 ≤ 1500 ∧ gA (rdS σ) 1 (gN (rdS σ) 1) + (gN (rdS σ) 6 - 1) ≤ 4000 then sN (rdM σ) 0 0 else rdS σ) := by simp only [rdR, rdF, h]; exact ⟨trivial, trivial⟩

set_option maxHeartbeats 4000000 in
set_option maxRecDepth 100000 in
theorem n_read (l : Launch) (G : Gx) (a : Nat → Nat) (σ : St) (hrd : rdP σ) (hpl : ∀ p, (scn 6001 (scI σ false)).2 = some p → p < 2 ^ 31) : MM l G ⟨"NestedDeeds", "read", "()I"⟩ prog_1_method_25_code 2 (some .int) 5 150 [.ref (a 0)] (cw G a σ) (fun rv w => rv = some (.int (rdR σ)) ∧ w = cw G a (rdF σ)) := by
  refine MM.of (lv := [(0, .ref (a 0))]) (by decide +kernel) rfl (Nat.le_of_ble_eq_true rfl) ?_
  intro Z hRf hRl hl hG hn hk ht hA hQ X
  subst hG hl
  have X : XC Z "NestedDeeds" prog_1_method_25_code (some .int) := X
  have hk0 : zk Z ≤ (zR Z).cells := hk ▸ Nat.zero_le _
  have ht0 : zt Z ≤ (zR Z).slots := ht ▸ Nat.zero_le _
  obtain ⟨q1, q2, q3⟩ := hrd
  rcases hsc : (scn 6001 (scI σ false)).2 with _ | p
  · obtain ⟨g1, g2, g3, g4⟩ := q3 hsc
    refine V.aload_n X 0 dX11_read_0 rfl rfl ?_
    refine Vg_c_0_reader X tw_374 dX11_read_1 ?_
    refine V.iconst X (v := nI 0) dX11_read_4 (by decide) ?_
    refine V.topi (y := bI false) rfl ?_
    refine V.callV X rfl (r_scan (zl Z) (zG Z) a σ false q1) cv_X11_213 rfl 11 rfl rfl (len hRf (by decide)) (len hRl (by decide)) hk0 ht0 [] rfl (Nat.le_of_ble_eq_true rfl) dX11_read_5 ?_
    rintro _ _ ⟨rfl, rfl⟩
    refine V.eqs (st' := [.int (oI ((scn 6001 (scI σ false)).2))]) rfl ?_
    refine V.eqs (st' := [.int (-1)]) (by rw [hsc]; rfl) ?_
    refine V.istore_n X (lv' := [(1, .int (-1)), (0, .ref (a 0))]) dX11_read_8 rfl (ltn hn (by decide)) rfl ?_
    refine V.iload_n X 0 dX11_read_9 rfl rfl ?_
    refine V.iconst X (v := -1) dX11_read_10 (by decide) ?_
    refine V.icmp_eq X 19 dX11_read_11 (by decide) (fun c11 => ?_) (fun c11 => by exfalso; exact c11 rfl)
    refine V.aload_n X 1 dX11_read_19 rfl rfl ?_
    refine Vg_c_0_deeds X tw_371 dX11_read_20 ?_
    refine V.aload_n X 1 dX11_read_23 rfl rfl ?_
    refine Vg_c_0_reader X tw_374 dX11_read_24 ?_
    refine Vg_c_11_whole (x := gN (rdS σ) 6) X tw_156 dX11_read_27 rfl ?_
    refine V.aload_n X 1 dX11_read_30 rfl rfl ?_
    refine Vg_c_0_reader X tw_374 dX11_read_31 ?_
    refine Vg_c_11_whole (x := gN (rdS σ) 6) X tw_156 dX11_read_34 rfl ?_
    refine V.iconst X (v := nI 1) dX11_read_37 (by decide) ?_
    refine V.isubN X dX11_read_38 (by omega) ?_
    refine V.callV X rfl (c_hasRoom (zl Z) (zG Z) a (rdS σ) (gN (rdS σ) 6) ((gN (rdS σ) 6) - 1) (by exact g1.1) (by exact g1.2.1) (by omega) (by omega)) cv_X11_105 rfl 1 rfl rfl (len hRf (by decide)) (len hRl (by decide)) hk0 ht0 [] rfl (Nat.le_of_ble_eq_true rfl) dX11_read_39 ?_
    rintro _ _ ⟨rfl, rfl⟩
    refine V.eqs (st' := [.int (bI (decide ((gN (rdS σ) 1) + (gN (rdS σ) 6) ≤ 1500 ∧ (gA (rdS σ) 1) (gN (rdS σ) 1) + ((gN (rdS σ) 6) - 1) ≤ 4000)))]) rfl ?_
    refine V.if_neB X 48 dX11_read_42 (by decide) (fun c42 => ?_) (fun c42 => ?_)
    · have hrm := of_decide_eq_true c42
      refine V.aload_n X 1 dX11_read_48 rfl rfl ?_
      refine Vg_c_0_reader X tw_374 dX11_read_49 ?_
      refine V.iconst X (v := nI 1) dX11_read_52 (by decide) ?_
      refine V.topi (y := bI true) rfl ?_
      refine V.callV X rfl (r_scan (zl Z) (zG Z) a (rdS σ) true (g4 hrm)) cv_X11_213 rfl 11 rfl rfl (len hRf (by decide)) (len hRl (by decide)) hk0 ht0 [] rfl (Nat.le_of_ble_eq_true rfl) dX11_read_53 ?_
      rintro _ _ ⟨rfl, rfl⟩
      refine V.eqs (st' := [.int (oI ((scn 6001 (scI (rdS σ) true)).2))]) rfl ?_
      refine V.pop X dX11_read_56 rfl ?_
      refine V.aload_n X 1 dX11_read_57 rfl rfl ?_
      refine Vg_c_0_deeds X tw_371 dX11_read_58 ?_
      refine V.callV X rfl (c_takeBound (zl Z) (zG Z) a (rdM σ)) cv_X11_205 rfl 1 rfl rfl (len hRf (by decide)) (len hRl (by decide)) hk0 ht0 [] rfl (Nat.le_of_ble_eq_true rfl) dX11_read_61 ?_
      rintro _ _ ⟨rfl, rfl⟩
      refine V.eqs (st' := [.int (nI ((gA (rdM σ) 3) 0))]) rfl ?_
      exact V.iret X rfl hA hk ht hQ rfl dX11_read_64 (⟨by rw [(rd_none hsc).1, if_pos hrm], by rw [(rd_none hsc).2, if_pos hrm]⟩)
    · refine V.bipush X (v := (-4)) dX11_read_45 (by decide) ?_
      exact V.iret X rfl hA hk ht hQ rfl dX11_read_47 (⟨by rw [(rd_none hsc).1, if_neg (of_decide_eq_false c42)], by rw [(rd_none hsc).2, if_neg (of_decide_eq_false c42)]⟩)
  · have hp : p < 2 ^ 31 := hpl p hsc
    refine V.aload_n X 0 dX11_read_0 rfl rfl ?_
    refine Vg_c_0_reader X tw_374 dX11_read_1 ?_
    refine V.iconst X (v := nI 0) dX11_read_4 (by decide) ?_
    refine V.topi (y := bI false) rfl ?_
    refine V.callV X rfl (r_scan (zl Z) (zG Z) a σ false q1) cv_X11_213 rfl 11 rfl rfl (len hRf (by decide)) (len hRl (by decide)) hk0 ht0 [] rfl (Nat.le_of_ble_eq_true rfl) dX11_read_5 ?_
    rintro _ _ ⟨rfl, rfl⟩
    refine V.eqs (st' := [.int (oI ((scn 6001 (scI σ false)).2))]) rfl ?_
    refine V.eqs (st' := [.int (nI p)]) (by rw [hsc]; rfl) ?_
    refine V.istore_n X (lv' := [(1, .int (nI p)), (0, .ref (a 0))]) dX11_read_8 rfl (ltn hn (by decide)) rfl ?_
    refine V.iload_n X 0 dX11_read_9 rfl rfl ?_
    refine V.iconst X (v := -1) dX11_read_10 (by decide) ?_
    refine V.icmp_eq X 19 dX11_read_11 (by decide) (fun c11 => by exfalso; exact nI_nm1 (by omega) c11) (fun c11 => ?_)
    refine V.bipush X (v := (-10)) dX11_read_14 (by decide) ?_
    refine V.iload_n X 0 dX11_read_16 rfl rfl ?_
    refine V.isub X dX11_read_17 ?_
    exact V.iret X rfl hA hk ht hQ rfl dX11_read_18 (⟨by rw [(rd_some hsc).1], by rw [(rd_some hsc).2]; rfl⟩)

