theorem wo_0 {A : Ar} (hW : WA A) {d : Nat} (h : aK A d = 0) : wo A d = (aV A d).toInt64 := by
  rw [wo_eq hW.eld, wl, wlO, if_pos h, List.map_nil, wAcc_nil, h]; rfl
theorem wo_e {A : Ar} (hW : WA A) {d : Nat} (h : aK A d = 7 ∨ aK A d = 8) (hn : (aP A d).length = 0) : wo A d = (aV A d).toInt64 := by
  have hp : aP A d = [] := List.length_eq_zero_iff.mp hn
  rw [wo_eq hW.eld, wl, hp]
  rcases h with h | h <;> rw [h] <;> rfl
theorem wo_71 {A : Ar} (hW : WA A) {d : Nat} (h : aK A d = 7) (hn : (aP A d).length = 1) : wo A d = wo A ((aP A d).getD 0 0) := by
  rw [wo_eq hW.eld, wl]
  rcases hp : aP A d with _ | ⟨a, _ | ⟨b, r⟩⟩
  · rw [hp] at hn; cases hn
  · rw [h]; rfl
  · rw [hp] at hn; simp at hn
theorem wo_72 {A : Ar} (hW : WA A) {d : Nat} (h : aK A d = 7) (hn : 2 ≤ (aP A d).length) : wo A d = wo A ((aP A d).getD (1 + fmodN (wo A ((aP A d).getD 0 0)) ((aP A d).length - 1)) 0) := by
  rw [wo_eq hW.eld, wl]
  rcases hp : aP A d with _ | ⟨a, _ | ⟨b, r⟩⟩
  · rw [hp] at hn; simp at hn
  · rw [hp] at hn; simp at hn
  · rw [h]
    show wo A ((b :: r).getD (fmodN (wo A a) (b :: r).length) 0) = wo A ((a :: b :: r).getD (1 + fmodN (wo A a) ((a :: b :: r).length - 1)) 0)
    rw [show 1 + fmodN (wo A a) ((a :: b :: r).length - 1) = fmodN (wo A a) (b :: r).length + 1 from Nat.add_comm .., List.getD_cons_succ]
theorem tkU_end (w : Nat → Int64) (v : Int32) (n : Nat) : ∀ (l : List Nat) (s : Nat × Int64), l ≠ [] → (((tkU w l).map w).foldl (fun (s : Nat × Int64) w => (s.1 + 1, wUp 8 v s.1 s.2 w)) s).2 = if w (l.getD ((tkU w l).length - 1) 0) = lN 0 then s.2 else w (l.getD ((tkU w l).length - 1) 0)
  | [], _, h => absurd rfl h
  | p :: l, s, _ => by
    by_cases hq : w p = lN 0
    · have e : tkU w (p :: l) = p :: tkU w l := by rw [tkU, if_pos hq]
      rw [e, List.map_cons, List.foldl_cons]
      rcases l with _ | ⟨q, l⟩
      · simp [tkU, wUp, hq]
      · rw [tkU_end w v n (q :: l) _ (by simp)]
        have hp : 0 < (tkU w (q :: l)).length := by simp only [tkU]; split <;> simp
        rw [List.length_cons, show (tkU w (q :: l)).length + 1 - 1 = ((tkU w (q :: l)).length - 1) + 1 by omega, List.getD_cons_succ]
        simp [wUp, hq]
    · have e : tkU w (p :: l) = [p] := by rw [tkU, if_neg hq]
      rw [e]
      simp [wUp, hq]
theorem wo_8 {A : Ar} (hW : WA A) {d : Nat} (h : aK A d = 8) (hn : ¬ (aP A d).length = 0) : wo A d = if wo A ((aP A d).getD ((tkU (wo A) (aP A d)).length - 1) 0) = lN 0 then (aV A d).toInt64 else wo A ((aP A d).getD ((tkU (wo A) (aP A d)).length - 1) 0) := by
  rw [wo_eq hW.eld, wl, h]
  have e : wlO 8 (aP A d) (wo A) = tkU (wo A) (aP A d) := by simp [wlO]
  rw [e, wAcc, if_neg (by decide), tkU_end _ _ 0 _ _ (fun z => hn (by rw [z]; rfl))]; rfl
theorem wo_all {A : Ar} (hW : WA A) {d : Nat} (h0 : ¬ aK A d = 0) (h7 : ¬ aK A d = 7) (h8 : ¬ aK A d = 8) : wo A d = wAcc (aK A d) (aV A d) (aP A d).length ((aP A d).map (wo A)) := by
  rw [wo_eq hW.eld, wl, wlO, if_neg h0, if_neg h7, if_neg h8]
theorem tkU_pos {w : Nat → Int64} {l : List Nat} (h : ¬ l.length = 0) : 1 ≤ (tkU w l).length := by
  rcases l with _ | ⟨q, l⟩
  · exact absurd rfl h
  · simp only [tkU]; split <;> simp
/-- but for worths and marks all is the same -/
def xL (τ σ : St) : Prop := gN τ = gN σ ∧ gA τ = gA σ ∧ gI τ = gI σ ∧ gJ τ = gJ σ ∧ gB τ = gB σ ∧ gO τ = gO σ ∧ gP τ = gP σ
theorem xL_ars {τ σ : St} (h : xL τ σ) : ars τ = ars σ := by
  obtain ⟨h1, h2, h3, h4, h5, h6, h7⟩ := h
  simp only [ars, h1, h2, h4, h7]

set_option maxHeartbeats 4000000 in
set_option maxRecDepth 100000 in
theorem r_worthIn (l : Launch) (G : Gx) (a : Nat → Nat) (σ : St) {A : Ar} (d : Nat) (hx : RRd A σ) (hW : WA A) (hd : d < aN A) (hw : ∀ p, p < d → gL σ 0 p = wo A p) : MM l G ⟨"NestedDeedsModel", "worthIn", "(I)J"⟩ prog_14_method_18_code 5 (some .long) 2 51 [.ref (a 0), .int (nI d)] (rw G a σ) (fun rv w => rv = some (.long (wo A d)) ∧ w = rw G a σ) := by
  refine MM.of (lv := [(0, .ref (a 0)), (1, .int (nI d))]) (by decide +kernel) rfl (Nat.le_of_ble_eq_true rfl) ?_
  intro Z hRf hRl hl hG hn hk ht hA hQ X
  subst hG hl
  have X : XC Z "NestedDeedsModel" prog_14_method_18_code (some .long) := X
  have hk0 : zk Z ≤ (zR Z).cells := hk ▸ Nat.zero_le _
  have ht0 : zt Z ≤ (zR Z).slots := ht ▸ Nat.zero_le _
  have hkd := hW.2.2.1 d hd
  obtain ⟨ix, hX⟩ := id hx
  obtain ⟨g0, g1, g2, g3⟩ := hX
  obtain ⟨q1, q2, q3, q4, q5, q6, q7⟩ := g2 d hd
  have hT := hW.2.1
  have hN := hW.1
  have hln := tot_len hW hd
  have hgd : ∀ i, i < (aP A d).length → (aP A d).getD i 0 < d := fun i hi => by rw [List.getD_eq_getElem?_getD, List.getElem?_eq_getElem hi]; exact hW.lt (List.getElem_mem _)
  refine V.aload_n X 0 dX12_worthIn_0 rfl rfl ?_
  refine Vg_r_0_partMany X tw_831 dX12_worthIn_1 ?_
  refine V.iload_n X 1 dX12_worthIn_4 rfl rfl ?_
  refine Va_r_partMany (x := gA σ 1 d) X (by omega) dX12_worthIn_5 rfl ?_
  refine V.istore_n X (lv' := [(2, .int (nI (gA σ 1 d))), (0, .ref (a 0)), (1, .int (nI d))]) dX12_worthIn_6 rfl (ltn hn (by decide)) rfl ?_
  refine V.aload_n X 1 dX12_worthIn_7 rfl rfl ?_
  refine Vg_r_0_kind X tw_829 dX12_worthIn_8 ?_
  refine V.iload_n X 2 dX12_worthIn_11 rfl rfl ?_
  refine Va_r_kind (x := gA σ 0 d) X (by omega) dX12_worthIn_12 rfl ?_
  refine V.if_eqN X 42 dX12_worthIn_13 (by decide) (by omega) (fun c13 => ?_) (fun c13 => ?_)
  · refine V.aload_n X 1 dX12_worthIn_42 rfl rfl ?_
    refine Vg_r_0_number X tw_830 dX12_worthIn_43 ?_
    refine V.iload_n X 2 dX12_worthIn_46 rfl rfl ?_
    refine Va_r_number (x := gJ σ 0 d) X (by omega) dX12_worthIn_47 rfl ?_
    refine V.i2l X dX12_worthIn_48 rfl ?_
    exact V.lret X rfl hA hk ht hQ rfl dX12_worthIn_49 (⟨by rw [wo_0 (d := d) hW (by omega), q2], rfl⟩)
  · refine V.iload_n X 0 dX12_worthIn_16 rfl rfl ?_
    refine V.if_neN X 50 dX12_worthIn_17 (by decide) (by omega) (fun c17 => ?_) (fun c17 => ?_)
    · refine V.aload_n X 1 dX12_worthIn_50 rfl rfl ?_
      refine Vg_r_0_kind X tw_829 dX12_worthIn_51 ?_
      refine V.iload_n X 2 dX12_worthIn_54 rfl rfl ?_
      refine Va_r_kind (x := gA σ 0 d) X (by omega) dX12_worthIn_55 rfl ?_
      refine V.bipush X (v := nI 7) dX12_worthIn_56 (by decide) ?_
      refine V.icmp_neN X 91 dX12_worthIn_58 (by decide) (by omega) (by decide) (fun c58 => ?_) (fun c58 => ?_)
      · refine V.aload_n X 1 dX12_worthIn_91 rfl rfl ?_
        refine Vg_r_0_kind X tw_829 dX12_worthIn_92 ?_
        refine V.iload_n X 2 dX12_worthIn_95 rfl rfl ?_
        refine Va_r_kind (x := gA σ 0 d) X (by omega) dX12_worthIn_96 rfl ?_
        refine V.bipush X (v := nI 8) dX12_worthIn_97 (by decide) ?_
        refine V.icmp_neN X 138 dX12_worthIn_99 (by decide) (by omega) (by decide) (fun c99 => ?_) (fun c99 => ?_)
        · refine V.aload_n X 1 dX12_worthIn_138 rfl rfl ?_
          refine V.iload_n X 2 dX12_worthIn_139 rfl rfl ?_
          refine V.callV X rfl (r_byAll (zl Z) (zG Z) a σ (A := A) d hx hW hd hw (by omega) (by omega)) cv_X12_129 rfl 0 rfl rfl (len hRf (by decide)) (len hRl (by decide)) hk0 ht0 [] rfl (Nat.le_of_ble_eq_true rfl) dX12_worthIn_140 ?_
          rintro _ _ ⟨rfl, rfl⟩
          refine V.eqs (st' := [.long (wAcc (aK A d) (aV A d) (aP A d).length ((aP A d).map (wo A)))]) rfl ?_
          exact V.lret X rfl hA hk ht hQ rfl dX12_worthIn_143 (⟨by rw [wo_all (d := d) hW (by omega) (by omega) (by omega)], rfl⟩)
        · refine V.aload_n X 1 dX12_worthIn_102 rfl rfl ?_
          refine Vg_r_0_worths X tw_844 dX12_worthIn_103 ?_
          refine V.aload_n X 1 dX12_worthIn_106 rfl rfl ?_
          refine V.iload_n X 2 dX12_worthIn_107 rfl rfl ?_
          refine V.aload_n X 1 dX12_worthIn_108 rfl rfl ?_
          refine V.iload_n X 2 dX12_worthIn_109 rfl rfl ?_
          refine V.callV X rfl (r_lookedAt (zl Z) (zG Z) a σ (A := A) d hx hW hd hw) cv_X12_126 rfl 0 rfl rfl (len hRf (by decide)) (len hRl (by decide)) hk0 ht0 [.int (nI d), .ref (a 0), .ref (a 9)] rfl (Nat.le_of_ble_eq_true rfl) dX12_worthIn_110 ?_
          rintro _ _ ⟨rfl, rfl⟩
          refine V.eqs (st' := [.int (nI ((tkU (wo A) (aP A d)).length)), .int (nI d), .ref (a 0), .ref (a 9)]) rfl ?_
          refine V.iconst X (v := nI 1) dX12_worthIn_113 (by decide) ?_
          refine V.isubN X dX12_worthIn_114 (by exact tkU_pos (by omega)) ?_
          refine V.callV X rfl (r_partAt (zl Z) (zG Z) a σ (A := A) d ((tkU (wo A) (aP A d)).length - 1) hx hW hd (by have h8a := tkU_pos (w := wo A) (l := aP A d) (by omega); have h8b := tkU_len (w := wo A) (aP A d); omega)) cv_X12_115 rfl 0 rfl rfl (len hRf (by decide)) (len hRl (by decide)) hk0 ht0 [.ref (a 9)] rfl (Nat.le_of_ble_eq_true rfl) dX12_worthIn_115 ?_
          rintro _ _ ⟨rfl, rfl⟩
          refine V.eqs (st' := [.int (nI ((aP A d).getD ((tkU (wo A) (aP A d)).length - 1) 0)), .ref (a 9)]) rfl ?_
          have h8a := tkU_pos (w := wo A) (l := aP A d) (by omega)
          have h8b := tkU_len (w := wo A) (aP A d)
          have hz := hgd ((tkU (wo A) (aP A d)).length - 1) (by omega)
          refine Va_r_worths (x := gL σ 0 ((aP A d).getD ((tkU (wo A) (aP A d)).length - 1) 0)) X (by omega) dX12_worthIn_118 rfl ?_
          refine V.topl (y := wo A ((aP A d).getD ((tkU (wo A) (aP A d)).length - 1) 0)) (by rw [hw _ hz]) ?_
          refine V.lstore_n X (lv' := [(3, .long (wo A ((aP A d).getD ((tkU (wo A) (aP A d)).length - 1) 0))), (2, .int (nI (gA σ 1 d))), (0, .ref (a 0)), (1, .int (nI d))]) dX12_worthIn_119 rfl (ltn hn (by decide)) rfl ?_
          refine V.lload_n X 0 dX12_worthIn_120 rfl rfl ?_
          refine V.lconst X (v := lN 0) dX12_worthIn_121 (by decide) ?_
          refine V.lif_eq X 130 dX12_worthIn_122 dX12_worthIn_123 (by decide) (fun c121 => ?_) (fun c121 => ?_)
          · refine V.aload_n X 2 dX12_worthIn_130 rfl rfl ?_
            refine Vg_r_0_number X tw_830 dX12_worthIn_131 ?_
            refine V.iload_n X 3 dX12_worthIn_134 rfl rfl ?_
            refine Va_r_number (x := gJ σ 0 d) X (by omega) dX12_worthIn_135 rfl ?_
            refine V.i2l X dX12_worthIn_136 rfl ?_
            exact V.lret X rfl hA hk ht hQ rfl dX12_worthIn_137 (⟨by rw [wo_8 (d := d) hW (by omega) (by omega), if_pos c121, q2], rfl⟩)
          · refine V.lload_n X 0 dX12_worthIn_126 rfl rfl ?_
            refine V.goto X 137 dX12_worthIn_127 (by decide) ?_
            exact V.lret X rfl hA hk ht hQ rfl dX12_worthIn_137 (⟨by rw [wo_8 (d := d) hW (by omega) (by omega), if_neg c121], rfl⟩)
      · refine V.aload_n X 1 dX12_worthIn_61 rfl rfl ?_
        refine Vg_r_0_worths X tw_844 dX12_worthIn_62 ?_
        refine V.iload_n X 0 dX12_worthIn_65 rfl rfl ?_
        refine V.iconst X (v := nI 1) dX12_worthIn_66 (by decide) ?_
        refine V.icmp_neN X 79 dX12_worthIn_67 (by decide) (by omega) (by decide) (fun c67 => ?_) (fun c67 => ?_)
        · refine V.aload_n X 1 dX12_worthIn_79 rfl rfl ?_
          refine V.iload_n X 2 dX12_worthIn_80 rfl rfl ?_
          refine V.aload_n X 1 dX12_worthIn_81 rfl rfl ?_
          refine V.iload_n X 2 dX12_worthIn_82 rfl rfl ?_
          refine V.callV X rfl (r_chosen (zl Z) (zG Z) a σ (A := A) d hx hW hd hw (by omega)) cv_X12_122 rfl 0 rfl rfl (len hRf (by decide)) (len hRl (by decide)) hk0 ht0 [.int (nI d), .ref (a 0), .ref (a 9)] rfl (Nat.le_of_ble_eq_true rfl) dX12_worthIn_83 ?_
          rintro _ _ ⟨rfl, rfl⟩
          refine V.eqs (st' := [.int (nI (1 + fmodN (wo A ((aP A d).getD 0 0)) ((aP A d).length - 1))), .int (nI d), .ref (a 0), .ref (a 9)]) rfl ?_
          refine V.callV X rfl (r_partAt (zl Z) (zG Z) a σ (A := A) d (1 + fmodN (wo A ((aP A d).getD 0 0)) ((aP A d).length - 1)) hx hW hd (by have := fmodN_lt (wo A ((aP A d).getD 0 0)) (show 0 < (aP A d).length - 1 by omega); omega)) cv_X12_115 rfl 0 rfl rfl (len hRf (by decide)) (len hRl (by decide)) hk0 ht0 [.ref (a 9)] rfl (Nat.le_of_ble_eq_true rfl) dX12_worthIn_86 ?_
          rintro _ _ ⟨rfl, rfl⟩
          refine V.eqs (st' := [.int (nI ((aP A d).getD (1 + fmodN (wo A ((aP A d).getD 0 0)) ((aP A d).length - 1)) 0)), .ref (a 9)]) rfl ?_
          have hz := hgd (1 + fmodN (wo A ((aP A d).getD 0 0)) ((aP A d).length - 1)) (by have := fmodN_lt (wo A ((aP A d).getD 0 0)) (show 0 < (aP A d).length - 1 by omega); omega)
          refine Va_r_worths (x := gL σ 0 ((aP A d).getD (1 + fmodN (wo A ((aP A d).getD 0 0)) ((aP A d).length - 1)) 0)) X (by omega) dX12_worthIn_89 rfl ?_
          exact V.lret X rfl hA hk ht hQ rfl dX12_worthIn_90 (⟨by rw [wo_72 (d := d) hW (by omega) (by omega), hw _ hz], rfl⟩)
        · refine V.aload_n X 1 dX12_worthIn_70 rfl rfl ?_
          refine V.iload_n X 2 dX12_worthIn_71 rfl rfl ?_
          refine V.iconst X (v := nI 0) dX12_worthIn_72 (by decide) ?_
          refine V.callV X rfl (r_partAt (zl Z) (zG Z) a σ (A := A) d 0 hx hW hd (by omega)) cv_X12_115 rfl 0 rfl rfl (len hRf (by decide)) (len hRl (by decide)) hk0 ht0 [.ref (a 9)] rfl (Nat.le_of_ble_eq_true rfl) dX12_worthIn_73 ?_
          rintro _ _ ⟨rfl, rfl⟩
          refine V.eqs (st' := [.int (nI ((aP A d).getD 0 0)), .ref (a 9)]) rfl ?_
          refine V.goto X 89 dX12_worthIn_76 (by decide) ?_
          have hz := hgd (0) (by omega)
          refine Va_r_worths (x := gL σ 0 ((aP A d).getD 0 0)) X (by omega) dX12_worthIn_89 rfl ?_
          exact V.lret X rfl hA hk ht hQ rfl dX12_worthIn_90 (⟨by rw [wo_71 (d := d) hW (by omega) (by omega), hw _ hz], rfl⟩)
    · refine V.aload_n X 1 dX12_worthIn_20 rfl rfl ?_
      refine Vg_r_0_kind X tw_829 dX12_worthIn_21 ?_
      refine V.iload_n X 2 dX12_worthIn_24 rfl rfl ?_
      refine Va_r_kind (x := gA σ 0 d) X (by omega) dX12_worthIn_25 rfl ?_
      refine V.bipush X (v := nI 7) dX12_worthIn_26 (by decide) ?_
      refine V.icmp_eqN X 42 dX12_worthIn_28 (by decide) (by omega) (by decide) (fun c28 => ?_) (fun c28 => ?_)
      · refine V.aload_n X 1 dX12_worthIn_42 rfl rfl ?_
        refine Vg_r_0_number X tw_830 dX12_worthIn_43 ?_
        refine V.iload_n X 2 dX12_worthIn_46 rfl rfl ?_
        refine Va_r_number (x := gJ σ 0 d) X (by omega) dX12_worthIn_47 rfl ?_
        refine V.i2l X dX12_worthIn_48 rfl ?_
        exact V.lret X rfl hA hk ht hQ rfl dX12_worthIn_49 (⟨by rw [wo_e (d := d) hW (by omega) (by omega), q2], rfl⟩)
      · refine V.aload_n X 1 dX12_worthIn_31 rfl rfl ?_
        refine Vg_r_0_kind X tw_829 dX12_worthIn_32 ?_
        refine V.iload_n X 2 dX12_worthIn_35 rfl rfl ?_
        refine Va_r_kind (x := gA σ 0 d) X (by omega) dX12_worthIn_36 rfl ?_
        refine V.bipush X (v := nI 8) dX12_worthIn_37 (by decide) ?_
        refine V.icmp_neN X 50 dX12_worthIn_39 (by decide) (by omega) (by decide) (fun c39 => ?_) (fun c39 => ?_)
        · refine V.aload_n X 1 dX12_worthIn_50 rfl rfl ?_
          refine Vg_r_0_kind X tw_829 dX12_worthIn_51 ?_
          refine V.iload_n X 2 dX12_worthIn_54 rfl rfl ?_
          refine Va_r_kind (x := gA σ 0 d) X (by omega) dX12_worthIn_55 rfl ?_
          refine V.bipush X (v := nI 7) dX12_worthIn_56 (by decide) ?_
          refine V.icmp_neN X 91 dX12_worthIn_58 (by decide) (by omega) (by decide) (fun c58 => ?_) (fun c58 => ?_)
          · refine V.aload_n X 1 dX12_worthIn_91 rfl rfl ?_
            refine Vg_r_0_kind X tw_829 dX12_worthIn_92 ?_
            refine V.iload_n X 2 dX12_worthIn_95 rfl rfl ?_
            refine Va_r_kind (x := gA σ 0 d) X (by omega) dX12_worthIn_96 rfl ?_
            refine V.bipush X (v := nI 8) dX12_worthIn_97 (by decide) ?_
            refine V.icmp_neN X 138 dX12_worthIn_99 (by decide) (by omega) (by decide) (fun c99 => ?_) (fun c99 => ?_)
            · refine V.aload_n X 1 dX12_worthIn_138 rfl rfl ?_
              refine V.iload_n X 2 dX12_worthIn_139 rfl rfl ?_
              refine V.callV X rfl (r_byAll (zl Z) (zG Z) a σ (A := A) d hx hW hd hw (by omega) (by omega)) cv_X12_129 rfl 0 rfl rfl (len hRf (by decide)) (len hRl (by decide)) hk0 ht0 [] rfl (Nat.le_of_ble_eq_true rfl) dX12_worthIn_140 ?_
              rintro _ _ ⟨rfl, rfl⟩
              refine V.eqs (st' := [.long (wAcc (aK A d) (aV A d) (aP A d).length ((aP A d).map (wo A)))]) rfl ?_
              exact V.lret X rfl hA hk ht hQ rfl dX12_worthIn_143 (⟨by rw [wo_all (d := d) hW (by omega) (by omega) (by omega)], rfl⟩)
            · refine V.aload_n X 1 dX12_worthIn_102 rfl rfl ?_
              refine Vg_r_0_worths X tw_844 dX12_worthIn_103 ?_
              refine V.aload_n X 1 dX12_worthIn_106 rfl rfl ?_
              refine V.iload_n X 2 dX12_worthIn_107 rfl rfl ?_
              refine V.aload_n X 1 dX12_worthIn_108 rfl rfl ?_
              refine V.iload_n X 2 dX12_worthIn_109 rfl rfl ?_
              refine V.callV X rfl (r_lookedAt (zl Z) (zG Z) a σ (A := A) d hx hW hd hw) cv_X12_126 rfl 0 rfl rfl (len hRf (by decide)) (len hRl (by decide)) hk0 ht0 [.int (nI d), .ref (a 0), .ref (a 9)] rfl (Nat.le_of_ble_eq_true rfl) dX12_worthIn_110 ?_
              rintro _ _ ⟨rfl, rfl⟩
              refine V.eqs (st' := [.int (nI ((tkU (wo A) (aP A d)).length)), .int (nI d), .ref (a 0), .ref (a 9)]) rfl ?_
              refine V.iconst X (v := nI 1) dX12_worthIn_113 (by decide) ?_
              refine V.isubN X dX12_worthIn_114 (by exact tkU_pos (by omega)) ?_
              refine V.callV X rfl (r_partAt (zl Z) (zG Z) a σ (A := A) d ((tkU (wo A) (aP A d)).length - 1) hx hW hd (by have h8a := tkU_pos (w := wo A) (l := aP A d) (by omega); have h8b := tkU_len (w := wo A) (aP A d); omega)) cv_X12_115 rfl 0 rfl rfl (len hRf (by decide)) (len hRl (by decide)) hk0 ht0 [.ref (a 9)] rfl (Nat.le_of_ble_eq_true rfl) dX12_worthIn_115 ?_
              rintro _ _ ⟨rfl, rfl⟩
              refine V.eqs (st' := [.int (nI ((aP A d).getD ((tkU (wo A) (aP A d)).length - 1) 0)), .ref (a 9)]) rfl ?_
              have h8a := tkU_pos (w := wo A) (l := aP A d) (by omega)
              have h8b := tkU_len (w := wo A) (aP A d)
              have hz := hgd ((tkU (wo A) (aP A d)).length - 1) (by omega)
              refine Va_r_worths (x := gL σ 0 ((aP A d).getD ((tkU (wo A) (aP A d)).length - 1) 0)) X (by omega) dX12_worthIn_118 rfl ?_
              refine V.topl (y := wo A ((aP A d).getD ((tkU (wo A) (aP A d)).length - 1) 0)) (by rw [hw _ hz]) ?_
              refine V.lstore_n X (lv' := [(3, .long (wo A ((aP A d).getD ((tkU (wo A) (aP A d)).length - 1) 0))), (2, .int (nI (gA σ 1 d))), (0, .ref (a 0)), (1, .int (nI d))]) dX12_worthIn_119 rfl (ltn hn (by decide)) rfl ?_
              refine V.lload_n X 0 dX12_worthIn_120 rfl rfl ?_
              refine V.lconst X (v := lN 0) dX12_worthIn_121 (by decide) ?_
              refine V.lif_eq X 130 dX12_worthIn_122 dX12_worthIn_123 (by decide) (fun c121 => ?_) (fun c121 => ?_)
              · refine V.aload_n X 2 dX12_worthIn_130 rfl rfl ?_
                refine Vg_r_0_number X tw_830 dX12_worthIn_131 ?_
                refine V.iload_n X 3 dX12_worthIn_134 rfl rfl ?_
                refine Va_r_number (x := gJ σ 0 d) X (by omega) dX12_worthIn_135 rfl ?_
                refine V.i2l X dX12_worthIn_136 rfl ?_
                exact V.lret X rfl hA hk ht hQ rfl dX12_worthIn_137 (⟨by rw [wo_8 (d := d) hW (by omega) (by omega), if_pos c121, q2], rfl⟩)
              · refine V.lload_n X 0 dX12_worthIn_126 rfl rfl ?_
                refine V.goto X 137 dX12_worthIn_127 (by decide) ?_
                exact V.lret X rfl hA hk ht hQ rfl dX12_worthIn_137 (⟨by rw [wo_8 (d := d) hW (by omega) (by omega), if_neg c121], rfl⟩)
          · refine V.aload_n X 1 dX12_worthIn_61 rfl rfl ?_
            refine Vg_r_0_worths X tw_844 dX12_worthIn_62 ?_
            refine V.iload_n X 0 dX12_worthIn_65 rfl rfl ?_
            refine V.iconst X (v := nI 1) dX12_worthIn_66 (by decide) ?_
            refine V.icmp_neN X 79 dX12_worthIn_67 (by decide) (by omega) (by decide) (fun c67 => ?_) (fun c67 => ?_)
            · refine V.aload_n X 1 dX12_worthIn_79 rfl rfl ?_
              refine V.iload_n X 2 dX12_worthIn_80 rfl rfl ?_
              refine V.aload_n X 1 dX12_worthIn_81 rfl rfl ?_
              refine V.iload_n X 2 dX12_worthIn_82 rfl rfl ?_
              refine V.callV X rfl (r_chosen (zl Z) (zG Z) a σ (A := A) d hx hW hd hw (by omega)) cv_X12_122 rfl 0 rfl rfl (len hRf (by decide)) (len hRl (by decide)) hk0 ht0 [.int (nI d), .ref (a 0), .ref (a 9)] rfl (Nat.le_of_ble_eq_true rfl) dX12_worthIn_83 ?_
              rintro _ _ ⟨rfl, rfl⟩
              refine V.eqs (st' := [.int (nI (1 + fmodN (wo A ((aP A d).getD 0 0)) ((aP A d).length - 1))), .int (nI d), .ref (a 0), .ref (a 9)]) rfl ?_
              refine V.callV X rfl (r_partAt (zl Z) (zG Z) a σ (A := A) d (1 + fmodN (wo A ((aP A d).getD 0 0)) ((aP A d).length - 1)) hx hW hd (by have := fmodN_lt (wo A ((aP A d).getD 0 0)) (show 0 < (aP A d).length - 1 by omega); omega)) cv_X12_115 rfl 0 rfl rfl (len hRf (by decide)) (len hRl (by decide)) hk0 ht0 [.ref (a 9)] rfl (Nat.le_of_ble_eq_true rfl) dX12_worthIn_86 ?_
              rintro _ _ ⟨rfl, rfl⟩
              refine V.eqs (st' := [.int (nI ((aP A d).getD (1 + fmodN (wo A ((aP A d).getD 0 0)) ((aP A d).length - 1)) 0)), .ref (a 9)]) rfl ?_
              have hz := hgd (1 + fmodN (wo A ((aP A d).getD 0 0)) ((aP A d).length - 1)) (by have := fmodN_lt (wo A ((aP A d).getD 0 0)) (show 0 < (aP A d).length - 1 by omega); omega)
              refine Va_r_worths (x := gL σ 0 ((aP A d).getD (1 + fmodN (wo A ((aP A d).getD 0 0)) ((aP A d).length - 1)) 0)) X (by omega) dX12_worthIn_89 rfl ?_
              exact V.lret X rfl hA hk ht hQ rfl dX12_worthIn_90 (⟨by rw [wo_72 (d := d) hW (by omega) (by omega), hw _ hz], rfl⟩)
            · refine V.aload_n X 1 dX12_worthIn_70 rfl rfl ?_
              refine V.iload_n X 2 dX12_worthIn_71 rfl rfl ?_
              refine V.iconst X (v := nI 0) dX12_worthIn_72 (by decide) ?_
              refine V.callV X rfl (r_partAt (zl Z) (zG Z) a σ (A := A) d 0 hx hW hd (by omega)) cv_X12_115 rfl 0 rfl rfl (len hRf (by decide)) (len hRl (by decide)) hk0 ht0 [.ref (a 9)] rfl (Nat.le_of_ble_eq_true rfl) dX12_worthIn_73 ?_
              rintro _ _ ⟨rfl, rfl⟩
              refine V.eqs (st' := [.int (nI ((aP A d).getD 0 0)), .ref (a 9)]) rfl ?_
              refine V.goto X 89 dX12_worthIn_76 (by decide) ?_
              have hz := hgd (0) (by omega)
              refine Va_r_worths (x := gL σ 0 ((aP A d).getD 0 0)) X (by omega) dX12_worthIn_89 rfl ?_
              exact V.lret X rfl hA hk ht hQ rfl dX12_worthIn_90 (⟨by rw [wo_71 (d := d) hW (by omega) (by omega), hw _ hz], rfl⟩)
        · refine V.aload_n X 1 dX12_worthIn_42 rfl rfl ?_
          refine Vg_r_0_number X tw_830 dX12_worthIn_43 ?_
          refine V.iload_n X 2 dX12_worthIn_46 rfl rfl ?_
          refine Va_r_number (x := gJ σ 0 d) X (by omega) dX12_worthIn_47 rfl ?_
          refine V.i2l X dX12_worthIn_48 rfl ?_
          exact V.lret X rfl hA hk ht hQ rfl dX12_worthIn_49 (⟨by rw [wo_e (d := d) hW (by omega) (by omega), q2], rfl⟩)

set_option maxHeartbeats 4000000 in
set_option maxRecDepth 100000 in
theorem r_markIn (l : Launch) (G : Gx) (a : Nat → Nat) (σ : St) {A : Ar} (d : Nat) (hx : RRd A σ) (hW : WA A) (hd : d < aN A) (hm : ∀ p, p < d → gL σ 1 p = mrk A p) : MM l G ⟨"NestedDeedsModel", "markIn", "(I)J"⟩ prog_14_method_19_code 5 (some .long) 0 0 [.ref (a 0), .int (nI d)] (rw G a σ) (fun rv w => rv = some (.long (mrk A d)) ∧ w = rw G a σ) := by
  refine MM.of (lv := [(0, .ref (a 0)), (1, .int (nI d))]) (by decide +kernel) rfl (Nat.le_of_ble_eq_true rfl) ?_
  intro Z hRf hRl hl hG hn hk ht hA hQ X
  subst hG hl
  have X : XC Z "NestedDeedsModel" prog_14_method_19_code (some .long) := X
  have hk0 : zk Z ≤ (zR Z).cells := hk ▸ Nat.zero_le _
  have ht0 : zt Z ≤ (zR Z).slots := ht ▸ Nat.zero_le _
  have hkd := hW.2.2.1 d hd
  obtain ⟨ix, hX⟩ := id hx
  obtain ⟨g0, g1, g2, g3⟩ := hX
  obtain ⟨q1, q2, q3, q4, q5, q6, q7⟩ := g2 d hd
  have hT := hW.2.1
  have hN := hW.1
  have hln := tot_len hW hd
  have hpar : ∀ (k j : Nat), (ix d)[k]? = some j → j < 4000 ∧ gA σ 2 j < d ∧ gA σ 2 j < 1500 ∧ gA σ 2 j = (aP A d).getD k 0 ∧ gP σ 2 j = (ix d)[k + 1]? ∧ k < (aP A d).length := by
    intro k j hj
    obtain ⟨w1, w2, w3⟩ := q7 k j hj
    have hlt := (List.getElem?_eq_some_iff.mp hj).1
    have hp : (aP A d).getD k 0 < d := by
      rw [List.getD_eq_getElem?_getD, List.getElem?_eq_getElem (show k < (aP A d).length by omega)]; exact hW.lt (List.getElem_mem _)
    exact ⟨by omega, by omega, by omega, w2, w3, by omega⟩
  have LP : ∀ (m k : Nat), k + m = (aP A d).length → V Z (rw (zG Z) a σ) [(4, .int (oI ((ix d)[k]?))), (2, .long (mAc A d k)), (0, .ref (a 0)), (1, .int (nI d))] 40 [] := by
    intro m
    induction m with
    | zero =>
      intro k hkm
      have hno : (ix d)[k]? = none := List.getElem?_eq_none (by omega)
      refine V.eql (lv' := [(4, .int (-1)), (2, .long (mAc A d k)), (0, .ref (a 0)), (1, .int (nI d))]) (by rw [hno]; rfl) ?_
      refine V.iload X 0 dX12_markIn_40 rfl ?_
      refine V.iconst X (v := -1) dX12_markIn_42 (by decide) ?_
      refine V.icmp_eq X 77 dX12_markIn_43 (by decide) (fun c43 => ?_) (fun c43 => by exfalso; exact absurd rfl c43)
      refine V.lload_n X 1 dX12_markIn_77 rfl rfl ?_
      refine V.lload_n X 1 dX12_markIn_78 rfl rfl ?_
      refine V.bipush X (v := nI 29) dX12_markIn_79 (by decide) ?_
      refine V.lushr X dX12_markIn_81 rfl ?_
      refine V.lxor X dX12_markIn_82 ?_
      exact V.lret X rfl hA hk ht hQ rfl dX12_markIn_83 (⟨by rw [← mAc_end hW.eld (show (aP A d).length ≤ k by omega)]; rfl, rfl⟩)
    | succ m ih =>
      intro k hkm
      obtain ⟨j, hj⟩ : ∃ j, (ix d)[k]? = some j := ⟨_, List.getElem?_eq_getElem (by omega)⟩
      obtain ⟨w1, w2, w3, w4, w5, w6⟩ := hpar k j hj
      have hp : (aP A d)[k]? = some (gA σ 2 j) := by rw [w4, List.getD_eq_getElem?_getD, List.getElem?_eq_getElem w6]; rfl
      have hmo := hm _ w2
      refine V.eql (lv' := [(4, .int (nI j)), (2, .long (mAc A d k)), (0, .ref (a 0)), (1, .int (nI d))]) (by rw [hj]; rfl) ?_
      refine V.iload X 0 dX12_markIn_40 rfl ?_
      refine V.iconst X (v := -1) dX12_markIn_42 (by decide) ?_
      refine V.icmp_eq X 77 dX12_markIn_43 (by decide) (fun c43 => by exfalso; exact nI_nm1 (by omega) c43) (fun c43 => ?_)
      refine V.lload_n X 1 dX12_markIn_46 rfl rfl ?_
      refine V.ldc2 X dX12_markIn_47 tw_1069 ?_
      refine V.topl (y := lN 1000003) (by decide) ?_
      refine V.lmul X dX12_markIn_50 ?_
      refine V.aload_n X 2 dX12_markIn_51 rfl rfl ?_
      refine Vg_r_0_marks X tw_845 dX12_markIn_52 ?_
      refine V.aload_n X 2 dX12_markIn_55 rfl rfl ?_
      refine Vg_r_0_partOf X tw_835 dX12_markIn_56 ?_
      refine V.iload X 0 dX12_markIn_59 rfl ?_
      refine Va_r_partOf (x := gA σ 2 j) X (by omega) dX12_markIn_61 rfl ?_
      refine Va_r_marks (x := gL σ 1 (gA σ 2 j)) X (by omega) dX12_markIn_62 rfl ?_
      refine V.lxor X dX12_markIn_63 ?_
      refine V.topl (y := mAc A d (k + 1)) (by rw [mAc_succ hp, hmo]; rfl) ?_
      refine V.lstore_n X (lv' := [(2, .long (mAc A d (k + 1))), (4, .int (nI j)), (0, .ref (a 0)), (1, .int (nI d))]) dX12_markIn_64 rfl (ltn hn (by decide)) rfl ?_
      refine V.aload_n X 2 dX12_markIn_65 rfl rfl ?_
      refine Vg_r_0_nextPart X tw_836 dX12_markIn_66 ?_
      refine V.iload X 1 dX12_markIn_69 rfl ?_
      refine Va_r_nextPart (x := gP σ 2 j) X (by omega) dX12_markIn_71 rfl ?_
      refine V.topi (y := oI (ix d)[k + 1]?) (by rw [w5]) ?_
      refine V.istore X (lv' := [(4, .int (oI ((ix d)[k + 1]?))), (2, .long (mAc A d (k + 1))), (0, .ref (a 0)), (1, .int (nI d))]) dX12_markIn_72 (ltn hn (by decide)) rfl ?_
      refine V.goto X 40 dX12_markIn_74 (by decide) ?_
      exact V.sub [0, 1, 2, 3] rfl (ih (k + 1) (by omega))
  refine V.ldc2 X dX12_markIn_0 tw_1067 ?_
  refine V.topl (y := lN 7) (by decide) ?_
  refine V.lstore_n X (lv' := [(2, .long (lN 7)), (0, .ref (a 0)), (1, .int (nI d))]) dX12_markIn_3 rfl (ltn hn (by decide)) rfl ?_
  refine V.lload_n X 0 dX12_markIn_4 rfl rfl ?_
  refine V.ldc2 X dX12_markIn_5 tw_1068 ?_
  refine V.topl (y := lN 31) (by decide) ?_
  refine V.lmulK X dX12_markIn_8 ?_
  refine V.aload_n X 1 dX12_markIn_9 rfl rfl ?_
  refine Vg_r_0_kind X tw_829 dX12_markIn_10 ?_
  refine V.iload_n X 2 dX12_markIn_13 rfl rfl ?_
  refine Va_r_kind (x := gA σ 0 d) X (by omega) dX12_markIn_14 rfl ?_
  refine V.i2lN X dX12_markIn_15 (by omega) ?_
  refine V.laddK X dX12_markIn_16 ?_
  refine V.lstore_n X (lv' := [(2, .long (lN ((7 * 31) + (gA σ 0 d)))), (0, .ref (a 0)), (1, .int (nI d))]) dX12_markIn_17 rfl (ltn hn (by decide)) rfl ?_
  refine V.lload_n X 0 dX12_markIn_18 rfl rfl ?_
  refine V.ldc2 X dX12_markIn_19 tw_1068 ?_
  refine V.topl (y := lN 31) (by decide) ?_
  refine V.lmulK X dX12_markIn_22 ?_
  refine V.aload_n X 1 dX12_markIn_23 rfl rfl ?_
  refine Vg_r_0_number X tw_830 dX12_markIn_24 ?_
  refine V.iload_n X 2 dX12_markIn_27 rfl rfl ?_
  refine Va_r_number (x := gJ σ 0 d) X (by omega) dX12_markIn_28 rfl ?_
  refine V.i2l X dX12_markIn_29 rfl ?_
  refine V.ladd X dX12_markIn_30 ?_
  refine V.topl (y := mAc A d 0) (by rw [q1, q2]; rfl) ?_
  refine V.lstore_n X (lv' := [(2, .long (mAc A d 0)), (0, .ref (a 0)), (1, .int (nI d))]) dX12_markIn_31 rfl (ltn hn (by decide)) rfl ?_
  refine V.aload_n X 1 dX12_markIn_32 rfl rfl ?_
  refine Vg_r_0_firstPart X tw_832 dX12_markIn_33 ?_
  refine V.iload_n X 2 dX12_markIn_36 rfl rfl ?_
  refine Va_r_firstPart (x := gP σ 0 d) X (by omega) dX12_markIn_37 rfl ?_
  refine V.topi (y := oI (ix d)[0]?) (by rw [q5]) ?_
  refine V.istore X (lv' := [(4, .int (oI ((ix d)[0]?))), (2, .long (mAc A d 0)), (0, .ref (a 0)), (1, .int (nI d))]) dX12_markIn_38 (ltn hn (by decide)) rfl ?_
  exact V.sub [0, 1, 2, 3] rfl (LP (aP A d).length 0 (by omega))

set_option maxHeartbeats 4000000 in
set_option maxRecDepth 100000 in
theorem r_workOut (l : Launch) (G : Gx) (a : Nat → Nat) (σ : St) {A : Ar} (r : Nat) (hx : RRd A σ) (hW : WA A) (hr : r < aN A) : MM l G ⟨"NestedDeedsModel", "workOut", "(I)V"⟩ prog_14_method_20_code 3 none 3 75 [.ref (a 0), .int (nI r)] (rw G a σ) (fun rv w => rv = none ∧ ∃ τ, w = rw G a τ ∧ xL τ σ ∧ ∀ p, p ≤ r → gL τ 0 p = wo A p ∧ gL τ 1 p = mrk A p) := by
  refine MM.of (lv := [(0, .ref (a 0)), (1, .int (nI r))]) (by decide +kernel) rfl (Nat.le_of_ble_eq_true rfl) ?_
  intro Z hRf hRl hl hG hn hk ht hA hQ X
  subst hG hl
  have X : XC Z "NestedDeedsModel" prog_14_method_20_code none := X
  have hk0 : zk Z ≤ (zR Z).cells := hk ▸ Nat.zero_le _
  have ht0 : zt Z ≤ (zR Z).slots := ht ▸ Nat.zero_le _
  have hN := hW.1
  have LP : ∀ (m k : Nat) (τ : St), k + m = r + 1 → xL τ σ → (∀ p, p < k → gL τ 0 p = wo A p ∧ gL τ 1 p = mrk A p) → V Z (rw (zG Z) a τ) [(2, .int (nI k)), (0, .ref (a 0)), (1, .int (nI r))] 2 [] := by
    intro m
    induction m with
    | zero =>
      intro k τ hkm b1 b2
      refine V.iload_n X 0 dX12_workOut_2 rfl rfl ?_
      refine V.iload_n X 2 dX12_workOut_3 rfl rfl ?_
      refine V.icmp_gtN X 35 dX12_workOut_4 (by decide) (by omega) (by omega) (fun c4 => ?_) (fun c4 => by exfalso; omega)
      exact V.vret X rfl hA hk ht hQ rfl dX12_workOut_35 (⟨rfl, τ, rfl, b1, fun p hp => b2 p (by omega)⟩)
    | succ m ih =>
      intro k τ hkm b1 b2
      have hxt : RRd A τ := hx.ofa (xL_ars b1)
      refine V.iload_n X 0 dX12_workOut_2 rfl rfl ?_
      refine V.iload_n X 2 dX12_workOut_3 rfl rfl ?_
      refine V.icmp_gtN X 35 dX12_workOut_4 (by decide) (by omega) (by omega) (fun c4 => by exfalso; omega) (fun c4 => ?_)
      refine V.aload_n X 1 dX12_workOut_7 rfl rfl ?_
      refine Vg_r_0_worths X tw_844 dX12_workOut_8 ?_
      refine V.iload_n X 0 dX12_workOut_11 rfl rfl ?_
      refine V.aload_n X 1 dX12_workOut_12 rfl rfl ?_
      refine V.iload_n X 0 dX12_workOut_13 rfl rfl ?_
      refine V.callV X rfl (r_worthIn (zl Z) (zG Z) a (τ) (A := A) k hxt hW (by omega) (fun p hp => (b2 p hp).1)) cv_X12_139 rfl 0 rfl rfl (len hRf (by decide)) (len hRl (by decide)) hk0 ht0 [.int (nI k), .ref (a 9)] rfl (Nat.le_of_ble_eq_true rfl) dX12_workOut_14 ?_
      rintro _ _ ⟨rfl, rfl⟩
      refine V.eqs (st' := [.long (wo A k), .int (nI k), .ref (a 9)]) rfl ?_
      refine Vs_r_worths (f := gL (τ) 0) (i := k) (x := wo A k) X (by omega) dX12_workOut_17 rfl ?_
      refine V.aload_n X 1 dX12_workOut_18 rfl rfl ?_
      refine Vg_r_0_marks X tw_845 dX12_workOut_19 ?_
      refine V.iload_n X 0 dX12_workOut_22 rfl rfl ?_
      refine V.aload_n X 1 dX12_workOut_23 rfl rfl ?_
      refine V.iload_n X 0 dX12_workOut_24 rfl rfl ?_
      refine V.callV X rfl (r_markIn (zl Z) (zG Z) a (sL (τ) 0 (va_up (gL (τ) 0) k (wo A k))) (A := A) k (hxt.ofa rfl) hW (by omega) (fun p hp => (b2 p hp).2)) cv_X12_142 rfl 0 rfl rfl (len hRf (by decide)) (len hRl (by decide)) hk0 ht0 [.int (nI k), .ref (a 10)] rfl (Nat.le_of_ble_eq_true rfl) dX12_workOut_25 ?_
      rintro _ _ ⟨rfl, rfl⟩
      refine V.eqs (st' := [.long (mrk A k), .int (nI k), .ref (a 10)]) rfl ?_
      refine Vs_r_marks (f := gL (τ) 1) (i := k) (x := mrk A k) X (by omega) dX12_workOut_28 rfl ?_
      refine V.iinc X (v := nI (k + 1)) (lv' := [(2, .int (nI (k + 1))), (0, .ref (a 0)), (1, .int (nI r))]) (k0 := 0) dX12_workOut_29 rfl (inc_1 _) (ltn hn (by decide)) rfl ?_
      refine V.goto X 2 dX12_workOut_32 (by decide) ?_
      refine V.sub [0, 1, 2] rfl (ih (k + 1) _ (by omega) b1 (fun p hp => ?_))
      by_cases e : p = k
      · subst e; exact ⟨if_pos rfl, if_pos rfl⟩
      · exact ⟨(if_neg e).trans (b2 p (by omega)).1, (if_neg e).trans (b2 p (by omega)).2⟩
  refine V.iconst X (v := nI 0) dX12_workOut_0 (by decide) ?_
  refine V.istore_n X (lv' := [(2, .int (nI 0)), (0, .ref (a 0)), (1, .int (nI r))]) dX12_workOut_1 rfl (ltn hn (by decide)) rfl ?_
  exact V.sub [0, 1, 2] rfl (LP (r + 1) 0 σ (by omega) ⟨rfl, rfl, rfl, rfl, rfl, rfl, rfl⟩ (fun p hp => by omega))

