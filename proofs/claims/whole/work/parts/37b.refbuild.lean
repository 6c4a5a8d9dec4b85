def PBd (G : Gx) (a : Nat → Nat) (σ : St) (A : Ar) (ops : List Op) (rv : Option Value) (w : va_W) : Prop :=
  (aN A + ops.length ≤ 1500 ∧ tot (aP A) (aN A) + (ops.length - 1) ≤ 4000 → rv = some (.int (nI (aN A + ops.length - 1))) ∧ ∃ τ, w = rw G a τ ∧ RRd (bns ops (A, [])).1 τ ∧ WA (bns ops (A, [])).1 ∧ xG τ σ) ∧
  (¬ (aN A + ops.length ≤ 1500 ∧ tot (aP A) (aN A) + (ops.length - 1) ≤ 4000) → rv = some (.int (-4)) ∧ ∃ τ, w = rw G a τ ∧ RRd A τ ∧ xG τ σ)
theorem vis_at {A : Ar} (hW : WA A) {j : Nat} (hdp : ∀ v ∈ vis (aP A) id j 1, v.2 ≤ 1500) : ∀ (i : Nat) (q : Nat × Nat), (vis (aP A) id j 1)[i]? = some q → (0 < i ↔ 1 < q.2) ∧ 1 ≤ q.2 ∧ q.1 ≤ j ∧ q.2 ≤ 1500 := by
  intro i q hq
  have hmem := List.mem_of_getElem? hq
  refine ⟨?_, visF_ge _ j 1 q hmem, visF_le hW.eld _ j 1 q hmem, hdp q hmem⟩
  rw [vis_eq hW.eld] at hq
  rcases i with _ | i
  · rw [List.getElem?_cons_zero] at hq
    have hq := Option.some.inj hq
    subst hq
    constructor <;> intro h <;> omega
  · rw [List.getElem?_cons_succ] at hq
    obtain ⟨p, _, hp⟩ := List.mem_flatMap.mp (List.mem_of_getElem? hq)
    have := visF_ge _ p (1 + 1) q hp
    constructor <;> intro h <;> omega
theorem TR_bpl {M : Mx} {s : Bs} {d k : Nat} {u : Option Nat} {τ : St} (hu : u = if k = 1 then none else some (bP s (k - 1))) (h : TR (bN s + 1) (plC (bC s) (bN s) u M.2.2 (va_up (mkN M.1 s) (bN s) (mrk M.1 d))) (va_up (ndS M.1 s) (bN s) (aK M.1 d, aV M.1 d)) (va_up (mkN M.1 s) (bN s) (mrk M.1 d)) τ) : TR (bN (bpl M s d k)) (bC (bpl M s d k)) (ndS M.1 (bpl M s d k)) (mkN M.1 (bpl M s d k)) τ := by
  subst hu
  have e1 : va_up (mkN M.1 s) (bN s) (mrk M.1 d) = mkN M.1 (bpl M s d k) := up_comp (mrk M.1) (bD s) (bN s) d
  have e2 : va_up (ndS M.1 s) (bN s) (aK M.1 d, aV M.1 d) = ndS M.1 (bpl M s d k) := up_comp (fun x => (aK M.1 x, aV M.1 x)) (bD s) (bN s) d
  rw [e1, e2] at h
  exact h

set_option maxHeartbeats 4000000 in
set_option maxRecDepth 100000 in
theorem r_build (l : Launch) (G : Gx) (a : Nat → Nat) (σ : St) {A : Ar} {m : Int32} (th : Bool) (t : Int32) (sr : Bool) {j : Nat} (hx : RRd A σ) (hW : WA A) (hj : j < aN A) (hlo : ∀ d, lo (A, m, sr) d = true ↔ (th = true ∧ aK A d = 0 ∧ t < aV A d)) (hso : sr = true → ∀ d, lo (A, m, sr) d = false) (hv8 : gN σ 8 = (vis (aP A) id j 1).length) (hvl : (vis (aP A) id j 1).length ≤ 20000) (hvs : ∀ (i : Nat) (q : Nat × Nat), (vis (aP A) id j 1)[i]? = some q → gA σ 6 i = q.1 ∧ gA σ 7 i = q.2) (hdp : ∀ v ∈ (vis (aP A) id j 1), v.2 ≤ 1500) (hm : ∀ p, p ≤ j → gL σ 1 p = mrk A p) : MM l G ⟨"NestedDeedsModel", "build", "(ZIZ)I"⟩ prog_14_method_41_code 8 (some .int) 2 44 [.ref (a 0), .int (bI th), .int t, .int (bI sr)] (rw G a σ) (PBd G a σ A (bl (A, m, sr) j)) := by
  refine MM.of (lv := [(0, .ref (a 0)), (1, .int (bI th)), (2, .int t), (3, .int (bI sr))]) (by decide +kernel) rfl (Nat.le_of_ble_eq_true rfl) ?_
  intro Z hRf hRl hl hG hn hk ht hA hQ X
  subst hG hl
  have X : XC Z "NestedDeedsModel" prog_14_method_41_code (some .int) := X
  have hk0 : zk Z ≤ (zR Z).cells := hk ▸ Nat.zero_le _
  have ht0 : zt Z ≤ (zR Z).slots := ht ▸ Nat.zero_le _
  obtain ⟨ix, hX⟩ := id hx
  obtain ⟨g0, g1, g2, g3⟩ := hX
  have hN := hW.1
  have hT := hW.2.1
  have hroot := bsp_root (M := (A, m, sr)) hW hso (j := j) (by omega) ((100000, 0, (fun _ => []), (fun _ => 0), gA σ 12) : Bs) rfl rfl
  obtain ⟨q1, q2, q3, q4, q5⟩ := hroot
  obtain ⟨sF, hF⟩ : ∃ sF, brn (A, m, sr) (vis (aP A) id j 1) ((100000, 0, (fun _ => []), (fun _ => 0), gA σ 12) : Bs) = sF := ⟨_, rfl⟩
  rw [hF] at q2 q3 q4 q5
  have hpos := bl_pos (M := (A, m, sr)) hW j
  have hble := bl_le (M := (A, m, sr)) hW (j + 1) j 1 (Nat.lt_succ_self _)
  have hi1 := vis_at hW hdp
  have LP : ∀ (w i : Nat) (s : Bs) (τ : St), i + w = (vis (aP A) id j 1).length → brn (A, m, sr) ((vis (aP A) id j 1).drop i) s = sF → bok (A, m, sr) ((vis (aP A) id j 1).drop i) s → TR (bN s) (bC s) (ndS A s) (mkN A s) τ → gA τ 12 = bP s → xB τ σ → bB s ≤ 100000 → bN s ≤ i → V Z (rw (zG Z) a τ) [(5, .int (nI i)), (4, .int (nI (bB s))), (0, .ref (a 0)), (1, .int (bI th)), (2, .int t), (3, .int (bI sr))] 12 [] := by
    intro w
    induction w with
    | zero =>
      intro i s τ b1 b2 b3 b4 b5 b6 b7 b8
      rw [List.drop_eq_nil_of_le (by omega)] at b2
      have b2 : s = sF := b2
      subst b2
      have e8 : gN τ 8 = (vis (aP A) id j 1).length := b6.2.2.1.trans hv8
      have hpf : pf (bN s) (bC s) (ndS A s) 0 = bl (A, m, sr) j := by
        have hq := pf_bl (M := (A, m, sr)) hW b4.yng q3 (bN s) 0 (by omega) (by omega)
        rw [q4] at hq
        exact hq
      refine V.iload X 0 dX12_build_12 rfl ?_
      refine V.aload_n X 2 dX12_build_14 rfl rfl ?_
      refine Vg_r_0_visited (x := gN (τ) 8) X tw_847 dX12_build_15 rfl ?_
      refine V.topi (y := nI ((vis (aP A) id j 1).length)) (by rw [e8]) ?_
      refine V.icmp_geN X 173 dX12_build_18 (by decide) (by omega) (by omega) (fun c18 => ?_) (fun c18 => by exfalso; omega)
      refine V.aload_n X 2 dX12_build_173 rfl rfl ?_
      refine V.callV X rfl (r_grow (zl Z) (zG Z) a τ (A := A) b4 (hx.ofa b6.2.1) hW (by omega) (by omega) (fun y hy => hW.2.2.1 _ (by have := q5 y hy; omega)) (by rw [hpf]; exact q2.symm)) cv_X12_223 rfl 0 rfl rfl (len hRf (by decide)) (len hRl (by decide)) hk0 ht0 [] rfl (Nat.le_of_ble_eq_true rfl) dX12_build_174 ?_
      rintro rv w0 hp
      rw [hpf] at hp
      obtain ⟨hp1, hp2⟩ := hp
      rw [q2] at hp1 hp2
      by_cases hroom : aN A + (bl (A, m, sr) j).length ≤ 1500 ∧ tot (aP A) (aN A) + ((bl (A, m, sr) j).length - 1) ≤ 4000
      · obtain ⟨rfl, τ3, rfl, w1, w2, w3⟩ := hp1 hroom
        refine V.eqs (st' := [.int (nI (aN A + (bl (A, m, sr) j).length - 1))]) rfl ?_
        exact V.iret X rfl hA hk ht hQ rfl dX12_build_177 ⟨fun _ => ⟨rfl, τ3, rfl, w1, w2, w3.tr b6.1⟩, fun z => absurd hroom z⟩
      · obtain ⟨rfl, rfl⟩ := hp2 hroom
        refine V.eqs (st' := [.int (-4)]) rfl ?_
        exact V.iret X rfl hA hk ht hQ rfl dX12_build_177 ⟨fun z => absurd z hroom, fun _ => ⟨rfl, τ, rfl, hx.ofa b6.2.1, b6.1⟩⟩
    | succ w ih =>
      intro i s τ b1 b2 b3 b4 b5 b6 b7 b8
      obtain ⟨q, hq⟩ : ∃ q, (vis (aP A) id j 1)[i]? = some q := ⟨_, List.getElem?_eq_getElem (show i < _ by omega)⟩
      obtain ⟨d, k⟩ := q
      have hdr : (vis (aP A) id j 1).drop i = (d, k) :: (vis (aP A) id j 1).drop (i + 1) := by
        obtain ⟨hi, he⟩ := List.getElem?_eq_some_iff.mp hq
        rw [List.drop_eq_getElem_cons hi, he]
      rw [hdr] at b2 b3
      obtain ⟨b31, b32⟩ := b3
      rw [brn_cons] at b2
      obtain ⟨z1, z2, z3, z4⟩ := hi1 i (d, k) hq
      have z1 : 0 < i ↔ 1 < k := z1
      have z2 : 1 ≤ k := z2
      have z3 : d ≤ j := z3
      have z4 : k ≤ 1500 := z4
      obtain ⟨v6, v7⟩ := hvs i (d, k) hq
      have e6 : gA τ 6 i = d := by rw [b6.2.2.2.1]; exact v6
      have e7 : gA τ 7 i = k := by rw [b6.2.2.2.2.1]; exact v7
      have e8 : gN τ 8 = (vis (aP A) id j 1).length := b6.2.2.1.trans hv8
      obtain ⟨ix2, k0, k1, k2, k3⟩ := hx.ofa b6.2.1
      obtain ⟨ek, ev, _⟩ := k2 d (by omega)
      have em : gL τ 1 d = mrk A d := by rw [b6.2.2.2.2.2]; exact hm d z3
      have hkt : aK A d < 12 := hW.2.2.1 d (by omega)
      have LK : ¬ bB s < k → ¬ (1 < k ∧ lo (A, m, sr) d = true) → V Z (rw (zG Z) a τ) [(7, .int (nI k)), (6, .int (nI d)), (5, .int (nI i)), (4, .int (nI (bB s))), (0, .ref (a 0)), (1, .int (bI th)), (2, .int t), (3, .int (bI sr))] 84 [] := by
        intro n1 n2
        have est : bsp (A, m, sr) s (d, k) = bpl (A, m, sr) s d k := by rw [bsp, if_neg n1, if_neg n2]
        rw [est] at b2 b32
        have hNF := brn_N (A, m, sr) ((vis (aP A) id j 1).drop (i + 1)) (bpl (A, m, sr) s d k)
        rw [b2] at hNF
        have hNF : bN s + 1 ≤ bN sF := hNF
        refine V.ldc X dX12_build_84 tw_1116 ?_
        refine V.topi (y := nI 100000) (by decide) ?_
        refine V.istore X (lv' := [(4, .int (nI 100000)), (7, .int (nI k)), (6, .int (nI d)), (5, .int (nI i)), (0, .ref (a 0)), (1, .int (bI th)), (2, .int t), (3, .int (bI sr))]) dX12_build_86 (ltn hn (by decide)) rfl ?_
        refine V.iload X 0 dX12_build_88 rfl ?_
        refine V.iload X 1 dX12_build_90 rfl ?_
        refine V.icmp_neN X 98 dX12_build_92 (by decide) (by decide) (by omega) (fun c92 => ?_) (fun c92 => by exfalso; omega)
        refine V.aload_n X 4 dX12_build_98 rfl rfl ?_
        refine Vg_r_0_nodes (x := gN (τ) 11) X tw_858 dX12_build_99 rfl ?_
        refine V.topi (y := nI (bN s)) (by rw [b4.1]) ?_
        refine V.sipush X (v := nI 1500) dX12_build_102 (by decide) ?_
        refine V.icmp_leN X 111 dX12_build_105 (by decide) (by omega) (by decide) (fun c105 => ?_) (fun c105 => ?_)
        · refine V.aload_n X 4 dX12_build_111 rfl rfl ?_
          refine Vg_r_0_open X tw_866 dX12_build_112 ?_
          refine V.iload X 1 dX12_build_115 rfl ?_
          refine V.aload_n X 4 dX12_build_117 rfl rfl ?_
          refine Vg_r_0_nodes (x := gN (τ) 11) X tw_858 dX12_build_118 rfl ?_
          refine V.topi (y := nI (bN s)) (by rw [b4.1]) ?_
          refine Vs_r_open (f := gA (τ) 12) (i := k) (x := bN s) X (by omega) dX12_build_121 rfl ?_
          have f1 := b4.opn (va_up (gA τ 12) k (bN s))
          have f2 := xB_12 τ (va_up (gA τ 12) k (bN s))
          have f3 : gA (sA τ 12 (va_up (gA τ 12) k (bN s))) 12 = va_up (bP s) k (bN s) := by show va_up (gA τ 12) k (bN s) = _; rw [b5]
          have f4 : gA (sA τ 12 (va_up (gA τ 12) k (bN s))) 0 d = aK A d := ek
          have f5 : gJ (sA τ 12 (va_up (gA τ 12) k (bN s))) 0 d = aV A d := ev
          have f6 : gL (sA τ 12 (va_up (gA τ 12) k (bN s))) 1 d = mrk A d := em
          generalize (sA τ 12 (va_up (gA τ 12) k (bN s))) = τ1 at f1 f2 f3 f4 f5 f6 ⊢
          refine V.aload_n X 4 dX12_build_122 rfl rfl ?_
          refine V.aload_n X 4 dX12_build_123 rfl rfl ?_
          refine Vg_r_0_kind X tw_829 dX12_build_124 ?_
          refine V.iload X 2 dX12_build_127 rfl ?_
          refine Va_r_kind (x := gA (τ1) 0 d) X (by omega) dX12_build_129 rfl ?_
          refine V.topi (y := nI (aK A d)) (by rw [f4]) ?_
          refine V.aload_n X 4 dX12_build_130 rfl rfl ?_
          refine Vg_r_0_number X tw_830 dX12_build_131 ?_
          refine V.iload X 2 dX12_build_134 rfl ?_
          refine Va_r_number (x := gJ (τ1) 0 d) X (by omega) dX12_build_136 rfl ?_
          refine V.topi (y := (aV A d)) (by rw [f5]) ?_
          refine V.aload_n X 4 dX12_build_137 rfl rfl ?_
          refine Vg_r_0_marks X tw_845 dX12_build_138 ?_
          refine V.iload X 2 dX12_build_141 rfl ?_
          refine Va_r_marks (x := gL (τ1) 1 d) X (by omega) dX12_build_143 rfl ?_
          refine V.topl (y := (mrk A d)) (by rw [f6]) ?_
          refine V.iload X 1 dX12_build_144 rfl ?_
          refine V.iconst X (v := nI 1) dX12_build_146 (by decide) ?_
          refine V.icmp_neN X 154 dX12_build_147 (by decide) (by omega) (by decide) (fun c147 => ?_) (fun c147 => ?_)
          · refine V.aload_n X 4 dX12_build_154 rfl rfl ?_
            refine Vg_r_0_open X tw_866 dX12_build_155 ?_
            refine V.iload X 1 dX12_build_158 rfl ?_
            refine V.iconst X (v := nI 1) dX12_build_160 (by decide) ?_
            refine V.isubN X dX12_build_161 (by omega) ?_
            refine Va_r_open (x := gA (τ1) 12 (k - 1)) X (by omega) dX12_build_162 rfl ?_
            refine V.topi (y := oI (some (bP s (k - 1)))) (by rw [f3, va_up_ne _ _ (by omega)]; rfl) ?_
            refine V.iload_n X 7 dX12_build_163 rfl rfl ?_
            refine V.callV X rfl (r_plant (zl Z) (zG Z) a τ1 (aK A d) (aV A d) (mrk A d) (some (bP s (k - 1))) sr f1 (by omega) (fun p hp => by have hh := Option.some.inj hp; have h31 := b31 n1 n2 (show 1 < k by omega); have h31 : bP s (k - 1) < bN s := h31; omega)) cv_X12_219 rfl 0 rfl rfl (len hRf (by decide)) (len hRl (by decide)) hk0 ht0 [] rfl (Nat.le_of_ble_eq_true rfl) dX12_build_164 ?_
            rintro _ _ ⟨rfl, τ2, rfl, w1, w2⟩
            refine V.eqs (st' := []) rfl ?_
            refine V.iinc X (v := nI (i + 1)) (lv' := [(5, .int (nI (i + 1))), (4, .int (nI 100000)), (7, .int (nI k)), (6, .int (nI d)), (0, .ref (a 0)), (1, .int (bI th)), (2, .int t), (3, .int (bI sr))]) (k0 := 3) dX12_build_167 rfl (inc_1 _) (ltn hn (by decide)) rfl ?_
            refine V.goto X 12 dX12_build_170 (by decide) ?_
            exact V.sub [0, 1, 4, 5, 6, 7] rfl (ih (i + 1) (bpl (A, m, sr) s d k) τ2 (by omega) b2 b32 (TR_bpl (M := (A, m, sr)) (by rw [if_neg (by omega)]) w1) ((w2.2.1 12 (by decide)).trans f3) (w2.xb.tr (f2.tr b6)) (Nat.le_refl _) (by show bN s + 1 ≤ i + 1; omega))
          · refine V.iconst X (v := -1) dX12_build_150 (by decide) ?_
            refine V.goto X 163 dX12_build_151 (by decide) ?_
            refine V.topi (y := oI none) rfl ?_
            refine V.iload_n X 7 dX12_build_163 rfl rfl ?_
            refine V.callV X rfl (r_plant (zl Z) (zG Z) a τ1 (aK A d) (aV A d) (mrk A d) none sr f1 (by omega) (fun p hp => by cases hp)) cv_X12_219 rfl 0 rfl rfl (len hRf (by decide)) (len hRl (by decide)) hk0 ht0 [] rfl (Nat.le_of_ble_eq_true rfl) dX12_build_164 ?_
            rintro _ _ ⟨rfl, τ2, rfl, w1, w2⟩
            refine V.eqs (st' := []) rfl ?_
            refine V.iinc X (v := nI (i + 1)) (lv' := [(5, .int (nI (i + 1))), (4, .int (nI 100000)), (7, .int (nI k)), (6, .int (nI d)), (0, .ref (a 0)), (1, .int (bI th)), (2, .int t), (3, .int (bI sr))]) (k0 := 3) dX12_build_167 rfl (inc_1 _) (ltn hn (by decide)) rfl ?_
            refine V.goto X 12 dX12_build_170 (by decide) ?_
            exact V.sub [0, 1, 4, 5, 6, 7] rfl (ih (i + 1) (bpl (A, m, sr) s d k) τ2 (by omega) b2 b32 (TR_bpl (M := (A, m, sr)) (by rw [if_pos (by omega)]) w1) ((w2.2.1 12 (by decide)).trans f3) (w2.xb.tr (f2.tr b6)) (Nat.le_refl _) (by show bN s + 1 ≤ i + 1; omega))
        · refine V.bipush X (v := (-4)) dX12_build_108 (by decide) ?_
          exact V.iret X rfl hA hk ht hQ rfl dX12_build_110 (⟨fun z => by exfalso; omega, fun _ => ⟨rfl, τ, rfl, hx.ofa b6.2.1, b6.1⟩⟩)
      refine V.iload X 0 dX12_build_12 rfl ?_
      refine V.aload_n X 2 dX12_build_14 rfl rfl ?_
      refine Vg_r_0_visited (x := gN (τ) 8) X tw_847 dX12_build_15 rfl ?_
      refine V.topi (y := nI ((vis (aP A) id j 1).length)) (by rw [e8]) ?_
      refine V.icmp_geN X 173 dX12_build_18 (by decide) (by omega) (by omega) (fun c18 => by exfalso; omega) (fun c18 => ?_)
      refine V.aload_n X 2 dX12_build_21 rfl rfl ?_
      refine Vg_r_0_visitDeed X tw_852 dX12_build_22 ?_
      refine V.iload X 0 dX12_build_25 rfl ?_
      refine Va_r_visitDeed (x := gA (τ) 6 i) X (by omega) dX12_build_27 rfl ?_
      refine V.topi (y := nI d) (by rw [e6]) ?_
      refine V.istore X (lv' := [(6, .int (nI d)), (5, .int (nI i)), (4, .int (nI (bB s))), (0, .ref (a 0)), (1, .int (bI th)), (2, .int t), (3, .int (bI sr))]) dX12_build_28 (ltn hn (by decide)) rfl ?_
      refine V.aload_n X 3 dX12_build_30 rfl rfl ?_
      refine Vg_r_0_visitDepth X tw_853 dX12_build_31 ?_
      refine V.iload X 1 dX12_build_34 rfl ?_
      refine Va_r_visitDepth (x := gA (τ) 7 i) X (by omega) dX12_build_36 rfl ?_
      refine V.topi (y := nI k) (by rw [e7]) ?_
      refine V.istore X (lv' := [(7, .int (nI k)), (6, .int (nI d)), (5, .int (nI i)), (4, .int (nI (bB s))), (0, .ref (a 0)), (1, .int (bI th)), (2, .int t), (3, .int (bI sr))]) dX12_build_37 (ltn hn (by decide)) rfl ?_
      refine V.iload X 0 dX12_build_39 rfl ?_
      refine V.iload X 3 dX12_build_41 rfl ?_
      refine V.icmp_leN X 49 dX12_build_43 (by decide) (by omega) (by omega) (fun c43 => ?_) (fun c43 => ?_)
      · refine V.iload_n X 5 dX12_build_49 rfl rfl ?_
        refine V.if_eqB X 84 dX12_build_50 (by decide) (fun c50 => ?_) (fun c50 => ?_)
        · exact V.sub [0, 1, 2, 3, 4, 5, 6, 7] rfl (LK (by omega) (fun z => by have hz := ((hlo d).mp z.2).1; rw [c50] at hz; cases hz))
        · refine V.iload X 2 dX12_build_53 rfl ?_
          refine V.if_leN X 84 dX12_build_55 (by decide) (by omega) (fun c55 => ?_) (fun c55 => ?_)
          · exact V.sub [0, 1, 2, 3, 4, 5, 6, 7] rfl (LK (by omega) (fun z => by have hz := z1.mpr z.1; omega))
          · refine V.aload_n X 4 dX12_build_58 rfl rfl ?_
            refine Vg_r_0_kind X tw_829 dX12_build_59 ?_
            refine V.iload X 1 dX12_build_62 rfl ?_
            refine Va_r_kind (x := gA (τ) 0 d) X (by omega) dX12_build_64 rfl ?_
            refine V.topi (y := nI (aK A d)) (by rw [ek]) ?_
            refine V.if_neN X 84 dX12_build_65 (by decide) (by omega) (fun c65 => ?_) (fun c65 => ?_)
            · exact V.sub [0, 1, 2, 3, 4, 5, 6, 7] rfl (LK (by omega) (fun z => c65 ((hlo d).mp z.2).2.1))
            · refine V.aload_n X 4 dX12_build_68 rfl rfl ?_
              refine Vg_r_0_number X tw_830 dX12_build_69 ?_
              refine V.iload X 1 dX12_build_72 rfl ?_
              refine Va_r_number (x := gJ (τ) 0 d) X (by omega) dX12_build_74 rfl ?_
              refine V.topi (y := (aV A d)) (by rw [ev]) ?_
              refine V.iload_n X 6 dX12_build_75 rfl rfl ?_
              refine V.icmp_le X 84 dX12_build_76 (by decide) (fun c76 => ?_) (fun c76 => ?_)
              · exact V.sub [0, 1, 2, 3, 4, 5, 6, 7] rfl (LK (by omega) (fun z => by have hz := ((hlo d).mp z.2).2.2; rw [Int32.lt_iff_toInt_lt] at hz; rw [Int32.le_iff_toInt_le] at c76; omega))
              · refine V.iload X 0 dX12_build_79 rfl ?_
                refine V.goto X 86 dX12_build_81 (by decide) ?_
                refine V.istore X (lv' := [(4, .int (nI k)), (7, .int (nI k)), (6, .int (nI d)), (5, .int (nI i)), (0, .ref (a 0)), (1, .int (bI th)), (2, .int t), (3, .int (bI sr))]) dX12_build_86 (ltn hn (by decide)) rfl ?_
                refine V.iload X 0 dX12_build_88 rfl ?_
                refine V.iload X 1 dX12_build_90 rfl ?_
                refine V.icmp_neN X 98 dX12_build_92 (by decide) (by omega) (by omega) (fun c92 => by exfalso; exact c92 rfl) (fun c92 => ?_)
                refine V.goto X 167 dX12_build_95 (by decide) ?_
                refine V.iinc X (v := nI (i + 1)) (lv' := [(5, .int (nI (i + 1))), (4, .int (nI k)), (7, .int (nI k)), (6, .int (nI d)), (0, .ref (a 0)), (1, .int (bI th)), (2, .int t), (3, .int (bI sr))]) (k0 := 3) dX12_build_167 rfl (inc_1 _) (ltn hn (by decide)) rfl ?_
                refine V.goto X 12 dX12_build_170 (by decide) ?_
                have est : bsp (A, m, sr) s (d, k) = (k, s.2) := by rw [bsp, if_neg (by show ¬ bB s < k; omega), if_pos ⟨z1.mp c55, (hlo d).mpr ⟨c50, c65, by rw [Int32.le_iff_toInt_le] at c76; rw [Int32.lt_iff_toInt_lt]; omega⟩⟩]
                rw [est] at b2 b32
                exact V.sub [0, 1, 4, 5, 6, 7] rfl (ih (i + 1) (k, s.2) τ (by omega) b2 b32 b4 b5 b6 (by show k ≤ 100000; omega) (by show bN s ≤ i + 1; omega))
      · refine V.goto X 167 dX12_build_46 (by decide) ?_
        refine V.iinc X (v := nI (i + 1)) (lv' := [(5, .int (nI (i + 1))), (7, .int (nI k)), (6, .int (nI d)), (4, .int (nI (bB s))), (0, .ref (a 0)), (1, .int (bI th)), (2, .int t), (3, .int (bI sr))]) (k0 := 2) dX12_build_167 rfl (inc_1 _) (ltn hn (by decide)) rfl ?_
        refine V.goto X 12 dX12_build_170 (by decide) ?_
        have est : bsp (A, m, sr) s (d, k) = s := by rw [bsp, if_pos c43]
        rw [est] at b2 b32
        exact V.sub [0, 3, 4, 5, 6, 7] rfl (ih (i + 1) s τ (by omega) b2 b32 b4 b5 b6 b7 (by omega))
  refine V.aload_n X 0 dX12_build_0 rfl rfl ?_
  refine V.iconst X (v := nI 0) dX12_build_1 (by decide) ?_
  refine Vp_r_0_nodes (x := 0) X tw_858 dX12_build_2 ?_
  refine V.ldc X dX12_build_5 tw_1116 ?_
  refine V.topi (y := nI 100000) (by decide) ?_
  refine V.istore X (lv' := [(4, .int (nI 100000)), (0, .ref (a 0)), (1, .int (bI th)), (2, .int t), (3, .int (bI sr))]) dX12_build_7 (ltn hn (by decide)) rfl ?_
  refine V.iconst X (v := nI 0) dX12_build_9 (by decide) ?_
  refine V.istore X (lv' := [(5, .int (nI 0)), (4, .int (nI 100000)), (0, .ref (a 0)), (1, .int (bI th)), (2, .int t), (3, .int (bI sr))]) dX12_build_10 (ltn hn (by decide)) rfl ?_
  exact V.sub [0, 1, 2, 3, 4, 5] rfl (LP (vis (aP A) id j 1).length 0 ((100000, 0, (fun _ => []), (fun _ => 0), gA σ 12) : Bs) (sN σ 11 0) (by omega) (by rw [List.drop_zero]; exact hF) (by rw [List.drop_zero]; exact q1) (TR.zero σ _ _ _) rfl (xB_11 σ 0) (Nat.le_refl _) (Nat.le_refl _))

