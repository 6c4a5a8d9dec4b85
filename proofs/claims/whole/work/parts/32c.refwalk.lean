set_option maxHeartbeats 4000000 in
set_option maxRecDepth 100000 in
theorem r_walk (l : Launch) (G : Gx) (a : Nat → Nat) (σ : St) {A : Ar} (d : Nat) (wf sk : Bool) (k v : Int32) (hx : RRd A σ) (hW : WA A) (hd : d < aN A) (hw : wf = true → ∀ p, p < d → gL σ 0 p = wo A p) (h2 : gN σ 2 ≤ 3) (h3a : 1 ≤ gN σ 3) (h3b : gN σ 3 ≤ 300) {bot : Nat} (hbot : bot = if gN σ 2 = 0 then gN σ 3 else 1500) {F : List (Nat × Nat) × Int32 × Bool} (hF : (runW bot (st7 A sk k v) (vis (chf A wf) id d 1) ([], 0, false)) = F) : MM l G ⟨"NestedDeedsModel", "walk", "(IZZII)I"⟩ prog_14_method_26_code 9 (some .int) 2 50 [.ref (a 0), .int (nI d), .int (bI wf), .int (bI sk), .int k, .int v] (rw G a σ) (PWk G a σ F) := by
  refine MM.of (lv := [(0, .ref (a 0)), (1, .int (nI d)), (2, .int (bI wf)), (3, .int (bI sk)), (4, .int k), (5, .int v)]) (by decide +kernel) rfl (Nat.le_of_ble_eq_true rfl) ?_
  intro Z hRf hRl hl hG hn hk ht hA hQ X
  subst hG hl
  have X : XC Z "NestedDeedsModel" prog_14_method_26_code (some .int) := X
  have hk0 : zk Z ≤ (zR Z).cells := hk ▸ Nat.zero_le _
  have ht0 : zt Z ≤ (zR Z).slots := ht ▸ Nat.zero_le _
  have hE := chf_eld hW wf
  have hN := hW.1
  have hkd : ∀ p, p < aN A → aK A p < 12 := hW.2.2.1
  obtain ⟨ix, hX⟩ := id hx
  obtain ⟨g0, g1, g2, g3⟩ := hX
  have hbl : bot ≤ 1500 := by rw [hbot]; split <;> omega
  have hbl1 : 1 ≤ bot := by rw [hbot]; split <;> omega
  have hmx : mxD F.1 ≤ 1500 := by rw [← hF]; exact Nat.le_trans (runW_mx _ (by simp [mxD])) hbl
  have LE : ∀ (τ : St) (b g : Bool), xW τ σ → RV id F τ → (F.2.1 = 0 → b = F.2.2) → V Z (rw (zG Z) a τ) [(7, .int (bI b)), (6, .int (bI g)), (0, .ref (a 0)), (2, .int (bI wf)), (3, .int (bI sk)), (4, .int k), (5, .int v)] 145 [] := by
    intro τ b g b1 b2 b3
    have e2 := b1.2.1
    have e3 := b1.2.2.1
    have e8 := b2.1
    have e8b := b2.2.1
    have e9 := b2.2.2.1
    have eI := b2.2.2.2.1
    have ec : gN (rEnd τ) 6 = rCal σ (mxD F.1) := by show (if gN τ 2 = 0 then gN τ 9 else if gN τ 2 = 3 then min (gN τ 9) (gN τ 3) else 0) = _; rw [e2, e3, e9]; rfl
    refine V.aload_n X 2 dX12_walk_145 rfl rfl ?_
    refine V.callV X rfl (r_ended (zl Z) (zG Z) a τ (by omega) (by omega) (by omega)) cv_X12_174 rfl 0 rfl rfl (len hRf (by decide)) (len hRl (by decide)) hk0 ht0 [] rfl (Nat.le_of_ble_eq_true rfl) dX12_walk_146 ?_
    rintro _ _ ⟨rfl, rfl⟩
    refine V.eqs (st' := [.int (gI τ 0)]) rfl ?_
    refine V.pop X dX12_walk_149 rfl ?_
    refine V.aload_n X 2 dX12_walk_150 rfl rfl ?_
    refine Vg_r_0_answer (x := gI τ 0) X tw_841 dX12_walk_151 rfl ?_
    refine V.if_eq X 164 dX12_walk_154 (by decide) (fun c154 => ?_) (fun c154 => ?_)
    · refine V.iload X 0 dX12_walk_164 rfl ?_
      refine V.if_eqB X 178 dX12_walk_166 (by decide) (fun c166 => ?_) (fun c166 => ?_)
      · refine V.iconst X (v := -1) dX12_walk_178 (by decide) ?_
        exact V.iret X rfl hA hk ht hQ rfl dX12_walk_179 (⟨by rw [eI] at c154; rw [wkR, if_pos c154, if_neg (by rw [← b3 c154, c166]; decide)], ⟨rEnd τ, rfl, b1, b2.enf, e8, ec⟩⟩)
      · refine V.aload_n X 2 dX12_walk_169 rfl rfl ?_
        refine Vg_r_0_visited (x := gN τ 8) X tw_847 dX12_walk_170 rfl ?_
        refine V.iconst X (v := nI 1) dX12_walk_173 (by decide) ?_
        refine V.isub X dX12_walk_174 ?_
        refine V.goto X 179 dX12_walk_175 (by decide) ?_
        exact V.iret X rfl hA hk ht hQ rfl dX12_walk_179 (⟨by rw [eI] at c154; rw [wkR, if_pos c154, if_pos (by rw [← b3 c154]; exact c166), e8], ⟨rEnd τ, rfl, b1, b2.enf, e8, ec⟩⟩)
    · refine V.aload_n X 2 dX12_walk_157 rfl rfl ?_
      refine Vg_r_0_answer (x := gI τ 0) X tw_841 dX12_walk_158 rfl ?_
      refine V.goto X 179 dX12_walk_161 (by decide) ?_
      exact V.iret X rfl hA hk ht hQ rfl dX12_walk_179 (⟨by rw [eI] at c154 ⊢; rw [wkR, if_neg c154], ⟨rEnd τ, rfl, b1, b2.enf, e8, ec⟩⟩)
  have LP : ∀ (m : Nat) (c : List (Nat × Nat)) (s : List (Nat × Nat) × Int32 × Bool) (τ : St), 2 * (rst (chf A wf) id c).length + c.length ≤ m → WI id (fun _ => none) (fun x t => x ≤ d ∧ t ≤ 4000) (chf A wf) (st7 A sk k v) bot d F σ c s τ → V Z (rw (zG Z) a τ) [(7, .int (bI false)), (6, .int (bI true)), (0, .ref (a 0)), (2, .int (bI wf)), (3, .int (bI sk)), (4, .int k), (5, .int v)] 50 [] := by
    intro m
    induction m with
    | zero =>
      intro c s τ hm hI
      have hc : c = [] := List.length_eq_zero_iff.mp (by omega)
      subst hc
      obtain ⟨w1, w2, w3, w4, w5, w6, w7, w8, w9⟩ := hI
      have w9 : s = F := w9
      subst w9
      have w2 : gN τ 7 = 0 := w2
      refine V.iload X 1 dX12_walk_50 rfl ?_
      refine V.if_eqB X 145 dX12_walk_52 (by decide) (fun c52 => by exfalso; cases c52) (fun c52 => ?_)
      refine V.aload_n X 2 dX12_walk_55 rfl rfl ?_
      refine Vg_r_0_depth (x := gN (τ) 7) X tw_846 dX12_walk_56 rfl ?_
      refine V.if_leN X 145 dX12_walk_59 (by decide) (by omega) (fun c59 => ?_) (fun c59 => by exfalso; omega)
      exact V.sub [0, 1, 2, 3, 4, 5, 6] rfl (LE τ false true w1 w5 (fun _ => w6.symm))
    | succ m ih =>
      intro c s τ hm hI
      rcases c with _ | ⟨⟨x, t⟩, c⟩
      · obtain ⟨w1, w2, w3, w4, w5, w6, w7, w8, w9⟩ := hI
        have w9 : s = F := w9
        subst w9
        have w2 : gN τ 7 = 0 := w2
        refine V.iload X 1 dX12_walk_50 rfl ?_
        refine V.if_eqB X 145 dX12_walk_52 (by decide) (fun c52 => by exfalso; cases c52) (fun c52 => ?_)
        refine V.aload_n X 2 dX12_walk_55 rfl rfl ?_
        refine Vg_r_0_depth (x := gN (τ) 7) X tw_846 dX12_walk_56 rfl ?_
        refine V.if_leN X 145 dX12_walk_59 (by decide) (by omega) (fun c59 => ?_) (fun c59 => by exfalso; omega)
        exact V.sub [0, 1, 2, 3, 4, 5, 6] rfl (LE τ false true w1 w5 (fun _ => w6.symm))
      · have hI0 := hI
        obtain ⟨w1, w2, w3, w4, w5, w6, w7, w8, w9⟩ := hI
        simp only [List.length_cons] at w2 hm
        have hxd : x ≤ d := w3.1.1
        have htt : t ≤ 4000 := w3.1.2
        have hd4 := w4.1
        simp only [id] at hd4
        have hxt : RRd A τ := hx.ofa w1.1
        have ew2 := w1.2.1
        have ew3 := w1.2.2.1
        have ewL := w1.2.2.2.2.2
        have hb4 : gA τ 5 (gN τ 7 - 1) = t := by rw [w2, Nat.add_sub_cancel]; exact w3.2.2.1
        have hp4 : gA τ 4 (gN τ 7 - 1) = x := by rw [w2, Nat.add_sub_cancel]; exact w3.2.1
        have hxl := tot_len hW (show x < aN A by omega)
        refine V.iload X 1 dX12_walk_50 rfl ?_
        refine V.if_eqB X 145 dX12_walk_52 (by decide) (fun c52 => by exfalso; cases c52) (fun c52 => ?_)
        refine V.aload_n X 2 dX12_walk_55 rfl rfl ?_
        refine Vg_r_0_depth (x := gN (τ) 7) X tw_846 dX12_walk_56 rfl ?_
        refine V.if_leN X 145 dX12_walk_59 (by decide) (by omega) (fun c59 => by exfalso; omega) (fun c59 => ?_)
        refine V.iload X 0 dX12_walk_62 rfl ?_
        refine V.if_neB X 145 dX12_walk_64 (by decide) (fun c64 => by exfalso; cases c64) (fun c64 => ?_)
        refine V.aload_n X 2 dX12_walk_67 rfl rfl ?_
        refine V.iload_n X 3 dX12_walk_68 rfl rfl ?_
        refine V.callV X rfl (r_nextFrom (zl Z) (zG Z) a τ (A := A) wf x t hxt hW (by omega) (fun hz p hp => by rw [ewL]; exact hw hz p (by omega)) (by omega) (by omega) hp4 hb4 (by omega)) cv_X12_170 rfl 0 rfl rfl (len hRf (by decide)) (len hRl (by decide)) hk0 ht0 [] rfl (Nat.le_of_ble_eq_true rfl) dX12_walk_69 ?_
        rintro _ _ ⟨rfl, ⟨ho, rfl⟩ | ⟨⟨p, hp⟩, rfl⟩⟩
        · rw [ho]
          have hl : (chf A wf x).length ≤ t := List.getElem?_eq_none_iff.mp ho
          have hW2 := hI0.pop hl
          refine V.eqs (st' := [.int (-1)]) rfl ?_
          refine V.istore X (lv' := [(8, .int (-1)), (7, .int (bI false)), (6, .int (bI true)), (0, .ref (a 0)), (2, .int (bI wf)), (3, .int (bI sk)), (4, .int k), (5, .int v)]) dX12_walk_72 (ltn hn (by decide)) rfl ?_
          refine V.iload X 0 dX12_walk_74 rfl ?_
          refine V.iconst X (v := -1) dX12_walk_76 (by decide) ?_
          refine V.icmp_ne X 93 dX12_walk_77 (by decide) (fun c77 => by exfalso; exact c77 rfl) (fun c77 => ?_)
          refine V.aload_n X 3 dX12_walk_80 rfl rfl ?_
          refine V.dup X dX12_walk_81 rfl ?_
          refine Vg_r_0_depth (x := gN (τ) 7) X tw_846 dX12_walk_82 rfl ?_
          refine V.iconst X (v := nI 1) dX12_walk_85 (by decide) ?_
          refine V.isubN X dX12_walk_86 (by omega) ?_
          refine Vp_r_0_depth (x := (gN (τ) 7) - 1) X tw_846 dX12_walk_87 ?_
          refine V.goto X 142 dX12_walk_90 (by decide) ?_
          refine V.goto X 50 dX12_walk_142 (by decide) ?_
          exact V.sub [1, 2, 3, 4, 5, 6, 7] rfl (ih c s _ (by rw [rst_end hl] at hm; omega) hW2)
        · rw [hp]
          have hmem := chf_mem (List.mem_of_getElem? hp)
          have hplt := hW.lt hmem
          have hcl : (chf A wf x).length ≤ (aP A x).length := by rw [chf]; split; (exact wlO_len _ _ _); exact Nat.le_refl _
          have htl := (List.getElem?_eq_some_iff.mp hp).1
          obtain ⟨u1, u2, u3, u4, u5⟩ := hI0.step hE (by omega) hbot hp ⟨by omega, by omega⟩ ⟨hxd, by omega⟩
          have hpA : p < aN A := by omega
          obtain ⟨f1, f2, f3, f4, f5, f6, f7⟩ := g2 p hpA
          have ek : gA τ 0 = gA σ 0 ∧ gJ τ 0 = gJ σ 0 := by have := w1.1; simp only [ars, Prod.mk.injEq] at this; exact ⟨this.2.2.1, this.2.2.2.2.2.1⟩
          refine V.eqs (st' := [.int (nI p)]) rfl ?_
          refine V.istore X (lv' := [(8, .int (nI p)), (7, .int (bI false)), (6, .int (bI true)), (0, .ref (a 0)), (2, .int (bI wf)), (3, .int (bI sk)), (4, .int k), (5, .int v)]) dX12_walk_72 (ltn hn (by decide)) rfl ?_
          refine V.iload X 0 dX12_walk_74 rfl ?_
          refine V.iconst X (v := -1) dX12_walk_76 (by decide) ?_
          refine V.icmp_ne X 93 dX12_walk_77 (by decide) (fun c77 => ?_) (fun c77 => by exfalso; exact nI_nm1 (by omega) c77)
          refine V.aload_n X 3 dX12_walk_93 rfl rfl ?_
          refine V.iload X 0 dX12_walk_94 rfl ?_
          refine V.iconst X (v := -1) dX12_walk_96 (by decide) ?_
          refine V.topi (y := oI none) rfl ?_
          refine V.callV X rfl (r_visit (zl Z) (zG Z) a (sA τ 5 (va_up (gA τ 5) (gN τ 7 - 1) (t + 1))) p none (by show gN τ 7 < 1501; omega) (by show gN τ 8 ≤ 20000; rw [w5.1]; exact w5.2.1) (by show gN τ 9 < 2 ^ 30; rw [w5.2.2.1]; omega) (by show gN τ 3 < 2 ^ 30; omega) (by show gN τ 2 < 2 ^ 30; omega)) cv_X12_166 rfl 0 rfl rfl (len hRf (by decide)) (len hRl (by decide)) hk0 ht0 [] rfl (Nat.le_of_ble_eq_true rfl) dX12_walk_97 ?_
          rintro _ _ ⟨b, rfl, ⟨z1, rfl, rfl⟩ | ⟨z1, z2, rfl, rfl⟩ | ⟨z1, z2, rfl, rfl⟩⟩
          · have uu := u3 z1
            have hxx : xW (sI (sA τ 5 (va_up (gA τ 5) (gN τ 7 - 1) (t + 1))) 0 (-5)) σ := (xW_halt _ _).tr ((xW_beg _ _).tr w1)
            have hne : ¬ F.2.1 = 0 := by rw [uu.2]; decide
            refine V.eqs (st' := [.int (bI false)]) rfl ?_
            refine V.istore X (lv' := [(6, .int (bI false)), (8, .int (nI p)), (7, .int (bI false)), (0, .ref (a 0)), (2, .int (bI wf)), (3, .int (bI sk)), (4, .int k), (5, .int v)]) dX12_walk_100 (ltn hn (by decide)) rfl ?_
            refine V.iload X 0 dX12_walk_102 rfl ?_
            refine V.if_eqB X 139 dX12_walk_104 (by decide) (fun c104 => ?_) (fun c104 => by exfalso; cases c104)
            refine V.iconst X (v := nI 0) dX12_walk_139 (by decide) ?_
            refine V.topi (y := bI false) rfl ?_
            refine V.istore X (lv' := [(7, .int (bI false)), (6, .int (bI false)), (8, .int (nI p)), (0, .ref (a 0)), (2, .int (bI wf)), (3, .int (bI sk)), (4, .int k), (5, .int v)]) dX12_walk_140 (ltn hn (by decide)) rfl ?_
            refine V.goto X 50 dX12_walk_142 (by decide) ?_
            refine V.iload X 1 dX12_walk_50 rfl ?_
            refine V.if_eqB X 145 dX12_walk_52 (by decide) (fun c52 => ?_) (fun c52 => by exfalso; cases c52)
            exact V.sub [0, 1, 3, 4, 5, 6, 7] rfl (LE _ false false hxx uu.1 (fun z => absurd z hne))
          · have uu := u4 z1 z2
            have hxx : xW (sI (sA τ 5 (va_up (gA τ 5) (gN τ 7 - 1) (t + 1))) 0 (-6)) σ := (xW_halt _ _).tr ((xW_beg _ _).tr w1)
            have hne : ¬ F.2.1 = 0 := by rw [uu.2]; decide
            refine V.eqs (st' := [.int (bI false)]) rfl ?_
            refine V.istore X (lv' := [(6, .int (bI false)), (8, .int (nI p)), (7, .int (bI false)), (0, .ref (a 0)), (2, .int (bI wf)), (3, .int (bI sk)), (4, .int k), (5, .int v)]) dX12_walk_100 (ltn hn (by decide)) rfl ?_
            refine V.iload X 0 dX12_walk_102 rfl ?_
            refine V.if_eqB X 139 dX12_walk_104 (by decide) (fun c104 => ?_) (fun c104 => by exfalso; cases c104)
            refine V.iconst X (v := nI 0) dX12_walk_139 (by decide) ?_
            refine V.topi (y := bI false) rfl ?_
            refine V.istore X (lv' := [(7, .int (bI false)), (6, .int (bI false)), (8, .int (nI p)), (0, .ref (a 0)), (2, .int (bI wf)), (3, .int (bI sk)), (4, .int k), (5, .int v)]) dX12_walk_140 (ltn hn (by decide)) rfl ?_
            refine V.goto X 50 dX12_walk_142 (by decide) ?_
            refine V.iload X 1 dX12_walk_50 rfl ?_
            refine V.if_eqB X 145 dX12_walk_52 (by decide) (fun c52 => ?_) (fun c52 => by exfalso; cases c52)
            exact V.sub [0, 1, 3, 4, 5, 6, 7] rfl (LE _ false false hxx uu.1 (fun z => absurd z hne))
          · have uu := u5 z1 z2
            have hxx : xW (rVU (sA τ 5 (va_up (gA τ 5) (gN τ 7 - 1) (t + 1))) p none) σ := (xW_vis _ _ _).tr ((xW_beg _ _).tr w1)
            refine V.eqs (st' := [.int (bI true)]) rfl ?_
            refine V.istore X (lv' := [(6, .int (bI true)), (8, .int (nI p)), (7, .int (bI false)), (0, .ref (a 0)), (2, .int (bI wf)), (3, .int (bI sk)), (4, .int k), (5, .int v)]) dX12_walk_100 (ltn hn (by decide)) rfl ?_
            refine V.iload X 0 dX12_walk_102 rfl ?_
            refine V.if_eqB X 139 dX12_walk_104 (by decide) (fun c104 => by exfalso; cases c104) (fun c104 => ?_)
            refine V.iload_n X 5 dX12_walk_107 rfl rfl ?_
            refine V.if_eqB X 139 dX12_walk_108 (by decide) (fun c108 => ?_) (fun c108 => ?_)
            · refine V.iconst X (v := nI 0) dX12_walk_139 (by decide) ?_
              have hst : st7 A sk k v p = false := by rw [st7, c108]; rfl
              refine V.topi (y := bI false) rfl ?_
              refine V.istore X (lv' := [(7, .int (bI false)), (6, .int (bI true)), (8, .int (nI p)), (0, .ref (a 0)), (2, .int (bI wf)), (3, .int (bI sk)), (4, .int k), (5, .int v)]) dX12_walk_140 (ltn hn (by decide)) rfl ?_
              refine V.goto X 50 dX12_walk_142 (by decide) ?_
              exact V.sub [0, 1, 3, 4, 5, 6, 7] rfl (ih _ _ _ (by have := (uu.2 hst).2; simp only [List.length_cons]; omega) (uu.2 hst).1)
            · refine V.aload_n X 3 dX12_walk_111 rfl rfl ?_
              refine Vg_r_0_kind X tw_829 dX12_walk_112 ?_
              refine V.iload X 1 dX12_walk_115 rfl ?_
              refine Va_r_kind (x := gA τ 0 p) X (by omega) dX12_walk_117 rfl ?_
              refine V.iload X 6 dX12_walk_118 rfl ?_
              refine V.icmp_ne X 139 dX12_walk_120 (by decide) (fun c120 => ?_) (fun c120 => ?_)
              · refine V.iconst X (v := nI 0) dX12_walk_139 (by decide) ?_
                have hst : st7 A sk k v p = false := by rw [st7, fst7, decide_eq_false (fun z => c120 (by rw [ek.1, f1]; exact z.1)), Bool.and_false]
                refine V.topi (y := bI false) rfl ?_
                refine V.istore X (lv' := [(7, .int (bI false)), (6, .int (bI true)), (8, .int (nI p)), (0, .ref (a 0)), (2, .int (bI wf)), (3, .int (bI sk)), (4, .int k), (5, .int v)]) dX12_walk_140 (ltn hn (by decide)) rfl ?_
                refine V.goto X 50 dX12_walk_142 (by decide) ?_
                exact V.sub [0, 1, 3, 4, 5, 6, 7] rfl (ih _ _ _ (by have := (uu.2 hst).2; simp only [List.length_cons]; omega) (uu.2 hst).1)
              · refine V.aload_n X 3 dX12_walk_123 rfl rfl ?_
                refine Vg_r_0_number X tw_830 dX12_walk_124 ?_
                refine V.iload X 1 dX12_walk_127 rfl ?_
                refine Va_r_number (x := gJ τ 0 p) X (by omega) dX12_walk_129 rfl ?_
                refine V.iload X 7 dX12_walk_130 rfl ?_
                refine V.icmp_ne X 139 dX12_walk_132 (by decide) (fun c132 => ?_) (fun c132 => ?_)
                · refine V.iconst X (v := nI 0) dX12_walk_139 (by decide) ?_
                  have hst : st7 A sk k v p = false := by rw [st7, fst7, decide_eq_false (fun z => c132 (by rw [ek.2, f2]; exact z.2)), Bool.and_false]
                  refine V.topi (y := bI false) rfl ?_
                  refine V.istore X (lv' := [(7, .int (bI false)), (6, .int (bI true)), (8, .int (nI p)), (0, .ref (a 0)), (2, .int (bI wf)), (3, .int (bI sk)), (4, .int k), (5, .int v)]) dX12_walk_140 (ltn hn (by decide)) rfl ?_
                  refine V.goto X 50 dX12_walk_142 (by decide) ?_
                  exact V.sub [0, 1, 3, 4, 5, 6, 7] rfl (ih _ _ _ (by have := (uu.2 hst).2; simp only [List.length_cons]; omega) (uu.2 hst).1)
                · refine V.iconst X (v := nI 1) dX12_walk_135 (by decide) ?_
                  refine V.goto X 140 dX12_walk_136 (by decide) ?_
                  have hst : st7 A sk k v p = true := by rw [st7, c108, fst7, decide_eq_true ⟨by rw [← f1, ← ek.1]; exact c120, by rw [← f2, ← ek.2]; exact c132⟩]; rfl
                  refine V.topi (y := bI true) rfl ?_
                  refine V.istore X (lv' := [(7, .int (bI true)), (6, .int (bI true)), (8, .int (nI p)), (0, .ref (a 0)), (2, .int (bI wf)), (3, .int (bI sk)), (4, .int k), (5, .int v)]) dX12_walk_140 (ltn hn (by decide)) rfl ?_
                  refine V.goto X 50 dX12_walk_142 (by decide) ?_
                  refine V.iload X 1 dX12_walk_50 rfl ?_
                  refine V.if_eqB X 145 dX12_walk_52 (by decide) (fun c52 => by exfalso; cases c52) (fun c52 => ?_)
                  refine V.aload_n X 3 dX12_walk_55 rfl rfl ?_
                  refine Vg_r_0_depth (x := gN τ 7 + 1) X tw_846 dX12_walk_56 rfl ?_
                  refine V.if_leN X 145 dX12_walk_59 (by decide) (by omega) (fun c59 => by exfalso; omega) (fun c59 => ?_)
                  refine V.iload X 0 dX12_walk_62 rfl ?_
                  refine V.if_neB X 145 dX12_walk_64 (by decide) (fun c64 => ?_) (fun c64 => by exfalso; cases c64)
                  exact V.sub [0, 1, 3, 4, 5, 6, 7] rfl (LE _ true true hxx (uu.1 hst).1 (fun _ => (uu.1 hst).2.2.symm))
  obtain ⟨f1, f2, f3, f4, f5, f6, f7⟩ := g2 d hd
  refine V.aload_n X 0 dX12_walk_0 rfl rfl ?_
  refine V.callV X rfl (r_begin (zl Z) (zG Z) a σ) cv_X12_163 rfl 0 rfl rfl (len hRf (by decide)) (len hRl (by decide)) hk0 ht0 [] rfl (Nat.le_of_ble_eq_true rfl) dX12_walk_1 ?_
  rintro _ _ ⟨rfl, rfl⟩
  refine V.eqs (st' := []) rfl ?_
  refine V.aload_n X 0 dX12_walk_4 rfl rfl ?_
  refine V.iload_n X 1 dX12_walk_5 rfl rfl ?_
  refine V.iconst X (v := -1) dX12_walk_6 (by decide) ?_
  refine V.topi (y := oI none) rfl ?_
  refine V.callV X rfl (r_visit (zl Z) (zG Z) a (sI (sN (sN (sN σ 7 0) 8 0) 9 0) 0 0) d none (by show 0 < 1501; decide) (by show 0 ≤ 20000; decide) (by show 0 < 2 ^ 30; decide) (by show gN σ 3 < 2 ^ 30; omega) (by show gN σ 2 < 2 ^ 30; omega)) cv_X12_166 rfl 0 rfl rfl (len hRf (by decide)) (len hRl (by decide)) hk0 ht0 [] rfl (Nat.le_of_ble_eq_true rfl) dX12_walk_7 ?_
  rintro _ _ ⟨b, rfl, ⟨z1, rfl, rfl⟩ | ⟨z1, z2, rfl, rfl⟩ | ⟨z1, z2, rfl, rfl⟩⟩
  · exact absurd (show 0 = 20000 from z1) (by decide)
  · exact absurd (show gN σ 3 < 0 + 1 from z2.2) (by omega)
  · have hR0 : RV id (([], 0, false) : List (Nat × Nat) × Int32 × Bool) (sI (sN (sN (sN σ 7 0) 8 0) 9 0) 0 0) := ⟨rfl, by simp, rfl, rfl, fun i q hq => by simp at hq⟩
    have hR1 : ∀ b, RV id (([(d, 1)], 0, b) : List (Nat × Nat) × Int32 × Bool) (rVU (sI (sN (sN (sN σ 7 0) 8 0) 9 0) 0 0) d none) := fun b => hR0.vis (n := 0) rfl (by simp) d none b
    have hxx : xW (rVU (sI (sN (sN (sN σ 7 0) 8 0) 9 0) 0 0) d none) σ := ⟨rfl, rfl, rfl, rfl, rfl, rfl⟩
    have hF2 : runW bot (st7 A sk k v) (rst (chf A wf) id [(d, 0)]) ([(d, 1)], 0, st7 A sk k v d) = F := by rw [← hF, vis_rst hE, runW_cons, stp, if_neg (by simp), if_neg (by simp), if_neg (by show ¬ bot < 1; omega)]; rfl
    refine V.eqs (st' := [.int (bI true)]) rfl ?_
    refine V.istore X (lv' := [(6, .int (bI true)), (0, .ref (a 0)), (1, .int (nI d)), (2, .int (bI wf)), (3, .int (bI sk)), (4, .int k), (5, .int v)]) dX12_walk_10 (ltn hn (by decide)) rfl ?_
    refine V.iload X 0 dX12_walk_12 rfl ?_
    refine V.if_eqB X 47 dX12_walk_14 (by decide) (fun c14 => by exfalso; cases c14) (fun c14 => ?_)
    refine V.iload_n X 4 dX12_walk_17 rfl rfl ?_
    refine V.if_eqB X 47 dX12_walk_18 (by decide) (fun c18 => ?_) (fun c18 => ?_)
    · refine V.iconst X (v := nI 0) dX12_walk_47 (by decide) ?_
      have hst : st7 A sk k v d = false := by rw [st7, c18]; rfl
      rw [hst] at hF2
      refine V.topi (y := bI false) rfl ?_
      refine V.istore X (lv' := [(7, .int (bI false)), (6, .int (bI true)), (0, .ref (a 0)), (1, .int (nI d)), (2, .int (bI wf)), (3, .int (bI sk)), (4, .int k), (5, .int v)]) dX12_walk_48 (ltn hn (by decide)) rfl ?_
      exact V.sub [0, 1, 2, 4, 5, 6, 7] rfl (LP _ [(d, 0)] ([(d, 1)], 0, false) _ (Nat.le_refl _) ⟨hxx, rfl, FRs.vis (c := []) (p := d) trivial rfl ⟨Nat.le_refl d, Nat.zero_le _⟩, ⟨by simp, trivial⟩, hR1 false, rfl, rfl, by simp [mxD]; exact hbl1, hF2⟩)
    · refine V.aload_n X 1 dX12_walk_21 rfl rfl ?_
      refine Vg_r_0_kind X tw_829 dX12_walk_22 ?_
      refine V.iload_n X 2 dX12_walk_25 rfl rfl ?_
      refine Va_r_kind (x := gA σ 0 d) X (by omega) dX12_walk_26 rfl ?_
      refine V.iload X 5 dX12_walk_27 rfl ?_
      refine V.icmp_ne X 47 dX12_walk_29 (by decide) (fun c29 => ?_) (fun c29 => ?_)
      · refine V.iconst X (v := nI 0) dX12_walk_47 (by decide) ?_
        have hst : st7 A sk k v d = false := by rw [st7, fst7, decide_eq_false (fun z => c29 (by rw [f1]; exact z.1)), Bool.and_false]
        rw [hst] at hF2
        refine V.topi (y := bI false) rfl ?_
        refine V.istore X (lv' := [(7, .int (bI false)), (6, .int (bI true)), (0, .ref (a 0)), (1, .int (nI d)), (2, .int (bI wf)), (3, .int (bI sk)), (4, .int k), (5, .int v)]) dX12_walk_48 (ltn hn (by decide)) rfl ?_
        exact V.sub [0, 1, 2, 4, 5, 6, 7] rfl (LP _ [(d, 0)] ([(d, 1)], 0, false) _ (Nat.le_refl _) ⟨hxx, rfl, FRs.vis (c := []) (p := d) trivial rfl ⟨Nat.le_refl d, Nat.zero_le _⟩, ⟨by simp, trivial⟩, hR1 false, rfl, rfl, by simp [mxD]; exact hbl1, hF2⟩)
      · refine V.aload_n X 1 dX12_walk_32 rfl rfl ?_
        refine Vg_r_0_number X tw_830 dX12_walk_33 ?_
        refine V.iload_n X 2 dX12_walk_36 rfl rfl ?_
        refine Va_r_number (x := gJ σ 0 d) X (by omega) dX12_walk_37 rfl ?_
        refine V.iload X 6 dX12_walk_38 rfl ?_
        refine V.icmp_ne X 47 dX12_walk_40 (by decide) (fun c40 => ?_) (fun c40 => ?_)
        · refine V.iconst X (v := nI 0) dX12_walk_47 (by decide) ?_
          have hst : st7 A sk k v d = false := by rw [st7, fst7, decide_eq_false (fun z => c40 (by rw [f2]; exact z.2)), Bool.and_false]
          rw [hst] at hF2
          refine V.topi (y := bI false) rfl ?_
          refine V.istore X (lv' := [(7, .int (bI false)), (6, .int (bI true)), (0, .ref (a 0)), (1, .int (nI d)), (2, .int (bI wf)), (3, .int (bI sk)), (4, .int k), (5, .int v)]) dX12_walk_48 (ltn hn (by decide)) rfl ?_
          exact V.sub [0, 1, 2, 4, 5, 6, 7] rfl (LP _ [(d, 0)] ([(d, 1)], 0, false) _ (Nat.le_refl _) ⟨hxx, rfl, FRs.vis (c := []) (p := d) trivial rfl ⟨Nat.le_refl d, Nat.zero_le _⟩, ⟨by simp, trivial⟩, hR1 false, rfl, rfl, by simp [mxD]; exact hbl1, hF2⟩)
        · refine V.iconst X (v := nI 1) dX12_walk_43 (by decide) ?_
          refine V.goto X 48 dX12_walk_44 (by decide) ?_
          have hst : st7 A sk k v d = true := by rw [st7, c18, fst7, decide_eq_true ⟨by rw [← f1]; exact c29, by rw [← f2]; exact c40⟩]; rfl
          rw [hst] at hF2
          refine V.topi (y := bI true) rfl ?_
          refine V.istore X (lv' := [(7, .int (bI true)), (6, .int (bI true)), (0, .ref (a 0)), (1, .int (nI d)), (2, .int (bI wf)), (3, .int (bI sk)), (4, .int k), (5, .int v)]) dX12_walk_48 (ltn hn (by decide)) rfl ?_
          refine V.iload X 1 dX12_walk_50 rfl ?_
          refine V.if_eqB X 145 dX12_walk_52 (by decide) (fun c52 => by exfalso; cases c52) (fun c52 => ?_)
          refine V.aload_n X 2 dX12_walk_55 rfl rfl ?_
          refine Vg_r_0_depth (x := 0 + 1) X tw_846 dX12_walk_56 rfl ?_
          refine V.if_leN X 145 dX12_walk_59 (by decide) (by omega) (fun c59 => by exfalso; omega) (fun c59 => ?_)
          refine V.iload X 0 dX12_walk_62 rfl ?_
          refine V.if_neB X 145 dX12_walk_64 (by decide) (fun c64 => ?_) (fun c64 => by exfalso; cases c64)
          rw [runW_over _ rfl] at hF2
          exact V.sub [0, 1, 2, 4, 5, 6, 7] rfl (LE _ true true hxx (by rw [← hF2]; exact hR1 true) (fun _ => by rw [← hF2]))

