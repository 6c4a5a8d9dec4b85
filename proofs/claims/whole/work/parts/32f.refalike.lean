set_option maxHeartbeats 4000000 in
set_option maxRecDepth 100000 in
theorem r_differ (l : Launch) (G : Gx) (a : Nat → Nat) (σ : St) (x y : Nat) (hx : x < 1500) (hy : y < 1500) (k1 : gA σ 0 x < 2 ^ 31) (k2 : gA σ 0 y < 2 ^ 31) (n1 : gA σ 1 x < 2 ^ 31) (n2 : gA σ 1 y < 2 ^ 31) : MM l G ⟨"NestedDeedsModel", "differ", "(II)Z"⟩ prog_14_method_32_code 3 (some .boolean) 0 0 [.ref (a 0), .int (nI x), .int (nI y)] (rw G a σ) (fun rv w => rv = some (.int (bI (decide (¬ (gA σ 0 x = gA σ 0 y ∧ gJ σ 0 x = gJ σ 0 y ∧ gA σ 1 x = gA σ 1 y))))) ∧ w = rw G a σ) := by
  refine MM.of (lv := [(0, .ref (a 0)), (1, .int (nI x)), (2, .int (nI y))]) (by decide +kernel) rfl (Nat.le_of_ble_eq_true rfl) ?_
  intro Z hRf hRl hl hG hn hk ht hA hQ X
  subst hG hl
  have X : XC Z "NestedDeedsModel" prog_14_method_32_code (some .boolean) := X
  have hk0 : zk Z ≤ (zR Z).cells := hk ▸ Nat.zero_le _
  have ht0 : zt Z ≤ (zR Z).slots := ht ▸ Nat.zero_le _
  refine V.aload_n X 0 dX12_differ_0 rfl rfl ?_
  refine Vg_r_0_kind X tw_829 dX12_differ_1 ?_
  refine V.iload_n X 1 dX12_differ_4 rfl rfl ?_
  refine Va_r_kind (x := gA σ 0 x) X (by omega) dX12_differ_5 rfl ?_
  refine V.aload_n X 0 dX12_differ_6 rfl rfl ?_
  refine Vg_r_0_kind X tw_829 dX12_differ_7 ?_
  refine V.iload_n X 2 dX12_differ_10 rfl rfl ?_
  refine Va_r_kind (x := gA σ 0 y) X (by omega) dX12_differ_11 rfl ?_
  refine V.icmp_neN X 45 dX12_differ_12 (by decide) (by omega) (by omega) (fun c12 => ?_) (fun c12 => ?_)
  · refine V.iconst X (v := nI 1) dX12_differ_45 (by decide) ?_
    refine V.goto X 50 dX12_differ_46 (by decide) ?_
    refine V.topi (y := bI true) rfl ?_
    exact V.zret X rfl hA hk ht hQ rfl (bI_01 _) dX12_differ_50 (⟨by rw [decide_eq_true (show ¬ (gA σ 0 x = gA σ 0 y ∧ gJ σ 0 x = gJ σ 0 y ∧ gA σ 1 x = gA σ 1 y) from fun z => c12 z.1)], rfl⟩)
  · refine V.aload_n X 0 dX12_differ_15 rfl rfl ?_
    refine Vg_r_0_number X tw_830 dX12_differ_16 ?_
    refine V.iload_n X 1 dX12_differ_19 rfl rfl ?_
    refine Va_r_number (x := gJ σ 0 x) X (by omega) dX12_differ_20 rfl ?_
    refine V.aload_n X 0 dX12_differ_21 rfl rfl ?_
    refine Vg_r_0_number X tw_830 dX12_differ_22 ?_
    refine V.iload_n X 2 dX12_differ_25 rfl rfl ?_
    refine Va_r_number (x := gJ σ 0 y) X (by omega) dX12_differ_26 rfl ?_
    refine V.icmp_ne X 45 dX12_differ_27 (by decide) (fun c27 => ?_) (fun c27 => ?_)
    · refine V.iconst X (v := nI 1) dX12_differ_45 (by decide) ?_
      refine V.goto X 50 dX12_differ_46 (by decide) ?_
      refine V.topi (y := bI true) rfl ?_
      exact V.zret X rfl hA hk ht hQ rfl (bI_01 _) dX12_differ_50 (⟨by rw [decide_eq_true (show ¬ (gA σ 0 x = gA σ 0 y ∧ gJ σ 0 x = gJ σ 0 y ∧ gA σ 1 x = gA σ 1 y) from fun z => c27 z.2.1)], rfl⟩)
    · refine V.aload_n X 0 dX12_differ_30 rfl rfl ?_
      refine Vg_r_0_partMany X tw_831 dX12_differ_31 ?_
      refine V.iload_n X 1 dX12_differ_34 rfl rfl ?_
      refine Va_r_partMany (x := gA σ 1 x) X (by omega) dX12_differ_35 rfl ?_
      refine V.aload_n X 0 dX12_differ_36 rfl rfl ?_
      refine Vg_r_0_partMany X tw_831 dX12_differ_37 ?_
      refine V.iload_n X 2 dX12_differ_40 rfl rfl ?_
      refine Va_r_partMany (x := gA σ 1 y) X (by omega) dX12_differ_41 rfl ?_
      refine V.icmp_eqN X 49 dX12_differ_42 (by decide) (by omega) (by omega) (fun c42 => ?_) (fun c42 => ?_)
      · refine V.iconst X (v := nI 0) dX12_differ_49 (by decide) ?_
        refine V.topi (y := bI false) rfl ?_
        exact V.zret X rfl hA hk ht hQ rfl (bI_01 _) dX12_differ_50 (⟨by rw [decide_eq_false (fun z => z ⟨by omega, c27, by omega⟩)], rfl⟩)
      · refine V.iconst X (v := nI 1) dX12_differ_45 (by decide) ?_
        refine V.goto X 50 dX12_differ_46 (by decide) ?_
        refine V.topi (y := bI true) rfl ?_
        exact V.zret X rfl hA hk ht hQ rfl (bI_01 _) dX12_differ_50 (⟨by rw [decide_eq_true (show ¬ (gA σ 0 x = gA σ 0 y ∧ gJ σ 0 x = gJ σ 0 y ∧ gA σ 1 x = gA σ 1 y) from fun z => c42 z.2.2)], rfl⟩)

theorem akC_len {A : Ar} {x : Nat × Nat} (h : akD A x = false) (hne : ¬ x.1 = x.2) : (akC A x).length = (aP A x.1).length := by
  simp only [akD, decide_eq_false_iff_not, Classical.not_not] at h
  rw [akC, if_neg hne, List.length_zip, h.2.2]; exact Nat.min_self _
def akV (F : List ((Nat × Nat) × Nat) × Int32 × Bool) : Int32 := if F.2.1 = 0 then (if F.2.2 = true then nI 0 else nI 1) else F.2.1

/-- one more visit, where the frames ask more of a node that goes on -/
theorem WI.step2 {X : Type} {π : X → Nat} {ρ : X → Option Nat} {U : X → Nat → Prop} {ch : X → List X} {stop : X → Bool} {bot r : Nat} {F : List (X × Nat) × Int32 × Bool} {σ : St} {x p : X} {t : Nat} {c : List (X × Nat)} {s : List (X × Nat) × Int32 × Bool} {τ : St} (h : WI π ρ U ch stop bot r F σ ((x, t) :: c) s τ) (hE : ELD ch π) (hr : r < 1500) (hbot : bot = if gN σ 2 = 0 then gN σ 3 else 1500) (hp : (ch x)[t]? = some p) (hU2 : U x (t + 1)) :
    gN τ 7 < 1500 ∧ s.1.length ≤ 20000 ∧
    (gN τ 8 = 20000 → RV π F (sI (sA τ 5 (va_up (gA τ 5) (gN τ 7 - 1) (t + 1))) 0 (-5)) ∧ F.2.1 = -5) ∧
    (¬ gN τ 8 = 20000 → gN τ 2 = 0 ∧ gN τ 3 < gN τ 7 + 1 → RV π F (sI (sA τ 5 (va_up (gA τ 5) (gN τ 7 - 1) (t + 1))) 0 (-6)) ∧ F.2.1 = -6) ∧
    (¬ gN τ 8 = 20000 → ¬ (gN τ 2 = 0 ∧ gN τ 3 < gN τ 7 + 1) →
      (stop p = true → RV π F (rVU (sA τ 5 (va_up (gA τ 5) (gN τ 7 - 1) (t + 1))) (π p) (ρ p)) ∧ F.2.1 = 0 ∧ F.2.2 = true) ∧
      (stop p = false → U p 0 → WI π ρ U ch stop bot r F σ ((p, 0) :: (x, t + 1) :: c) (s.1 ++ [(p, c.length + 2)], 0, false) (rVU (sA τ 5 (va_up (gA τ 5) (gN τ 7 - 1) (t + 1))) (π p) (ρ p)) ∧ (rst ch π ((p, 0) :: (x, t + 1) :: c)).length + 1 = (rst ch π ((x, t) :: c)).length)) := by
  have h' : WI π ρ (fun _ _ => True) ch stop bot r F σ ((x, t) :: c) s τ := by
    obtain ⟨h1, h2, h3, h4, h5, h6, h7, h8, h9⟩ := h
    refine ⟨h1, h2, ?_, h4, h5, h6, h7, h8, h9⟩
    have key : ∀ c : List (X × Nat), FRs π ρ U c τ → FRs π ρ (fun _ _ => True) c τ := by
      intro c
      induction c with
      | nil => intro _; trivial
      | cons q c ih =>
        intro hq
        obtain ⟨q1, q2⟩ := q
        exact ⟨trivial, hq.2.1, hq.2.2.1, hq.2.2.2.1, ih hq.2.2.2.2⟩
    exact key _ h3
  obtain ⟨u1, u2, u3, u4, u5⟩ := h'.step hE hr hbot hp trivial trivial
  refine ⟨u1, u2, u3, u4, fun z1 z2 => ⟨(u5 z1 z2).1, fun hst hU => ?_⟩⟩
  exact ((h.step hE hr hbot hp hU hU2).2.2.2.2 z1 z2).2 hst

set_option maxHeartbeats 4000000 in
set_option maxRecDepth 100000 in
theorem rf_alike (l : Launch) (G : Gx) (a : Nat → Nat) (σ : St) {S : AS} (d b : Int32) (h : RR S σ) : MM l G ⟨"NestedDeedsModel", "alike", "(II)I"⟩ prog_14_method_33_code 8 (some .int) 2 43 [.ref (a 0), .int d, .int b] (rw G a σ) (PR G a (sp_alike S d b).2 (.int (sp_alike S d b).1)) := by
  refine MM.of (lv := [(0, .ref (a 0)), (1, .int d), (2, .int b)]) (by decide +kernel) rfl (Nat.le_of_ble_eq_true rfl) ?_
  intro Z hRf hRl hl hG hn hk ht hA hQ X
  subst hG hl
  have X : XC Z "NestedDeedsModel" prog_14_method_33_code (some .int) := X
  have hk0 : zk Z ≤ (zR Z).cells := hk ▸ Nat.zero_le _
  have ht0 : zt Z ≤ (zR Z).slots := ht ▸ Nat.zero_le _
  have hW := h.1.1
  have hN := hW.1
  have hT := hW.2.1
  have hx := h.2.1
  obtain ⟨ix, hX⟩ := h.2.1
  obtain ⟨g0, g1, g2, g3⟩ := hX
  obtain ⟨o1, o2, o3, o4, o5, o6, o7, o8⟩ := h.1
  have e2 : gN σ 2 = yW S := h.2.2.1
  have e3 : gN σ 3 = yM S := h.2.2.2.1
  refine V.aload_n X 0 dX12_alike_0 rfl rfl ?_
  refine V.iload_n X 1 dX12_alike_1 rfl rfl ?_
  refine V.callV X rfl (r_isDeed (zl Z) (zG Z) a σ d (by omega)) cv_X12_104 rfl 0 rfl rfl (len hRf (by decide)) (len hRl (by decide)) hk0 ht0 [] rfl (Nat.le_of_ble_eq_true rfl) dX12_alike_2 ?_
  rintro _ _ ⟨rfl, rfl⟩
  refine V.eqs (st' := [.int (bI (hasD (gN σ 0) d))]) rfl ?_
  refine V.if_eqB X 16 dX12_alike_5 (by decide) (fun c5 => ?_) (fun c5 => ?_)
  · refine V.aload_n X 0 dX12_alike_16 rfl rfl ?_
    refine V.callV X rfl (r_bad (zl Z) (zG Z) a σ) cv_X12_182 rfl 0 rfl rfl (len hRf (by decide)) (len hRl (by decide)) hk0 ht0 [] rfl (Nat.le_of_ble_eq_true rfl) dX12_alike_17 ?_
    rintro _ _ ⟨rfl, rfl⟩
    refine V.eqs (st' := [.int (-2)]) rfl ?_
    exact V.iret X rfl hA hk ht hQ rfl dX12_alike_20 (⟨by rw [sp_alike, if_neg (fun z => by rw [g0, z.1] at c5; cases c5)], _, rfl, by rw [sp_alike, if_neg (fun z => by rw [g0, z.1] at c5; cases c5)]; exact h.bad⟩)
  · refine V.aload_n X 0 dX12_alike_8 rfl rfl ?_
    refine V.iload_n X 2 dX12_alike_9 rfl rfl ?_
    refine V.callV X rfl (r_isDeed (zl Z) (zG Z) a σ b (by omega)) cv_X12_104 rfl 0 rfl rfl (len hRf (by decide)) (len hRl (by decide)) hk0 ht0 [] rfl (Nat.le_of_ble_eq_true rfl) dX12_alike_10 ?_
    rintro _ _ ⟨rfl, rfl⟩
    refine V.eqs (st' := [.int (bI (hasD (gN σ 0) b))]) rfl ?_
    refine V.if_neB X 21 dX12_alike_13 (by decide) (fun c13 => ?_) (fun c13 => ?_)
    · rw [g0] at c5 c13
      obtain ⟨d2, hd2, rfl⟩ := hasD_t (by omega) c5
      obtain ⟨b2, hb2, rfl⟩ := hasD_t (by omega) c13
      have hsp : sp_alike S (nI d2) (nI b2) = (akV (fAk S d2 b2), tld S (fAk S d2 b2)) := by rw [sp_alike, if_pos ⟨c5, c13⟩, dN_nI (by omega), dN_nI (by omega)]; rfl
      have hE := akC_eld hW
      have hmx := fAk_mx S d2 b2
      have hbs : botS S ≤ 1500 := by rw [h.hb]; split <;> omega
      have hb1 := h.1.bot
      have hbot := h.hb
      have hFd : runW (botS S) (akD (yA S)) (vis (akC (yA S)) Prod.fst (d2, b2) 1) ([], 0, false) = fAk S d2 b2 := rfl
      generalize fAk S d2 b2 = F at *
      generalize hbv : botS S = bot at *
      have hmem : ∀ (x p : Nat × Nat) (t : Nat), (akC (yA S) x)[t]? = some p → p.1 < x.1 ∧ p.2 < x.2 := fun x p t hp => ⟨hW.lt (akC_mem (List.mem_of_getElem? hp)).1, hW.lt (akC_mem (List.mem_of_getElem? hp)).2⟩
      have LE : ∀ (τ : St) (b g : Bool), xW τ σ → RV Prod.fst F τ → (F.2.1 = 0 → b = !F.2.2) → V Z (rw (zG Z) a τ) [(4, .int (bI b)), (3, .int (bI g)), (0, .ref (a 0))] 184 [] := by
        intro τ b g a1 a2 a3
        have e2 := a1.2.1
        have e3 := a1.2.2.1
        have e8 := a2.1
        have e9 := a2.2.2.1
        have eI := a2.2.2.2.1
        have ec : gN (rEnd τ) 6 = rCal σ (mxD F.1) := by show (if gN τ 2 = 0 then gN τ 9 else if gN τ 2 = 3 then min (gN τ 9) (gN τ 3) else 0) = _; rw [e2, e3, e9]; rfl
        have hRT : RR (tld S F) (rEnd τ) := h.told (π := Prod.fst) (show xW (rEnd τ) σ from a1) a2.enf e8 ec (by rw [hbv]; exact hmx)
        refine V.aload_n X 2 dX12_alike_184 rfl rfl ?_
        refine V.callV X rfl (r_ended (zl Z) (zG Z) a τ (by omega) (by omega) (by omega)) cv_X12_174 rfl 0 rfl rfl (len hRf (by decide)) (len hRl (by decide)) hk0 ht0 [] rfl (Nat.le_of_ble_eq_true rfl) dX12_alike_185 ?_
        rintro _ _ ⟨rfl, rfl⟩
        refine V.eqs (st' := [.int (gI τ 0)]) rfl ?_
        refine V.if_eq X 198 dX12_alike_188 (by decide) (fun c188 => ?_) (fun c188 => ?_)
        · refine V.iload X 0 dX12_alike_198 rfl ?_
          refine V.if_eqB X 207 dX12_alike_200 (by decide) (fun c200 => ?_) (fun c200 => ?_)
          · refine V.iconst X (v := nI 0) dX12_alike_207 (by decide) ?_
            exact V.iret X rfl hA hk ht hQ rfl dX12_alike_208 (⟨by rw [hsp]; show _ = some (Value.int (akV F)); rw [eI] at c188; rw [akV, if_pos c188, if_pos (by have := a3 c188; rw [c200] at this; simpa using this.symm)], _, rfl, by rw [hsp]; exact hRT⟩)
          · refine V.iconst X (v := nI 1) dX12_alike_203 (by decide) ?_
            refine V.goto X 208 dX12_alike_204 (by decide) ?_
            exact V.iret X rfl hA hk ht hQ rfl dX12_alike_208 (⟨by rw [hsp]; show _ = some (Value.int (akV F)); rw [eI] at c188; rw [akV, if_pos c188, if_neg (by have := a3 c188; rw [c200] at this; simpa using this.symm)], _, rfl, by rw [hsp]; exact hRT⟩)
        · refine V.aload_n X 2 dX12_alike_191 rfl rfl ?_
          refine Vg_r_0_answer (x := gI τ 0) X tw_841 dX12_alike_192 rfl ?_
          refine V.goto X 208 dX12_alike_195 (by decide) ?_
          exact V.iret X rfl hA hk ht hQ rfl dX12_alike_208 (⟨by rw [hsp]; show _ = some (Value.int (akV F)); rw [eI] at c188 ⊢; rw [akV, if_neg c188], _, rfl, by rw [hsp]; exact hRT⟩)
      have LX : ∀ (τ : St) (n : Nat) (p : Nat × Nat), xW τ σ → RV Prod.fst F τ → F.2.1 = 0 → F.2.2 = true → gN τ 7 = n + 1 → n < 1500 → gA τ 4 n = p.1 → gP τ 3 n = some p.2 → gA τ 5 n = 0 → akD (yA S) p = true → p.1 < aN (yA S) → p.2 < aN (yA S) → V Z (rw (zG Z) a τ) [(4, .int (bI true)), (3, .int (bI true)), (0, .ref (a 0))] 35 [] := by
        intro τ n p xa xb xc xd x7 xn x4 x3 x5 xk xp1 xp2
        have ea := xa.1
        simp only [ars, Prod.mk.injEq] at ea
        obtain ⟨ea0, ea1, ea2, ea3, ea4, ea5, ea6, ea7, ea8⟩ := ea
        obtain ⟨f1, f2, f3, f4, f5, f6, f7⟩ := g2 p.1 xp1
        obtain ⟨k1, k2, k3, k4, k5, k6, k7⟩ := g2 p.2 xp2
        have l1 := tot_len hW xp1
        have l2 := tot_len hW xp2
        have kk1 := hW.2.2.1 _ xp1
        have kk2 := hW.2.2.1 _ xp2
        have hi4 : gA τ 4 (gN τ 7 - 1) = p.1 := by rw [x7, Nat.add_sub_cancel]; exact x4
        have hi3 : gP τ 3 (gN τ 7 - 1) = some p.2 := by rw [x7, Nat.add_sub_cancel]; exact x3
        have hi5 : gA τ 5 (gN τ 7 - 1) = 0 := by rw [x7, Nat.add_sub_cancel]; exact x5
        have hd4 : decide (¬ (gA τ 0 p.1 = gA τ 0 p.2 ∧ gJ τ 0 p.1 = gJ τ 0 p.2 ∧ gA τ 1 p.1 = gA τ 1 p.2)) = true := by rw [ea2, ea5, ea3, f1, f2, f3, k1, k2, k3]; exact xk
        have q0 : gA τ 0 p.1 < 2 ^ 31 := by rw [ea2, f1]; omega
        have q1 : gA τ 0 p.2 < 2 ^ 31 := by rw [ea2, k1]; omega
        have q2 : gA τ 1 p.1 < 2 ^ 31 := by rw [ea3, f3]; omega
        have q3 : gA τ 1 p.2 < 2 ^ 31 := by rw [ea3, k3]; omega
        refine V.iload_n X 1 dX12_alike_35 rfl rfl ?_
        refine V.if_eqB X 184 dX12_alike_36 (by decide) (fun c36 => by exfalso; cases c36) (fun c36 => ?_)
        refine V.aload_n X 2 dX12_alike_39 rfl rfl ?_
        refine Vg_r_0_depth (x := gN (τ) 7) X tw_846 dX12_alike_40 rfl ?_
        refine V.if_leN X 184 dX12_alike_43 (by decide) (by omega) (fun c43 => by exfalso; omega) (fun c43 => ?_)
        refine V.iload X 0 dX12_alike_46 rfl ?_
        refine V.if_eqB X 184 dX12_alike_48 (by decide) (fun c48 => by exfalso; cases c48) (fun c48 => ?_)
        refine V.aload_n X 2 dX12_alike_51 rfl rfl ?_
        refine Vg_r_0_pile X tw_849 dX12_alike_52 ?_
        refine V.aload_n X 2 dX12_alike_55 rfl rfl ?_
        refine Vg_r_0_depth (x := gN (τ) 7) X tw_846 dX12_alike_56 rfl ?_
        refine V.iconst X (v := nI 1) dX12_alike_59 (by decide) ?_
        refine V.isubN X dX12_alike_60 (by omega) ?_
        refine Va_r_pile (x := gA (τ) 4 ((gN (τ) 7) - 1)) X (by omega) dX12_alike_61 rfl ?_
        refine V.topi (y := nI p.1) (by rw [hi4]; try rfl) ?_
        refine V.istore X (lv' := [(5, .int (nI p.1)), (4, .int (bI true)), (3, .int (bI true)), (0, .ref (a 0))]) dX12_alike_62 (ltn hn (by decide)) rfl ?_
        refine V.aload_n X 3 dX12_alike_64 rfl rfl ?_
        refine Vg_r_0_other X tw_850 dX12_alike_65 ?_
        refine V.aload_n X 3 dX12_alike_68 rfl rfl ?_
        refine Vg_r_0_depth (x := gN (τ) 7) X tw_846 dX12_alike_69 rfl ?_
        refine V.iconst X (v := nI 1) dX12_alike_72 (by decide) ?_
        refine V.isubN X dX12_alike_73 (by omega) ?_
        refine Va_r_other (x := gP (τ) 3 ((gN (τ) 7) - 1)) X (by omega) dX12_alike_74 rfl ?_
        refine V.topi (y := nI p.2) (by rw [hi3]; try rfl) ?_
        refine V.istore X (lv' := [(6, .int (nI p.2)), (5, .int (nI p.1)), (4, .int (bI true)), (3, .int (bI true)), (0, .ref (a 0))]) dX12_alike_75 (ltn hn (by decide)) rfl ?_
        refine V.aload_n X 4 dX12_alike_77 rfl rfl ?_
        refine Vg_r_0_begun X tw_851 dX12_alike_78 ?_
        refine V.aload_n X 4 dX12_alike_81 rfl rfl ?_
        refine Vg_r_0_depth (x := gN (τ) 7) X tw_846 dX12_alike_82 rfl ?_
        refine V.iconst X (v := nI 1) dX12_alike_85 (by decide) ?_
        refine V.isubN X dX12_alike_86 (by omega) ?_
        refine Va_r_begun (x := gA (τ) 5 ((gN (τ) 7) - 1)) X (by omega) dX12_alike_87 rfl ?_
        refine V.topi (y := nI 0) (by rw [hi5]; try rfl) ?_
        refine V.istore X (lv' := [(7, .int (nI 0)), (6, .int (nI p.2)), (5, .int (nI p.1)), (4, .int (bI true)), (3, .int (bI true)), (0, .ref (a 0))]) dX12_alike_88 (ltn hn (by decide)) rfl ?_
        refine V.aload_n X 5 dX12_alike_90 rfl rfl ?_
        refine V.iload X 2 dX12_alike_91 rfl ?_
        refine V.iload X 1 dX12_alike_93 rfl ?_
        refine V.callV X rfl (r_differ (zl Z) (zG Z) a τ p.1 p.2 (by omega) (by omega) q0 q1 q2 q3) cv_X12_192 rfl 0 rfl rfl (len hRf (by decide)) (len hRl (by decide)) hk0 ht0 [] rfl (Nat.le_of_ble_eq_true rfl) dX12_alike_95 ?_
        rintro _ _ ⟨rfl, rfl⟩
        refine V.eqs (st' := [.int (bI (decide (¬ (gA τ 0 p.1 = gA τ 0 p.2 ∧ gJ τ 0 p.1 = gJ τ 0 p.2 ∧ gA τ 1 p.1 = gA τ 1 p.2))))]) rfl ?_
        refine V.topi (y := bI true) (by rw [hd4]) ?_
        refine V.if_neB X 105 dX12_alike_98 (by decide) (fun c98 => ?_) (fun c98 => by exfalso; cases c98)
        refine V.iconst X (v := nI 0) dX12_alike_105 (by decide) ?_
        refine V.topi (y := bI false) rfl ?_
        refine V.istore X (lv' := [(4, .int (bI false)), (7, .int (nI 0)), (6, .int (nI p.2)), (5, .int (nI p.1)), (3, .int (bI true)), (0, .ref (a 0))]) dX12_alike_106 (ltn hn (by decide)) rfl ?_
        refine V.iload X 3 dX12_alike_108 rfl ?_
        refine V.iload X 2 dX12_alike_110 rfl ?_
        refine V.icmp_eqN X 127 dX12_alike_112 (by decide) (by omega) (by omega) (fun c112 => ?_) (fun c112 => ?_)
        · refine V.aload_n X 5 dX12_alike_127 rfl rfl ?_
          refine V.dup X dX12_alike_128 rfl ?_
          refine Vg_r_0_depth (x := gN (τ) 7) X tw_846 dX12_alike_129 rfl ?_
          refine V.iconst X (v := nI 1) dX12_alike_132 (by decide) ?_
          refine V.isubN X dX12_alike_133 (by omega) ?_
          refine Vp_r_0_depth (x := (gN (τ) 7) - 1) X tw_846 dX12_alike_134 ?_
          refine V.goto X 181 dX12_alike_137 (by decide) ?_
          refine V.goto X 35 dX12_alike_181 (by decide) ?_
          refine V.iload_n X 4 dX12_alike_35 rfl rfl ?_
          refine V.if_eqB X 184 dX12_alike_36 (by decide) (fun c36 => by exfalso; cases c36) (fun c36 => ?_)
          refine V.aload_n X 5 dX12_alike_39 rfl rfl ?_
          refine Vg_r_0_depth (x := (gN (τ) 7) - 1) X tw_846 dX12_alike_40 rfl ?_
          refine V.if_leN X 184 dX12_alike_43 (by decide) (by omega) (fun c43 => ?_) (fun c43 => ?_)
          · exact V.sub [0, 4, 5] rfl (LE _ false true ((xW_dep _ _).tr xa) (xb.dep _) (fun _ => by rw [xd]; rfl))
          · refine V.iload X 0 dX12_alike_46 rfl ?_
            refine V.if_eqB X 184 dX12_alike_48 (by decide) (fun c48 => ?_) (fun c48 => by exfalso; cases c48)
            exact V.sub [0, 4, 5] rfl (LE _ false true ((xW_dep _ _).tr xa) (xb.dep _) (fun _ => by rw [xd]; rfl))
        · refine V.iload X 1 dX12_alike_115 rfl ?_
          refine V.aload_n X 5 dX12_alike_117 rfl rfl ?_
          refine Vg_r_0_partMany X tw_831 dX12_alike_118 ?_
          refine V.iload X 3 dX12_alike_121 rfl ?_
          refine Va_r_partMany (x := gA (τ) 1 p.1) X (by omega) dX12_alike_123 rfl ?_
          refine V.icmp_ltN X 140 dX12_alike_124 (by decide) (by decide) (by omega) (fun c124 => ?_) (fun c124 => ?_)
          · refine V.iload X 0 dX12_alike_140 rfl ?_
            refine V.if_eqB X 181 dX12_alike_142 (by decide) (fun c142 => ?_) (fun c142 => by exfalso; cases c142)
            refine V.goto X 35 dX12_alike_181 (by decide) ?_
            refine V.iload_n X 4 dX12_alike_35 rfl rfl ?_
            refine V.if_eqB X 184 dX12_alike_36 (by decide) (fun c36 => by exfalso; cases c36) (fun c36 => ?_)
            refine V.aload_n X 5 dX12_alike_39 rfl rfl ?_
            refine Vg_r_0_depth (x := gN (τ) 7) X tw_846 dX12_alike_40 rfl ?_
            refine V.if_leN X 184 dX12_alike_43 (by decide) (by omega) (fun c43 => by exfalso; omega) (fun c43 => ?_)
            refine V.iload X 0 dX12_alike_46 rfl ?_
            refine V.if_eqB X 184 dX12_alike_48 (by decide) (fun c48 => ?_) (fun c48 => by exfalso; cases c48)
            exact V.sub [0, 4, 5] rfl (LE _ false true (xa) xb (fun _ => by rw [xd]; rfl))
          · refine V.aload_n X 5 dX12_alike_127 rfl rfl ?_
            refine V.dup X dX12_alike_128 rfl ?_
            refine Vg_r_0_depth (x := gN (τ) 7) X tw_846 dX12_alike_129 rfl ?_
            refine V.iconst X (v := nI 1) dX12_alike_132 (by decide) ?_
            refine V.isubN X dX12_alike_133 (by omega) ?_
            refine Vp_r_0_depth (x := (gN (τ) 7) - 1) X tw_846 dX12_alike_134 ?_
            refine V.goto X 181 dX12_alike_137 (by decide) ?_
            refine V.goto X 35 dX12_alike_181 (by decide) ?_
            refine V.iload_n X 4 dX12_alike_35 rfl rfl ?_
            refine V.if_eqB X 184 dX12_alike_36 (by decide) (fun c36 => by exfalso; cases c36) (fun c36 => ?_)
            refine V.aload_n X 5 dX12_alike_39 rfl rfl ?_
            refine Vg_r_0_depth (x := (gN (τ) 7) - 1) X tw_846 dX12_alike_40 rfl ?_
            refine V.if_leN X 184 dX12_alike_43 (by decide) (by omega) (fun c43 => ?_) (fun c43 => ?_)
            · exact V.sub [0, 4, 5] rfl (LE _ false true ((xW_dep _ _).tr xa) (xb.dep _) (fun _ => by rw [xd]; rfl))
            · refine V.iload X 0 dX12_alike_46 rfl ?_
              refine V.if_eqB X 184 dX12_alike_48 (by decide) (fun c48 => ?_) (fun c48 => by exfalso; cases c48)
              exact V.sub [0, 4, 5] rfl (LE _ false true ((xW_dep _ _).tr xa) (xb.dep _) (fun _ => by rw [xd]; rfl))
      have LP : ∀ (m : Nat) (c : List ((Nat × Nat) × Nat)) (s : List ((Nat × Nat) × Nat) × Int32 × Bool) (τ : St), 2 * (rst (akC (yA S)) Prod.fst c).length + c.length ≤ m → WI Prod.fst (fun q => some q.2) (fun q t => q.1 ≤ d2 ∧ q.2 ≤ b2 ∧ t ≤ 4000 ∧ akD (yA S) q = false) (akC (yA S)) (akD (yA S)) bot d2 F σ c s τ → V Z (rw (zG Z) a τ) [(4, .int (bI true)), (3, .int (bI true)), (0, .ref (a 0))] 35 [] := by
        intro m
        induction m with
        | zero =>
          intro c s τ hm hI
          have hc : c = [] := List.length_eq_zero_iff.mp (by omega)
          subst hc
          obtain ⟨w1, w2, w3, w4, w5, w6, w7, w8, w9⟩ := hI
          have w9 : s = F := w9
          subst w9
          have w2 : gN τ 7 = 0 := w2
          refine V.iload_n X 1 dX12_alike_35 rfl rfl ?_
          refine V.if_eqB X 184 dX12_alike_36 (by decide) (fun c36 => by exfalso; cases c36) (fun c36 => ?_)
          refine V.aload_n X 2 dX12_alike_39 rfl rfl ?_
          refine Vg_r_0_depth (x := gN (τ) 7) X tw_846 dX12_alike_40 rfl ?_
          refine V.if_leN X 184 dX12_alike_43 (by decide) (by omega) (fun c43 => ?_) (fun c43 => by exfalso; omega)
          exact V.sub [0, 1, 2] rfl (LE τ true true w1 w5 (fun _ => by rw [w6]; rfl))
        | succ m ih =>
          intro c s τ hm hI
          rcases c with _ | ⟨⟨p, t⟩, c⟩
          · obtain ⟨w1, w2, w3, w4, w5, w6, w7, w8, w9⟩ := hI
            have w9 : s = F := w9
            subst w9
            have w2 : gN τ 7 = 0 := w2
            refine V.iload_n X 1 dX12_alike_35 rfl rfl ?_
            refine V.if_eqB X 184 dX12_alike_36 (by decide) (fun c36 => by exfalso; cases c36) (fun c36 => ?_)
            refine V.aload_n X 2 dX12_alike_39 rfl rfl ?_
            refine Vg_r_0_depth (x := gN (τ) 7) X tw_846 dX12_alike_40 rfl ?_
            refine V.if_leN X 184 dX12_alike_43 (by decide) (by omega) (fun c43 => ?_) (fun c43 => by exfalso; omega)
            exact V.sub [0, 1, 2] rfl (LE τ true true w1 w5 (fun _ => by rw [w6]; rfl))
          · have hI0 := hI
            obtain ⟨xa, w2, w3, w4, w5, w6, w7, w8, w9⟩ := hI
            simp only [List.length_cons] at w2 hm
            obtain ⟨⟨y1, y2, y3, y4⟩, y5, y6, y7, _⟩ := w3
            have xp1 : p.1 < aN (yA S) := by omega
            have xp2 : p.2 < aN (yA S) := by omega
            have hd4x := w4.1
            have ea := xa.1
            simp only [ars, Prod.mk.injEq] at ea
            obtain ⟨ea0, ea1, ea2, ea3, ea4, ea5, ea6, ea7, ea8⟩ := ea
            obtain ⟨f1, f2, f3, f4, f5, f6, f7⟩ := g2 p.1 xp1
            obtain ⟨k1, k2, k3, k4, k5, k6, k7⟩ := g2 p.2 xp2
            have l1 := tot_len hW xp1
            have l2 := tot_len hW xp2
            have kk1 := hW.2.2.1 _ xp1
            have kk2 := hW.2.2.1 _ xp2
            have ew2 := xa.2.1
            have ew3 := xa.2.2.1
            have hi4 : gA τ 4 (gN τ 7 - 1) = p.1 := by rw [w2, Nat.add_sub_cancel]; exact y5
            have hi3 : gP τ 3 (gN τ 7 - 1) = some p.2 := by rw [w2, Nat.add_sub_cancel]; exact y7
            have hi5 : gA τ 5 (gN τ 7 - 1) = t := by rw [w2, Nat.add_sub_cancel]; exact y6
            have hd4 : decide (¬ (gA τ 0 p.1 = gA τ 0 p.2 ∧ gJ τ 0 p.1 = gJ τ 0 p.2 ∧ gA τ 1 p.1 = gA τ 1 p.2)) = false := by rw [ea2, ea5, ea3, f1, f2, f3, k1, k2, k3]; exact y4
            have q0 : gA τ 0 p.1 < 2 ^ 31 := by rw [ea2, f1]; omega
            have q1 : gA τ 0 p.2 < 2 ^ 31 := by rw [ea2, k1]; omega
            have q2 : gA τ 1 p.1 < 2 ^ 31 := by rw [ea3, f3]; omega
            have q3 : gA τ 1 p.2 < 2 ^ 31 := by rw [ea3, k3]; omega
            have q4 : gA τ 1 p.1 = (aP (yA S) p.1).length := by rw [ea3, f3]
            have hxt : RRd (yA S) τ := hx.ofa xa.1
            have hll : (aP (yA S) p.1).length = (aP (yA S) p.2).length := by have := y4; simp only [akD, decide_eq_false_iff_not, Classical.not_not] at this; exact this.2.2
            refine V.iload_n X 1 dX12_alike_35 rfl rfl ?_
            refine V.if_eqB X 184 dX12_alike_36 (by decide) (fun c36 => by exfalso; cases c36) (fun c36 => ?_)
            refine V.aload_n X 2 dX12_alike_39 rfl rfl ?_
            refine Vg_r_0_depth (x := gN (τ) 7) X tw_846 dX12_alike_40 rfl ?_
            refine V.if_leN X 184 dX12_alike_43 (by decide) (by omega) (fun c43 => by exfalso; omega) (fun c43 => ?_)
            refine V.iload X 0 dX12_alike_46 rfl ?_
            refine V.if_eqB X 184 dX12_alike_48 (by decide) (fun c48 => by exfalso; cases c48) (fun c48 => ?_)
            refine V.aload_n X 2 dX12_alike_51 rfl rfl ?_
            refine Vg_r_0_pile X tw_849 dX12_alike_52 ?_
            refine V.aload_n X 2 dX12_alike_55 rfl rfl ?_
            refine Vg_r_0_depth (x := gN (τ) 7) X tw_846 dX12_alike_56 rfl ?_
            refine V.iconst X (v := nI 1) dX12_alike_59 (by decide) ?_
            refine V.isubN X dX12_alike_60 (by omega) ?_
            refine Va_r_pile (x := gA (τ) 4 ((gN (τ) 7) - 1)) X (by omega) dX12_alike_61 rfl ?_
            refine V.topi (y := nI p.1) (by rw [hi4]; try rfl) ?_
            refine V.istore X (lv' := [(5, .int (nI p.1)), (4, .int (bI true)), (3, .int (bI true)), (0, .ref (a 0))]) dX12_alike_62 (ltn hn (by decide)) rfl ?_
            refine V.aload_n X 3 dX12_alike_64 rfl rfl ?_
            refine Vg_r_0_other X tw_850 dX12_alike_65 ?_
            refine V.aload_n X 3 dX12_alike_68 rfl rfl ?_
            refine Vg_r_0_depth (x := gN (τ) 7) X tw_846 dX12_alike_69 rfl ?_
            refine V.iconst X (v := nI 1) dX12_alike_72 (by decide) ?_
            refine V.isubN X dX12_alike_73 (by omega) ?_
            refine Va_r_other (x := gP (τ) 3 ((gN (τ) 7) - 1)) X (by omega) dX12_alike_74 rfl ?_
            refine V.topi (y := nI p.2) (by rw [hi3]; try rfl) ?_
            refine V.istore X (lv' := [(6, .int (nI p.2)), (5, .int (nI p.1)), (4, .int (bI true)), (3, .int (bI true)), (0, .ref (a 0))]) dX12_alike_75 (ltn hn (by decide)) rfl ?_
            refine V.aload_n X 4 dX12_alike_77 rfl rfl ?_
            refine Vg_r_0_begun X tw_851 dX12_alike_78 ?_
            refine V.aload_n X 4 dX12_alike_81 rfl rfl ?_
            refine Vg_r_0_depth (x := gN (τ) 7) X tw_846 dX12_alike_82 rfl ?_
            refine V.iconst X (v := nI 1) dX12_alike_85 (by decide) ?_
            refine V.isubN X dX12_alike_86 (by omega) ?_
            refine Va_r_begun (x := gA (τ) 5 ((gN (τ) 7) - 1)) X (by omega) dX12_alike_87 rfl ?_
            refine V.topi (y := nI t) (by rw [hi5]; try rfl) ?_
            refine V.istore X (lv' := [(7, .int (nI t)), (6, .int (nI p.2)), (5, .int (nI p.1)), (4, .int (bI true)), (3, .int (bI true)), (0, .ref (a 0))]) dX12_alike_88 (ltn hn (by decide)) rfl ?_
            refine V.aload_n X 5 dX12_alike_90 rfl rfl ?_
            refine V.iload X 2 dX12_alike_91 rfl ?_
            refine V.iload X 1 dX12_alike_93 rfl ?_
            refine V.callV X rfl (r_differ (zl Z) (zG Z) a τ p.1 p.2 (by omega) (by omega) q0 q1 q2 q3) cv_X12_192 rfl 0 rfl rfl (len hRf (by decide)) (len hRl (by decide)) hk0 ht0 [] rfl (Nat.le_of_ble_eq_true rfl) dX12_alike_95 ?_
            rintro _ _ ⟨rfl, rfl⟩
            refine V.eqs (st' := [.int (bI (decide (¬ (gA τ 0 p.1 = gA τ 0 p.2 ∧ gJ τ 0 p.1 = gJ τ 0 p.2 ∧ gA τ 1 p.1 = gA τ 1 p.2))))]) rfl ?_
            refine V.topi (y := bI false) (by rw [hd4]) ?_
            refine V.if_neB X 105 dX12_alike_98 (by decide) (fun c98 => by exfalso; cases c98) (fun c98 => ?_)
            refine V.iconst X (v := nI 1) dX12_alike_101 (by decide) ?_
            refine V.goto X 106 dX12_alike_102 (by decide) ?_
            refine V.topi (y := bI true) rfl ?_
            refine V.istore X (lv' := [(4, .int (bI true)), (7, .int (nI t)), (6, .int (nI p.2)), (5, .int (nI p.1)), (3, .int (bI true)), (0, .ref (a 0))]) dX12_alike_106 (ltn hn (by decide)) rfl ?_
            refine V.iload X 3 dX12_alike_108 rfl ?_
            refine V.iload X 2 dX12_alike_110 rfl ?_
            refine V.icmp_eqN X 127 dX12_alike_112 (by decide) (by omega) (by omega) (fun c112 => ?_) (fun c112 => ?_)
            · refine V.aload_n X 5 dX12_alike_127 rfl rfl ?_
              refine V.dup X dX12_alike_128 rfl ?_
              refine Vg_r_0_depth (x := gN (τ) 7) X tw_846 dX12_alike_129 rfl ?_
              refine V.iconst X (v := nI 1) dX12_alike_132 (by decide) ?_
              refine V.isubN X dX12_alike_133 (by omega) ?_
              refine Vp_r_0_depth (x := (gN (τ) 7) - 1) X tw_846 dX12_alike_134 ?_
              refine V.goto X 181 dX12_alike_137 (by decide) ?_
              refine V.goto X 35 dX12_alike_181 (by decide) ?_
              have hl : (akC (yA S) p).length ≤ t := (by rw [akC, if_pos c112]; simp)
              exact V.sub [0, 4, 5] rfl (ih c s _ (by rw [rst_end hl] at hm; omega) (hI0.pop hl))
            · refine V.iload X 1 dX12_alike_115 rfl ?_
              refine V.aload_n X 5 dX12_alike_117 rfl rfl ?_
              refine Vg_r_0_partMany X tw_831 dX12_alike_118 ?_
              refine V.iload X 3 dX12_alike_121 rfl ?_
              refine Va_r_partMany (x := gA (τ) 1 p.1) X (by omega) dX12_alike_123 rfl ?_
              refine V.topi (y := nI (aP (yA S) p.1).length) (by rw [q4]) ?_
              refine V.icmp_ltN X 140 dX12_alike_124 (by decide) (by omega) (by omega) (fun c124 => ?_) (fun c124 => ?_)
              · refine V.iload X 0 dX12_alike_140 rfl ?_
                refine V.if_eqB X 181 dX12_alike_142 (by decide) (fun c142 => by exfalso; cases c142) (fun c142 => ?_)
                refine V.aload_n X 5 dX12_alike_145 rfl rfl ?_
                refine Vg_r_0_begun X tw_851 dX12_alike_146 ?_
                refine V.aload_n X 5 dX12_alike_149 rfl rfl ?_
                refine Vg_r_0_depth (x := gN (τ) 7) X tw_846 dX12_alike_150 rfl ?_
                refine V.iconst X (v := nI 1) dX12_alike_153 (by decide) ?_
                refine V.isubN X dX12_alike_154 (by omega) ?_
                refine V.dup2 X dX12_alike_155 rfl rfl ?_
                refine Va_r_begun (x := gA (τ) 5 ((gN (τ) 7) - 1)) X (by omega) dX12_alike_156 rfl ?_
                refine V.topi (y := nI t) (by rw [hi5]; try rfl) ?_
                refine V.iconst X (v := nI 1) dX12_alike_157 (by decide) ?_
                refine V.iaddN X dX12_alike_158 ?_
                refine Vs_r_begun (f := gA (τ) 5) (i := (gN (τ) 7) - 1) (x := t + 1) X (by omega) dX12_alike_159 rfl ?_
                refine V.aload_n X 5 dX12_alike_160 rfl rfl ?_
                refine V.aload_n X 5 dX12_alike_161 rfl rfl ?_
                refine V.iload X 3 dX12_alike_162 rfl ?_
                refine V.iload X 1 dX12_alike_164 rfl ?_
                refine V.callV X rfl (r_partAt (zl Z) (zG Z) a (sA τ 5 (va_up (gA τ 5) (gN τ 7 - 1) (t + 1))) (A := yA S) p.1 t (hxt.ofa rfl) hW xp1 (by omega)) cv_X12_115 rfl 0 rfl rfl (len hRf (by decide)) (len hRl (by decide)) hk0 ht0 [.ref (a 0)] rfl (Nat.le_of_ble_eq_true rfl) dX12_alike_166 ?_
                rintro _ _ ⟨rfl, rfl⟩
                refine V.eqs (st' := [.int (nI ((aP (yA S) p.1).getD t 0)), .ref (a 0)]) rfl ?_
                refine V.aload_n X 5 dX12_alike_169 rfl rfl ?_
                refine V.iload X 2 dX12_alike_170 rfl ?_
                refine V.iload X 1 dX12_alike_172 rfl ?_
                refine V.callV X rfl (r_partAt (zl Z) (zG Z) a (sA τ 5 (va_up (gA τ 5) (gN τ 7 - 1) (t + 1))) (A := yA S) p.2 t (hxt.ofa rfl) hW xp2 (by omega)) cv_X12_115 rfl 0 rfl rfl (len hRf (by decide)) (len hRl (by decide)) hk0 ht0 [.int (nI ((aP (yA S) p.1).getD t 0)), .ref (a 0)] rfl (Nat.le_of_ble_eq_true rfl) dX12_alike_174 ?_
                rintro _ _ ⟨rfl, rfl⟩
                refine V.eqs (st' := [.int (nI ((aP (yA S) p.2).getD t 0)), .int (nI ((aP (yA S) p.1).getD t 0)), .ref (a 0)]) rfl ?_
                have hne : ¬ p.1 = p.2 := c112
                have hp : (akC (yA S) p)[t]? = some ((aP (yA S) p.1).getD t 0, (aP (yA S) p.2).getD t 0) := akC_get hne hll (by omega)
                have hml := hmem p _ t hp
                obtain ⟨u1, u2, u3, u4, u5⟩ := hI0.step2 hE (by omega) hbot hp ⟨y1, y2, by omega, y4⟩
                refine V.topi (y := oI (some ((aP (yA S) p.2).getD t 0))) rfl ?_
                refine V.callV X rfl (r_visit (zl Z) (zG Z) a (sA τ 5 (va_up (gA τ 5) (gN τ 7 - 1) (t + 1))) ((aP (yA S) p.1).getD t 0) (some ((aP (yA S) p.2).getD t 0)) (by show gN τ 7 < 1501; omega) (by show gN τ 8 ≤ 20000; rw [w5.1]; exact w5.2.1) (by show gN τ 9 < 2 ^ 30; rw [w5.2.2.1]; omega) (by show gN τ 3 < 2 ^ 30; omega) (by show gN τ 2 < 2 ^ 30; omega)) cv_X12_166 rfl 0 rfl rfl (len hRf (by decide)) (len hRl (by decide)) hk0 ht0 [] rfl (Nat.le_of_ble_eq_true rfl) dX12_alike_177 ?_
                rintro _ _ ⟨b, rfl, ⟨z1, rfl, rfl⟩ | ⟨z1, z2, rfl, rfl⟩ | ⟨z1, z2, rfl, rfl⟩⟩
                · have uu := u3 z1
                  have hxx : xW (sI (sA τ 5 (va_up (gA τ 5) (gN τ 7 - 1) (t + 1))) 0 (-5)) σ := (xW_halt _ _).tr ((xW_beg _ _).tr xa)
                  have hne0 : ¬ F.2.1 = 0 := by rw [uu.2]; decide
                  generalize (sI (sA τ 5 (va_up (gA τ 5) (gN τ 7 - 1) (t + 1))) 0 (-5)) = τ2 at uu hxx ⊢
                  refine V.eqs (st' := [.int (bI false)]) rfl ?_
                  refine V.istore_n X (lv' := [(3, .int (bI false)), (4, .int (bI true)), (7, .int (nI t)), (6, .int (nI p.2)), (5, .int (nI p.1)), (0, .ref (a 0))]) dX12_alike_180 rfl (ltn hn (by decide)) rfl ?_
                  refine V.goto X 35 dX12_alike_181 (by decide) ?_
                  refine V.iload_n X 0 dX12_alike_35 rfl rfl ?_
                  refine V.if_eqB X 184 dX12_alike_36 (by decide) (fun c36 => ?_) (fun c36 => by exfalso; cases c36)
                  exact V.sub [1, 0, 5] rfl (LE _ true false hxx uu.1 (fun z => absurd z hne0))
                · have uu := u4 z1 z2
                  have hxx : xW (sI (sA τ 5 (va_up (gA τ 5) (gN τ 7 - 1) (t + 1))) 0 (-6)) σ := (xW_halt _ _).tr ((xW_beg _ _).tr xa)
                  have hne0 : ¬ F.2.1 = 0 := by rw [uu.2]; decide
                  generalize (sI (sA τ 5 (va_up (gA τ 5) (gN τ 7 - 1) (t + 1))) 0 (-6)) = τ2 at uu hxx ⊢
                  refine V.eqs (st' := [.int (bI false)]) rfl ?_
                  refine V.istore_n X (lv' := [(3, .int (bI false)), (4, .int (bI true)), (7, .int (nI t)), (6, .int (nI p.2)), (5, .int (nI p.1)), (0, .ref (a 0))]) dX12_alike_180 rfl (ltn hn (by decide)) rfl ?_
                  refine V.goto X 35 dX12_alike_181 (by decide) ?_
                  refine V.iload_n X 0 dX12_alike_35 rfl rfl ?_
                  refine V.if_eqB X 184 dX12_alike_36 (by decide) (fun c36 => ?_) (fun c36 => by exfalso; cases c36)
                  exact V.sub [1, 0, 5] rfl (LE _ true false hxx uu.1 (fun z => absurd z hne0))
                · have uu := u5 z1 z2
                  have hxx : xW (rVU (sA τ 5 (va_up (gA τ 5) (gN τ 7 - 1) (t + 1))) ((aP (yA S) p.1).getD t 0) (some ((aP (yA S) p.2).getD t 0))) σ := (xW_vis _ _ _).tr ((xW_beg _ _).tr xa)
                  have n7 : gN (rVU (sA τ 5 (va_up (gA τ 5) (gN τ 7 - 1) (t + 1))) ((aP (yA S) p.1).getD t 0) (some ((aP (yA S) p.2).getD t 0))) 7 = gN τ 7 + 1 := rfl
                  have n4 : gA (rVU (sA τ 5 (va_up (gA τ 5) (gN τ 7 - 1) (t + 1))) ((aP (yA S) p.1).getD t 0) (some ((aP (yA S) p.2).getD t 0))) 4 (gN τ 7) = (aP (yA S) p.1).getD t 0 := if_pos rfl
                  have n3 : gP (rVU (sA τ 5 (va_up (gA τ 5) (gN τ 7 - 1) (t + 1))) ((aP (yA S) p.1).getD t 0) (some ((aP (yA S) p.2).getD t 0))) 3 (gN τ 7) = some ((aP (yA S) p.2).getD t 0) := if_pos rfl
                  have n5 : gA (rVU (sA τ 5 (va_up (gA τ 5) (gN τ 7 - 1) (t + 1))) ((aP (yA S) p.1).getD t 0) (some ((aP (yA S) p.2).getD t 0))) 5 (gN τ 7) = 0 := if_pos rfl
                  have uu1 := uu.1
                  have uu2 := uu.2
                  clear uu
                  have V1e : (rVU (sA τ 5 (va_up (gA τ 5) (gN τ 7 - 1) (t + 1))) ((aP (yA S) p.1).getD t 0) (some ((aP (yA S) p.2).getD t 0))) = rVU (sA τ 5 (va_up (gA τ 5) (gN τ 7 - 1) (t + 1))) (Prod.fst ((aP (yA S) p.1).getD t 0, (aP (yA S) p.2).getD t 0)) (some (Prod.snd ((aP (yA S) p.1).getD t 0, (aP (yA S) p.2).getD t 0))) := rfl
                  generalize (rVU (sA τ 5 (va_up (gA τ 5) (gN τ 7 - 1) (t + 1))) ((aP (yA S) p.1).getD t 0) (some ((aP (yA S) p.2).getD t 0))) = τ2 at *
                  refine V.eqs (st' := [.int (bI true)]) rfl ?_
                  refine V.istore_n X (lv' := [(3, .int (bI true)), (4, .int (bI true)), (7, .int (nI t)), (6, .int (nI p.2)), (5, .int (nI p.1)), (0, .ref (a 0))]) dX12_alike_180 rfl (ltn hn (by decide)) rfl ?_
                  refine V.goto X 35 dX12_alike_181 (by decide) ?_
                  rcases hst : akD (yA S) ((aP (yA S) p.1).getD t 0, (aP (yA S) p.2).getD t 0) with _ | _
                  · obtain ⟨v1, v2⟩ := uu2 hst (by show (aP (yA S) p.1).getD t 0 ≤ d2 ∧ (aP (yA S) p.2).getD t 0 ≤ b2 ∧ 0 ≤ 4000 ∧ _; exact ⟨by have := hml.1; simp only at this; omega, by have := hml.2; simp only at this; omega, by omega, hst⟩)
                    exact V.sub [1, 0, 5] rfl (ih _ _ _ (by simp only [List.length_cons]; omega) v1)
                  · obtain ⟨v1, v2, v3⟩ := uu1 hst
                    exact V.sub [1, 0, 5] rfl (LX τ2 (gN τ 7) ((aP (yA S) p.1).getD t 0, (aP (yA S) p.2).getD t 0) hxx v1 v2 v3 n7 (by omega) n4 n3 n5 hst (by have := hml.1; simp only at this ⊢; omega) (by have := hml.2; simp only at this ⊢; omega))
              · refine V.aload_n X 5 dX12_alike_127 rfl rfl ?_
                refine V.dup X dX12_alike_128 rfl ?_
                refine Vg_r_0_depth (x := gN (τ) 7) X tw_846 dX12_alike_129 rfl ?_
                refine V.iconst X (v := nI 1) dX12_alike_132 (by decide) ?_
                refine V.isubN X dX12_alike_133 (by omega) ?_
                refine Vp_r_0_depth (x := (gN (τ) 7) - 1) X tw_846 dX12_alike_134 ?_
                refine V.goto X 181 dX12_alike_137 (by decide) ?_
                refine V.goto X 35 dX12_alike_181 (by decide) ?_
                have hl : (akC (yA S) p).length ≤ t := (by by_cases hne : p.1 = p.2; (rw [akC, if_pos hne]; simp); (rw [akC_len y4 hne]; omega))
                exact V.sub [0, 4, 5] rfl (ih c s _ (by rw [rst_end hl] at hm; omega) (hI0.pop hl))
      refine V.aload_n X 0 dX12_alike_21 rfl rfl ?_
      refine V.callV X rfl (r_begin (zl Z) (zG Z) a σ) cv_X12_163 rfl 0 rfl rfl (len hRf (by decide)) (len hRl (by decide)) hk0 ht0 [] rfl (Nat.le_of_ble_eq_true rfl) dX12_alike_22 ?_
      rintro _ _ ⟨rfl, rfl⟩
      refine V.eqs (st' := []) rfl ?_
      refine V.aload_n X 0 dX12_alike_25 rfl rfl ?_
      refine V.iload_n X 1 dX12_alike_26 rfl rfl ?_
      refine V.iload_n X 2 dX12_alike_27 rfl rfl ?_
      refine V.topi (y := oI (some b2)) rfl ?_
      refine V.callV X rfl (r_visit (zl Z) (zG Z) a (sI (sN (sN (sN σ 7 0) 8 0) 9 0) 0 0) d2 (some b2) (by show 0 < 1501; decide) (by show 0 ≤ 20000; decide) (by show 0 < 2 ^ 30; decide) (by show gN σ 3 < 2 ^ 30; omega) (by show gN σ 2 < 2 ^ 30; omega)) cv_X12_166 rfl 0 rfl rfl (len hRf (by decide)) (len hRl (by decide)) hk0 ht0 [] rfl (Nat.le_of_ble_eq_true rfl) dX12_alike_28 ?_
      rintro _ _ ⟨b, rfl, ⟨z1, rfl, rfl⟩ | ⟨z1, z2, rfl, rfl⟩ | ⟨z1, z2, rfl, rfl⟩⟩
      · exact absurd (show 0 = 20000 from z1) (by decide)
      · exact absurd (show gN σ 3 < 0 + 1 from z2.2) (by omega)
      · have hR0 : RV Prod.fst (([], 0, false) : List ((Nat × Nat) × Nat) × Int32 × Bool) (sI (sN (sN (sN σ 7 0) 8 0) 9 0) 0 0) := ⟨rfl, by simp, rfl, rfl, fun i q hq => by simp at hq⟩
        have hR1 : ∀ b, RV Prod.fst (([((d2, b2), 1)], 0, b) : List ((Nat × Nat) × Nat) × Int32 × Bool) (rVU (sI (sN (sN (sN σ 7 0) 8 0) 9 0) 0 0) d2 (some b2)) := fun b => hR0.vis (n := 0) rfl (by simp) (d2, b2) (some b2) b
        have hxx : xW (rVU (sI (sN (sN (sN σ 7 0) 8 0) 9 0) 0 0) d2 (some b2)) σ := ⟨rfl, rfl, rfl, rfl, rfl, rfl⟩
        have n7 : gN (rVU (sI (sN (sN (sN σ 7 0) 8 0) 9 0) 0 0) d2 (some b2)) 7 = 0 + 1 := rfl
        have n4 : gA (rVU (sI (sN (sN (sN σ 7 0) 8 0) 9 0) 0 0) d2 (some b2)) 4 0 = d2 := rfl
        have n3 : gP (rVU (sI (sN (sN (sN σ 7 0) 8 0) 9 0) 0 0) d2 (some b2)) 3 0 = some b2 := rfl
        have n5 : gA (rVU (sI (sN (sN (sN σ 7 0) 8 0) 9 0) 0 0) d2 (some b2)) 5 0 = 0 := rfl
        have hF2 : runW bot (akD (yA S)) (rst (akC (yA S)) Prod.fst [((d2, b2), 0)]) ([((d2, b2), 1)], 0, akD (yA S) (d2, b2)) = F := by rw [← hFd, vis_rst hE, runW_cons, stp, if_neg (by simp), if_neg (by simp), if_neg (by show ¬ bot < 1; omega)]; rfl
        generalize (rVU (sI (sN (sN (sN σ 7 0) 8 0) 9 0) 0 0) d2 (some b2)) = τ2 at *
        refine V.eqs (st' := [.int (bI true)]) rfl ?_
        refine V.istore_n X (lv' := [(3, .int (bI true)), (0, .ref (a 0)), (1, .int (nI d2)), (2, .int (nI b2))]) dX12_alike_31 rfl (ltn hn (by decide)) rfl ?_
        refine V.iconst X (v := nI 1) dX12_alike_32 (by decide) ?_
        refine V.topi (y := bI true) rfl ?_
        refine V.istore X (lv' := [(4, .int (bI true)), (3, .int (bI true)), (0, .ref (a 0)), (1, .int (nI d2)), (2, .int (nI b2))]) dX12_alike_33 (ltn hn (by decide)) rfl ?_
        rcases hst : akD (yA S) (d2, b2) with _ | _
        · rw [hst] at hF2
          exact V.sub [0, 1, 2] rfl (LP _ [((d2, b2), 0)] ([((d2, b2), 1)], 0, false) τ2 (Nat.le_refl _) ⟨hxx, n7, ⟨⟨Nat.le_refl _, Nat.le_refl _, by omega, hst⟩, n4, n5, n3, trivial⟩, ⟨by simp, trivial⟩, hR1 false, rfl, rfl, by simp [mxD]; exact hb1, hF2⟩)
        · rw [hst, runW_over _ rfl] at hF2
          exact V.sub [0, 1, 2] rfl (LX τ2 0 (d2, b2) hxx (by rw [← hF2]; exact hR1 true) (by rw [← hF2]) (by rw [← hF2]) n7 (by omega) n4 n3 n5 hst hd2 hb2)
    · refine V.aload_n X 0 dX12_alike_16 rfl rfl ?_
      refine V.callV X rfl (r_bad (zl Z) (zG Z) a σ) cv_X12_182 rfl 0 rfl rfl (len hRf (by decide)) (len hRl (by decide)) hk0 ht0 [] rfl (Nat.le_of_ble_eq_true rfl) dX12_alike_17 ?_
      rintro _ _ ⟨rfl, rfl⟩
      refine V.eqs (st' := [.int (-2)]) rfl ?_
      exact V.iret X rfl hA hk ht hQ rfl dX12_alike_20 (⟨by rw [sp_alike, if_neg (fun z => by rw [g0, z.2] at c13; cases c13)], _, rfl, by rw [sp_alike, if_neg (fun z => by rw [g0, z.2] at c13; cases c13)]; exact h.bad⟩)

