def patA (σ : St) (i : Nat) : Option Nat := if i < gN σ 2 then some (gA σ 12 i) else none
def isFg (o : Option Nat) : Bool := match o with
  | none => false
  | some c => decide (48 ≤ c ∧ c ≤ 57)
/-- how many figures from i on -/
def fgN (σ : St) : Nat → Nat → Nat
  | 0, _ => 0
  | f + 1, i => if isFg (patA σ i) = true then fgN σ f (i + 1) + 1 else 0
/-- what the n figures from i on come to, 2 to the 40th at most -/
def fgV (σ : St) (i : Nat) : Nat → Nat
  | 0 => 0
  | n + 1 => min (10 * fgV σ i n + (gA σ 12 (i + n) - 48)) 1099511627776
def sgL (b : Bool) (v : Nat) : Int64 := if b = true then -lN v else lN v
def numIn (b : Bool) (v : Nat) : Bool := decide (¬ sgL b v < -2147483648 ∧ sgL b v ≤ lN 2147483647)
def skV (σ : St) : Int32 := oI (patA σ (gN σ 5)) - nI 97
def skB (σ : St) : Bool := hasD 12 (skV σ)
def skS (σ : St) : St := if skB σ = true then sN (sI σ 0 (skV σ)) 5 (gN σ 5 + 1) else sI σ 0 (skV σ)
def snM (σ : St) : Bool := decide (patA σ (gN σ 5) = some 45)
def snI (σ : St) : Nat := gN σ 5 + if snM σ = true then 1 else 0
def snX (σ : St) : Prop := isFg (patA σ (snI σ)) = true ∧ ¬ (snM σ = true ∧ patA σ (snI σ) = some 48)
def fgE (σ : St) (i : Nat) : Nat := if patA σ i = some 48 then i + 1 else i + fgN σ 6001 i
def fgW (σ : St) (i : Nat) : Nat := if patA σ i = some 48 then 0 else fgV σ i (fgN σ 6001 i)
def snB (σ : St) : Prop := snX σ ∧ numIn (snM σ) (fgW σ (snI σ)) = true
def rdOK (σ : St) : Prop := gN σ 2 ≤ 6000 ∧ (∀ j, j < gN σ 2 → gA σ 12 j < 256) ∧ gN σ 5 ≤ 6001
theorem oI_some (k : Nat) : oI (some k) = nI k := rfl
theorem oI_none : oI none = -1 := rfl
theorem oI_inj {o : Option Nat} {c : Nat} (ho : ∀ k, o = some k → k < 2 ^ 31) (hc : c < 2 ^ 31) : oI o = nI c ↔ o = some c := by
  cases o with
  | none =>
    constructor
    · intro h; exact absurd h.symm (fun e => nI_nm1 hc e)
    · intro h; cases h
  | some k => rw [oI_some, nI_eq (ho k rfl) hc, Option.some.injEq]
theorem patA_lt {σ : St} (h : ∀ j, j < gN σ 2 → gA σ 12 j < 256) (i : Nat) : ∀ k, patA σ i = some k → k < 2 ^ 31 := by
  intro k hk; simp only [patA] at hk; split at hk
  · cases hk; have := h i (by assumption); omega
  · cases hk
theorem fgN_step {σ : St} {f i : Nat} (h : isFg (patA σ i) = true) : fgN σ (f + 1) i = fgN σ f (i + 1) + 1 := by rw [fgN, if_pos h]
theorem isFg_lt {σ : St} {i : Nat} (h : isFg (patA σ i) = true) : i < gN σ 2 := by
  rcases Nat.lt_or_ge i (gN σ 2) with q | q
  · exact q
  · rw [patA, if_neg (by omega)] at h; cases h
/-- the figures end where fgN says, with steps enough -/
theorem fgN_end {σ : St} : ∀ (f i : Nat), gN σ 2 ≤ i + f → isFg (patA σ (i + fgN σ f i)) = false ∧ ∀ j, j < fgN σ f i → isFg (patA σ (i + j)) = true
  | 0, i, h => by
    refine ⟨?_, fun j hj => by simp only [fgN] at hj; omega⟩
    simp only [fgN, Nat.add_zero]
    rw [patA, if_neg (by omega)]; rfl
  | f + 1, i, h => by
    by_cases hc : isFg (patA σ i) = true
    · have ih := fgN_end (σ := σ) f (i + 1) (by omega)
      rw [fgN_step hc]
      refine ⟨?_, ?_⟩
      · rw [show i + (fgN σ f (i + 1) + 1) = i + 1 + fgN σ f (i + 1) by omega]; exact ih.1
      · intro j hj
        cases j with
        | zero => exact hc
        | succ j => rw [show i + (j + 1) = i + 1 + j by omega]; exact ih.2 j (by omega)
    · rw [fgN, if_neg hc]
      refine ⟨by simpa using hc, fun j hj => by omega⟩
theorem isFg_val {σ : St} {i : Nat} (h : isFg (patA σ i) = true) : patA σ i = some (gA σ 12 i) ∧ 48 ≤ gA σ 12 i ∧ gA σ 12 i ≤ 57 := by
  have hl := isFg_lt h
  have e : patA σ i = some (gA σ 12 i) := by rw [patA, if_pos hl]
  rw [e] at h
  simp only [isFg, decide_eq_true_eq] at h
  exact ⟨e, h⟩

theorem fgO_f1 {o : Option Nat} (ho : ∀ k, o = some k → k < 256) (h : oI o < nI 48) : isFg o = false := by
  cases o with
  | none => rfl
  | some k => have := ho k rfl; rw [oI_some, nI_ltI (by omega) (by decide)] at h; simp [isFg]; omega
theorem fgO_f2 {o : Option Nat} (ho : ∀ k, o = some k → k < 256) (h : nI 57 < oI o) : isFg o = false := by
  cases o with
  | none => rfl
  | some k => have := ho k rfl; rw [oI_some, nI_ltI (by decide) (by omega)] at h; simp [isFg]; omega
theorem fgO_t {o : Option Nat} (ho : ∀ k, o = some k → k < 256) (h1 : ¬ oI o < nI 48) (h : ¬ nI 57 < oI o) : isFg o = true := by
  cases o with
  | none => exact absurd (by decide) h1
  | some k =>
    have := ho k rfl
    rw [oI_some, nI_ltI (by omega) (by decide)] at h1
    rw [oI_some, nI_ltI (by decide) (by omega)] at h
    simp [isFg]; omega
theorem patA_b {σ : St} (h : ∀ j, j < gN σ 2 → gA σ 12 j < 256) (i : Nat) : ∀ k, patA σ i = some k → k < 256 := by
  intro k hk; simp only [patA] at hk; split at hk
  · cases hk; exact h i (by assumption)
  · cases hk

set_option maxHeartbeats 4000000 in
set_option maxRecDepth 100000 in
theorem k_isFigure (l : Launch) (G : Gx) (ws : va_W) (o : Option Nat) (ho : ∀ k, o = some k → k < 256) : MM l G ⟨"NestedDeeds$Reader", "isFigure", "(I)Z"⟩ prog_8_method_6_code 1 (some .boolean) 0 0 [.int (oI o)] (ws) (fun rv w => rv = some (.int (bI (isFg o))) ∧ w = ws) := by
  refine MM.of (lv := [(0, .int (oI o))]) (by decide +kernel) rfl (Nat.le_of_ble_eq_true rfl) ?_
  intro Z hRf hRl hl hG hn hk ht hA hQ X
  subst hG hl
  have X : XC Z "NestedDeeds$Reader" prog_8_method_6_code (some .boolean) := X
  have hk0 : zk Z ≤ (zR Z).cells := hk ▸ Nat.zero_le _
  have ht0 : zt Z ≤ (zR Z).slots := ht ▸ Nat.zero_le _
  refine V.iload_n X 0 dX6_isFigure_0 rfl rfl ?_
  refine V.bipush X (v := nI 48) dX6_isFigure_1 (by decide) ?_
  refine V.icmp_lt X 16 dX6_isFigure_3 (by decide) (fun c3 => ?_) (fun c3 => ?_)
  · refine V.iconst X (v := nI 0) dX6_isFigure_16 (by decide) ?_
    refine V.topi (y := bI false) rfl ?_
    exact V.zret X rfl hA hk ht hQ rfl (bI_01 _) dX6_isFigure_17 (⟨by rw [fgO_f1 ho c3], rfl⟩)
  · refine V.iload_n X 0 dX6_isFigure_6 rfl rfl ?_
    refine V.bipush X (v := nI 57) dX6_isFigure_7 (by decide) ?_
    refine V.icmp_gt X 16 dX6_isFigure_9 (by decide) (fun c9 => ?_) (fun c9 => ?_)
    · refine V.iconst X (v := nI 0) dX6_isFigure_16 (by decide) ?_
      refine V.topi (y := bI false) rfl ?_
      exact V.zret X rfl hA hk ht hQ rfl (bI_01 _) dX6_isFigure_17 (⟨by rw [fgO_f2 ho c9], rfl⟩)
    · refine V.iconst X (v := nI 1) dX6_isFigure_12 (by decide) ?_
      refine V.goto X 17 dX6_isFigure_13 (by decide) ?_
      refine V.topi (y := bI true) rfl ?_
      exact V.zret X rfl hA hk ht hQ rfl (bI_01 _) dX6_isFigure_17 (⟨by rw [fgO_t ho c3 c9], rfl⟩)

set_option maxHeartbeats 4000000 in
set_option maxRecDepth 100000 in
theorem r_scanKind (l : Launch) (G : Gx) (a : Nat → Nat) (σ : St) (hr : rdOK σ) : MM l G ⟨"NestedDeeds$Reader", "scanKind", "()Z"⟩ prog_8_method_3_code 1 (some .boolean) 1 21 [.ref (a 11)] (cw G a σ) (fun rv w => rv = some (.int (bI (skB σ))) ∧ w = cw G a (skS σ)) := by
  refine MM.of (lv := [(0, .ref (a 11))]) (by decide +kernel) rfl (Nat.le_of_ble_eq_true rfl) ?_
  intro Z hRf hRl hl hG hn hk ht hA hQ X
  subst hG hl
  have X : XC Z "NestedDeeds$Reader" prog_8_method_3_code (some .boolean) := X
  have hk0 : zk Z ≤ (zR Z).cells := hk ▸ Nat.zero_le _
  have ht0 : zt Z ≤ (zR Z).slots := ht ▸ Nat.zero_le _
  obtain ⟨hr1, hr2, hr3⟩ := hr
  refine V.aload_n X 0 dX6_scanKind_0 rfl rfl ?_
  refine V.aload_n X 0 dX6_scanKind_1 rfl rfl ?_
  refine Vg_c_11_paper X tw_146 dX6_scanKind_2 ?_
  refine V.aload_n X 0 dX6_scanKind_5 rfl rfl ?_
  refine Vg_c_11_at (x := gN σ 5) X tw_151 dX6_scanKind_6 rfl ?_
  refine V.callV X rfl (c_atP (zl Z) (zG Z) a σ (gN σ 5) (by omega) hr1 hr2) cv_X6_50 rfl 7 rfl rfl (len hRf (by decide)) (len hRl (by decide)) hk0 ht0 [.ref (a 11)] rfl (Nat.le_of_ble_eq_true rfl) dX6_scanKind_9 ?_
  rintro _ _ ⟨rfl, rfl⟩
  refine V.eqs (st' := [.int (oI (patA σ (gN σ 5))), .ref (a 11)]) rfl ?_
  refine V.bipush X (v := nI 97) dX6_scanKind_12 (by decide) ?_
  refine V.isub X dX6_scanKind_14 ?_
  refine Vp_c_11_kind (x := (oI (patA σ (gN σ 5))) - (nI 97)) X tw_152 dX6_scanKind_15 ?_
  refine V.aload_n X 0 dX6_scanKind_18 rfl rfl ?_
  refine Vg_c_11_kind (x := (oI (patA σ (gN σ 5))) - (nI 97)) X tw_152 dX6_scanKind_19 rfl ?_
  refine V.callN X rfl (k_isKind (zl Z) (zG Z) (cw (zG Z) a (sI σ 0 ((oI (patA σ (gN σ 5))) - (nI 97)))) ((oI (patA σ (gN σ 5))) - (nI 97))) tw_48 tw_417 tw_416 rfl (len hRf (by decide)) (len hRl (by decide)) hk0 ht0 [] rfl (Nat.le_of_ble_eq_true rfl) dX6_scanKind_22 ?_
  rintro _ _ ⟨rfl, rfl⟩
  refine V.eqs (st' := [.int (bI (hasD 12 ((oI (patA σ (gN σ 5))) - (nI 97))))]) rfl ?_
  refine V.if_neB X 30 dX6_scanKind_25 (by decide) (fun c25 => ?_) (fun c25 => ?_)
  · refine V.aload_n X 0 dX6_scanKind_30 rfl rfl ?_
    refine V.dup X dX6_scanKind_31 rfl ?_
    refine Vg_c_11_at (x := gN σ 5) X tw_151 dX6_scanKind_32 rfl ?_
    refine V.iconst X (v := nI 1) dX6_scanKind_35 (by decide) ?_
    refine V.iaddN X dX6_scanKind_36 ?_
    refine Vp_c_11_at (x := (gN σ 5) + 1) X tw_151 dX6_scanKind_37 ?_
    refine V.iconst X (v := nI 1) dX6_scanKind_40 (by decide) ?_
    refine V.topi (y := bI true) rfl ?_
    exact V.zret X rfl hA hk ht hQ rfl (bI_01 _) dX6_scanKind_41 (⟨by rw [show skB σ = true from c25], by rw [skS, if_pos (show skB σ = true from c25)]; rfl⟩)
  · refine V.iconst X (v := nI 0) dX6_scanKind_28 (by decide) ?_
    refine V.topi (y := bI false) rfl ?_
    exact V.zret X rfl hA hk ht hQ rfl (bI_01 _) dX6_scanKind_29 (⟨by rw [show skB σ = false from c25], by rw [skS, if_neg (show ¬ skB σ = true by rw [show skB σ = false from c25]; decide)]; rfl⟩)

theorem fgN_le (σ : St) : ∀ (f i : Nat), i + fgN σ f i ≤ max i (gN σ 2)
  | 0, i => by simp only [fgN]; omega
  | f + 1, i => by
    by_cases h : isFg (patA σ i) = true
    · rw [fgN_step h]
      have := fgN_le σ f (i + 1)
      have := isFg_lt h
      omega
    · rw [fgN, if_neg h]; omega
theorem fgV_le (σ : St) (i : Nat) : ∀ n, fgV σ i n ≤ 1099511627776
  | 0 => by simp [fgV]
  | n + 1 => by simp only [fgV]; omega
theorem minK {x y : Nat} (hx : x < 2 ^ 63) (hy : y < 2 ^ 63) : (if lN y < lN x then lN y else lN x) = lN (min x y) := by
  by_cases h : y < x
  · rw [if_pos ((pk_lLT hy hx).mpr h), Nat.min_eq_right (by omega)]
  · rw [if_neg (fun q => h ((pk_lLT hy hx).mp q)), Nat.min_eq_left (by omega)]

set_option maxHeartbeats 4000000 in
set_option maxRecDepth 100000 in
theorem r_scanFigures (l : Launch) (G : Gx) (a : Nat → Nat) (σ : St) (hr : rdOK σ) (h5 : gN σ 5 ≤ 6000) : MM l G ⟨"NestedDeeds$Reader", "scanFigures", "()J"⟩ prog_8_method_5_code 3 (some .long) 1 23 [.ref (a 11)] (cw G a σ) (fun rv w => rv = some (.long (lN (fgW σ (gN σ 5)))) ∧ w = cw G a (sN σ 5 (fgE σ (gN σ 5)))) := by
  refine MM.of (lv := [(0, .ref (a 11))]) (by decide +kernel) rfl (Nat.le_of_ble_eq_true rfl) ?_
  intro Z hRf hRl hl hG hn hk ht hA hQ X
  subst hG hl
  have X : XC Z "NestedDeeds$Reader" prog_8_method_5_code (some .long) := X
  have hk0 : zk Z ≤ (zR Z).cells := hk ▸ Nat.zero_le _
  have ht0 : zt Z ≤ (zR Z).slots := ht ▸ Nat.zero_le _
  obtain ⟨hr1, hr2, hr3⟩ := hr
  by_cases h48 : patA σ (gN σ 5) = some 48
  · refine V.aload_n X 0 dX6_scanFigures_0 rfl rfl ?_
    refine Vg_c_11_paper X tw_146 dX6_scanFigures_1 ?_
    refine V.aload_n X 0 dX6_scanFigures_4 rfl rfl ?_
    refine Vg_c_11_at (x := gN σ 5) X tw_151 dX6_scanFigures_5 rfl ?_
    refine V.callV X rfl (c_atP (zl Z) (zG Z) a σ (gN σ 5) (by omega) hr1 hr2) cv_X6_50 rfl 7 rfl rfl (len hRf (by decide)) (len hRl (by decide)) hk0 ht0 [] rfl (Nat.le_of_ble_eq_true rfl) dX6_scanFigures_8 ?_
    rintro _ _ ⟨rfl, rfl⟩
    refine V.eqs (st' := [.int (oI (patA σ (gN σ 5)))]) rfl ?_
    refine V.bipush X (v := nI 48) dX6_scanFigures_11 (by decide) ?_
    refine V.icmp_ne X 28 dX6_scanFigures_13 (by decide) (fun c13 => by exfalso; exact c13 ((oI_inj (patA_lt hr2 _) (by decide)).mpr h48)) (fun c13 => ?_)
    refine V.aload_n X 0 dX6_scanFigures_16 rfl rfl ?_
    refine V.dup X dX6_scanFigures_17 rfl ?_
    refine Vg_c_11_at (x := gN σ 5) X tw_151 dX6_scanFigures_18 rfl ?_
    refine V.iconst X (v := nI 1) dX6_scanFigures_21 (by decide) ?_
    refine V.iaddN X dX6_scanFigures_22 ?_
    refine Vp_c_11_at (x := (gN σ 5) + 1) X tw_151 dX6_scanFigures_23 ?_
    refine V.lconst X (v := lN 0) dX6_scanFigures_26 (by decide) ?_
    exact V.lret X rfl hA hk ht hQ rfl dX6_scanFigures_27 (⟨by rw [fgW, if_pos h48], by rw [fgE, if_pos h48]⟩)
  · have hE := fgN_end (σ := σ) 6001 (gN σ 5) (by omega)
    have LP : ∀ (m q : Nat), q + m = fgN σ 6001 (gN σ 5) → V Z (cw (zG Z) a (sN σ 5 (gN σ 5 + q))) [(1, .long (lN (fgV σ (gN σ 5) q))), (0, .ref (a 11))] 30 [] := by
      intro m
      induction m with
      | zero =>
        intro q hq
        have hq2 : q = fgN σ 6001 (gN σ 5) := by omega
        have hle := fgN_le σ 6001 (gN σ 5)
        refine V.aload_n X 1 dX6_scanFigures_30 rfl rfl ?_
        refine Vg_c_11_at (x := gN σ 5 + q) X tw_151 dX6_scanFigures_31 rfl ?_
        refine V.aload_n X 1 dX6_scanFigures_34 rfl rfl ?_
        refine Vg_c_11_paper X tw_146 dX6_scanFigures_35 ?_
        refine Vg_c_7_length (x := gN σ 2) X tw_126 dX6_scanFigures_38 rfl ?_
        refine V.icmp_geN X 103 dX6_scanFigures_41 (by decide) (by omega) (by omega) (fun c41 => ?_) (fun c41 => ?_)
        · refine V.lload_n X 0 dX6_scanFigures_103 rfl rfl ?_
          exact V.lret X rfl hA hk ht hQ rfl dX6_scanFigures_104 (⟨by rw [fgW, if_neg h48, ← hq2], by rw [fgE, if_neg h48, ← hq2]⟩)
        · refine V.aload_n X 1 dX6_scanFigures_44 rfl rfl ?_
          refine Vg_c_11_paper X tw_146 dX6_scanFigures_45 ?_
          refine V.aload_n X 1 dX6_scanFigures_48 rfl rfl ?_
          refine Vg_c_11_at (x := gN σ 5 + q) X tw_151 dX6_scanFigures_49 rfl ?_
          refine V.callV X rfl (c_atP (zl Z) (zG Z) a (sN σ 5 (gN σ 5 + q)) (gN σ 5 + q) (by omega) hr1 hr2) cv_X6_50 rfl 7 rfl rfl (len hRf (by decide)) (len hRl (by decide)) hk0 ht0 [] rfl (Nat.le_of_ble_eq_true rfl) dX6_scanFigures_52 ?_
          rintro _ _ ⟨rfl, rfl⟩
          refine V.eqs (st' := [.int (oI (patA σ (gN σ 5 + q)))]) rfl ?_
          refine V.callS X rfl (k_isFigure (zl Z) (zG Z) (cw (zG Z) a (sN σ 5 (gN σ 5 + q))) (patA σ (gN σ 5 + q)) (patA_b hr2 _)) cs_X6_78 rfl (len hRf (by decide)) (len hRl (by decide)) hk0 ht0 [] rfl (Nat.le_of_ble_eq_true rfl) dX6_scanFigures_55 ?_
          rintro _ _ ⟨rfl, rfl⟩
          refine V.eqs (st' := [.int (bI (isFg (patA σ (gN σ 5 + q))))]) rfl ?_
          refine V.if_eqB X 103 dX6_scanFigures_58 (by decide) (fun c58 => ?_) (fun c58 => by exfalso; rw [hq2] at c58; rw [hE.1] at c58; cases c58)
          refine V.lload_n X 0 dX6_scanFigures_103 rfl rfl ?_
          exact V.lret X rfl hA hk ht hQ rfl dX6_scanFigures_104 (⟨by rw [fgW, if_neg h48, ← hq2], by rw [fgE, if_neg h48, ← hq2]⟩)
      | succ m ih =>
        intro q hq
        have hfq := hE.2 q (by omega)
        have hfl := isFg_lt hfq
        obtain ⟨hv1, hv2, hv3⟩ := isFg_val hfq
        have hvle := fgV_le σ (gN σ 5) q
        refine V.aload_n X 1 dX6_scanFigures_30 rfl rfl ?_
        refine Vg_c_11_at (x := gN σ 5 + q) X tw_151 dX6_scanFigures_31 rfl ?_
        refine V.aload_n X 1 dX6_scanFigures_34 rfl rfl ?_
        refine Vg_c_11_paper X tw_146 dX6_scanFigures_35 ?_
        refine Vg_c_7_length (x := gN σ 2) X tw_126 dX6_scanFigures_38 rfl ?_
        refine V.icmp_geN X 103 dX6_scanFigures_41 (by decide) (by omega) (by omega) (fun c41 => by exfalso; omega) (fun c41 => ?_)
        refine V.aload_n X 1 dX6_scanFigures_44 rfl rfl ?_
        refine Vg_c_11_paper X tw_146 dX6_scanFigures_45 ?_
        refine V.aload_n X 1 dX6_scanFigures_48 rfl rfl ?_
        refine Vg_c_11_at (x := gN σ 5 + q) X tw_151 dX6_scanFigures_49 rfl ?_
        refine V.callV X rfl (c_atP (zl Z) (zG Z) a (sN σ 5 (gN σ 5 + q)) (gN σ 5 + q) (by omega) hr1 hr2) cv_X6_50 rfl 7 rfl rfl (len hRf (by decide)) (len hRl (by decide)) hk0 ht0 [] rfl (Nat.le_of_ble_eq_true rfl) dX6_scanFigures_52 ?_
        rintro _ _ ⟨rfl, rfl⟩
        refine V.eqs (st' := [.int (oI (patA σ (gN σ 5 + q)))]) rfl ?_
        refine V.callS X rfl (k_isFigure (zl Z) (zG Z) (cw (zG Z) a (sN σ 5 (gN σ 5 + q))) (patA σ (gN σ 5 + q)) (patA_b hr2 _)) cs_X6_78 rfl (len hRf (by decide)) (len hRl (by decide)) hk0 ht0 [] rfl (Nat.le_of_ble_eq_true rfl) dX6_scanFigures_55 ?_
        rintro _ _ ⟨rfl, rfl⟩
        refine V.eqs (st' := [.int (bI (isFg (patA σ (gN σ 5 + q))))]) rfl ?_
        refine V.if_eqB X 103 dX6_scanFigures_58 (by decide) (fun c58 => by exfalso; rw [hfq] at c58; cases c58) (fun c58 => ?_)
        refine V.ldc2 X dX6_scanFigures_61 tw_794 ?_
        refine V.topl (y := lN 10) (by decide) ?_
        refine V.lload_n X 0 dX6_scanFigures_64 rfl rfl ?_
        refine V.lmulK X dX6_scanFigures_65 ?_
        refine V.aload_n X 1 dX6_scanFigures_66 rfl rfl ?_
        refine Vg_c_11_paper X tw_146 dX6_scanFigures_67 ?_
        refine V.aload_n X 1 dX6_scanFigures_70 rfl rfl ?_
        refine Vg_c_11_at (x := gN σ 5 + q) X tw_151 dX6_scanFigures_71 rfl ?_
        refine V.callV X rfl (c_atP (zl Z) (zG Z) a (sN σ 5 (gN σ 5 + q)) (gN σ 5 + q) (by omega) hr1 hr2) cv_X6_50 rfl 7 rfl rfl (len hRf (by decide)) (len hRl (by decide)) hk0 ht0 [.long (lN (10 * (fgV σ (gN σ 5) q)))] rfl (Nat.le_of_ble_eq_true rfl) dX6_scanFigures_74 ?_
        rintro _ _ ⟨rfl, rfl⟩
        refine V.eqs (st' := [.int (oI (patA σ (gN σ 5 + q))), .long (lN (10 * (fgV σ (gN σ 5) q)))]) rfl ?_
        refine V.topi (y := nI (gA σ 12 (gN σ 5 + q))) (by rw [hv1]; rfl) ?_
        refine V.i2lN X dX6_scanFigures_77 (by omega) ?_
        refine V.laddK X dX6_scanFigures_78 ?_
        refine V.ldc2 X dX6_scanFigures_79 tw_795 ?_
        refine V.topl (y := lN 48) (by decide) ?_
        refine V.lsubK X dX6_scanFigures_82 (by omega) ?_
        refine V.ldc2 X dX6_scanFigures_83 tw_796 ?_
        refine V.topl (y := lN 1099511627776) (by decide) ?_
        refine V.callS X rfl (k_jminl (zl Z) (zG Z) (cw (zG Z) a (sN σ 5 (gN σ 5 + q))) (lN (((10 * (fgV σ (gN σ 5) q)) + (gA σ 12 (gN σ 5 + q))) - 48)) (lN 1099511627776)) cs_X6_95 rfl (len hRf (by decide)) (len hRl (by decide)) hk0 ht0 [] rfl (Nat.le_of_ble_eq_true rfl) dX6_scanFigures_86 ?_
        rintro _ _ ⟨rfl, rfl⟩
        refine V.eqs (st' := [.long (if (lN 1099511627776) < (lN (((10 * (fgV σ (gN σ 5) q)) + (gA σ 12 (gN σ 5 + q))) - 48)) then (lN 1099511627776) else (lN (((10 * (fgV σ (gN σ 5) q)) + (gA σ 12 (gN σ 5 + q))) - 48)))]) rfl ?_
        refine V.topl (y := lN (fgV σ (gN σ 5) (q + 1))) (by rw [minK (by omega) (by omega)]; simp only [fgV]; congr 2; omega) ?_
        refine V.lstore_n X (lv' := [(1, .long (lN (fgV σ (gN σ 5) (q + 1)))), (0, .ref (a 11))]) dX6_scanFigures_89 rfl (ltn hn (by decide)) rfl ?_
        refine V.aload_n X 1 dX6_scanFigures_90 rfl rfl ?_
        refine V.dup X dX6_scanFigures_91 rfl ?_
        refine Vg_c_11_at (x := gN σ 5 + q) X tw_151 dX6_scanFigures_92 rfl ?_
        refine V.iconst X (v := nI 1) dX6_scanFigures_95 (by decide) ?_
        refine V.iaddN X dX6_scanFigures_96 ?_
        refine Vp_c_11_at (x := (gN σ 5 + q) + 1) X tw_151 dX6_scanFigures_97 ?_
        refine V.goto X 30 dX6_scanFigures_100 (by decide) ?_
        refine V.eqw (ws' := cw (zG Z) a (sN σ 5 (gN σ 5 + (q + 1)))) (by rw [sN_sN]; rfl) ?_
        exact V.sub [0, 1] rfl (ih (q + 1) (by omega))
    refine V.aload_n X 0 dX6_scanFigures_0 rfl rfl ?_
    refine Vg_c_11_paper X tw_146 dX6_scanFigures_1 ?_
    refine V.aload_n X 0 dX6_scanFigures_4 rfl rfl ?_
    refine Vg_c_11_at (x := gN σ 5) X tw_151 dX6_scanFigures_5 rfl ?_
    refine V.callV X rfl (c_atP (zl Z) (zG Z) a σ (gN σ 5) (by omega) hr1 hr2) cv_X6_50 rfl 7 rfl rfl (len hRf (by decide)) (len hRl (by decide)) hk0 ht0 [] rfl (Nat.le_of_ble_eq_true rfl) dX6_scanFigures_8 ?_
    rintro _ _ ⟨rfl, rfl⟩
    refine V.eqs (st' := [.int (oI (patA σ (gN σ 5)))]) rfl ?_
    refine V.bipush X (v := nI 48) dX6_scanFigures_11 (by decide) ?_
    refine V.icmp_ne X 28 dX6_scanFigures_13 (by decide) (fun c13 => ?_) (fun c13 => by exfalso; exact h48 ((oI_inj (patA_lt hr2 _) (by decide)).mp c13))
    refine V.lconst X (v := lN 0) dX6_scanFigures_28 (by decide) ?_
    refine V.lstore_n X (lv' := [(1, .long (lN 0)), (0, .ref (a 11))]) dX6_scanFigures_29 rfl (ltn hn (by decide)) rfl ?_
    refine V.eqw (ws' := cw (zG Z) a (sN σ 5 (gN σ 5 + 0))) (by rw [Nat.add_zero, sN_self]) ?_
    exact V.sub [0, 1] rfl (LP (fgN σ 6001 (gN σ 5)) 0 (by omega))

