def rPut (σ : St) (b : Nat) : St := if gN σ 10 = 6000 then sB σ 0 true else sN (sA σ 8 (va_up (gA σ 8) (gN σ 10) b)) 10 (gN σ 10 + 1)
def addB (b : List Nat × Bool) (L : List Nat) : List Nat × Bool := ((b.1 ++ L).take 6000, b.2 || decide (6000 < b.1.length + L.length))
theorem addB_app (b : List Nat × Bool) (L M : List Nat) : addB (addB b L) M = addB b (L ++ M) := by
  refine Prod.ext ?_ ?_
  · show ((b.1 ++ L).take 6000 ++ M).take 6000 = (b.1 ++ (L ++ M)).take 6000
    rw [← List.append_assoc, List.take_append, List.take_append (l₁ := b.1 ++ L), List.take_take, Nat.min_self]
    congr 1
    by_cases q : (b.1 ++ L).length ≤ 6000
    · rw [List.take_of_length_le q]
    · rw [show 6000 - ((b.1 ++ L).take 6000).length = 0 by rw [List.length_take]; omega, show 6000 - (b.1 ++ L).length = 0 by omega]
  · show (b.2 || decide (6000 < b.1.length + L.length) || decide (6000 < ((b.1 ++ L).take 6000).length + M.length)) = (b.2 || decide (6000 < b.1.length + (L ++ M).length))
    rw [Bool.or_assoc]
    congr 1
    rw [List.length_take, List.length_append, List.length_append]
    by_cases q : 6000 < b.1.length + L.length
    · rw [decide_eq_true q, decide_eq_true (show 6000 < b.1.length + (L.length + M.length) by omega)]; rfl
    · rw [decide_eq_false q, Bool.false_or, Nat.min_eq_right (by omega), Nat.add_assoc]
/-- the sheet holds these bytes -/
def SHT (b : List Nat × Bool) (τ : St) : Prop := gN τ 10 = b.1.length ∧ b.1.length ≤ 6000 ∧ (∀ i, i < b.1.length → gA τ 8 i = b.1.getD i 0) ∧ gB τ 0 = b.2 ∧ (b.2 = true → b.1.length = 6000)
def xS (τ σ : St) : Prop := (∀ k, ¬ k = 10 → gN τ k = gN σ k) ∧ (∀ k, ¬ k = 8 → gA τ k = gA σ k) ∧ gI τ = gI σ ∧ gJ τ = gJ σ ∧ gL τ = gL σ ∧ gP τ = gP σ
theorem xS.rf (σ : St) : xS σ σ := ⟨fun _ _ => rfl, fun _ _ => rfl, rfl, rfl, rfl, rfl⟩
theorem xS.tr {a b c : St} (h : xS a b) (g : xS b c) : xS a c := ⟨fun k hk => (h.1 k hk).trans (g.1 k hk), fun k hk => (h.2.1 k hk).trans (g.2.1 k hk), h.2.2.1.trans g.2.2.1, h.2.2.2.1.trans g.2.2.2.1, h.2.2.2.2.1.trans g.2.2.2.2.1, h.2.2.2.2.2.trans g.2.2.2.2.2⟩
theorem xS_put (σ : St) (b : Nat) : xS (rPut σ b) σ := by
  rw [rPut]; split
  · exact ⟨fun _ _ => rfl, fun _ _ => rfl, rfl, rfl, rfl, rfl⟩
  · exact ⟨fun k hk => va_up_ne _ _ hk, fun k hk => va_up_ne _ _ hk, rfl, rfl, rfl, rfl⟩
theorem SHT.put {b : List Nat × Bool} {τ : St} (h : SHT b τ) (x : Nat) : SHT (addB b [x]) (rPut τ x) := by
  obtain ⟨h1, h2, h3, h4, h5⟩ := h
  rw [rPut]
  by_cases q : gN τ 10 = 6000
  · rw [if_pos q]
    have e : addB b [x] = (b.1, true) := by
      refine Prod.ext ?_ ?_
      · show (b.1 ++ [x]).take 6000 = b.1
        rw [List.take_append_of_le_length (by omega), List.take_of_length_le (by omega)]
      · show (b.2 || decide (6000 < b.1.length + 1)) = true
        rw [decide_eq_true (by omega), Bool.or_true]
    rw [e]
    exact ⟨h1, h2, h3, rfl, fun _ => by show b.1.length = 6000; omega⟩
  · rw [if_neg q]
    have hb : b.2 = false := by
      cases hz : b.2
      · rfl
      · have := h5 hz; omega
    have e : addB b [x] = (b.1 ++ [x], false) := by
      refine Prod.ext ?_ ?_
      · show (b.1 ++ [x]).take 6000 = b.1 ++ [x]
        exact List.take_of_length_le (by simp; omega)
      · show (b.2 || decide (6000 < b.1.length + 1)) = false
        rw [hb, decide_eq_false (by omega)]; rfl
    rw [e]
    refine ⟨?_, by simp; omega, fun i hi => ?_, h4.trans hb, fun z => by cases z⟩
    · show gN τ 10 + 1 = _; rw [h1]; simp
    · have hi : i < (b.1 ++ [x]).length := hi
      rw [List.length_append, List.length_singleton] at hi
      show (if i = gN τ 10 then x else gA τ 8 i) = (b.1 ++ [x]).getD i 0
      simp only [List.getD_eq_getElem?_getD]
      by_cases z : i < b.1.length
      · rw [if_neg (by omega), List.getElem?_append_left z, h3 i z, List.getD_eq_getElem?_getD]
      · rw [if_pos (by omega), show i = b.1.length by omega, List.getElem?_append_right (Nat.le_refl _)]; simp
theorem neg64 (v : Int32) : v.toInt64 < lN 0 ↔ v < 0 := by
  rw [Int64.lt_iff_toInt_lt, Int32.lt_iff_toInt_lt, Int32.toInt_toInt64, show (lN 0).toInt = 0 from pk_lT (by decide), Int32.toInt_zero]
theorem abs64n {v : Int32} (h : v.toInt64 < lN 0) : -v.toInt64 = lN (absN v) := by
  rw [← absL v, if_pos (by have := h; rwa [show lN 0 = (0 : Int64) by decide] at this)]
theorem abs64p {v : Int32} (h : ¬ v.toInt64 < lN 0) : v.toInt64 = lN (absN v) := by
  rw [← absL v, if_neg (by intro z; apply h; rwa [show lN 0 = (0 : Int64) by decide])]
theorem digs_mod (v c : Nat) : digsC (c + 1) (v % 10 ^ (c + 1)) = (48 + v / 10 ^ c % 10) :: digsC c (v % 10 ^ c) := by
  simp only [digsC]
  have h1 : v % 10 ^ (c + 1) / 10 ^ c = v / 10 ^ c % 10 := by rw [Nat.pow_succ, Nat.mod_mul_right_div_self]
  have h2 : v % 10 ^ (c + 1) % 10 ^ c = v % 10 ^ c := Nat.mod_mod_of_dvd v ⟨10, by rw [Nat.pow_succ]⟩
  rw [h1, h2]

set_option maxHeartbeats 4000000 in
set_option maxRecDepth 100000 in
theorem r_put (l : Launch) (G : Gx) (a : Nat → Nat) (σ : St) (b : Nat) (h10 : gN σ 10 ≤ 6000) : MM l G ⟨"NestedDeedsModel", "put", "(I)V"⟩ prog_14_method_34_code 2 none 0 0 [.ref (a 0), .int (nI b)] (rw G a σ) (fun rv w => rv = none ∧ w = rw G a (rPut σ b)) := by
  refine MM.of (lv := [(0, .ref (a 0)), (1, .int (nI b))]) (by decide +kernel) rfl (Nat.le_of_ble_eq_true rfl) ?_
  intro Z hRf hRl hl hG hn hk ht hA hQ X
  subst hG hl
  have X : XC Z "NestedDeedsModel" prog_14_method_34_code none := X
  have hk0 : zk Z ≤ (zR Z).cells := hk ▸ Nat.zero_le _
  have ht0 : zt Z ≤ (zR Z).slots := ht ▸ Nat.zero_le _
  refine V.aload_n X 0 dX12_put_0 rfl rfl ?_
  refine Vg_r_0_sheetSize (x := gN σ 10) X tw_855 dX12_put_1 rfl ?_
  refine V.sipush X (v := nI 6000) dX12_put_4 (by decide) ?_
  refine V.icmp_neN X 16 dX12_put_7 (by decide) (by omega) (by decide) (fun c7 => ?_) (fun c7 => ?_)
  · refine V.aload_n X 0 dX12_put_16 rfl rfl ?_
    refine Vg_r_0_sheet X tw_854 dX12_put_17 ?_
    refine V.aload_n X 0 dX12_put_20 rfl rfl ?_
    refine Vg_r_0_sheetSize (x := gN σ 10) X tw_855 dX12_put_21 rfl ?_
    refine V.iload_n X 1 dX12_put_24 rfl rfl ?_
    refine Vs_r_sheet (f := gA σ 8) (i := gN σ 10) (x := b) X (by omega) dX12_put_25 rfl ?_
    refine V.aload_n X 0 dX12_put_26 rfl rfl ?_
    refine V.dup X dX12_put_27 rfl ?_
    refine Vg_r_0_sheetSize (x := gN σ 10) X tw_855 dX12_put_28 rfl ?_
    refine V.iconst X (v := nI 1) dX12_put_31 (by decide) ?_
    refine V.iaddN X dX12_put_32 ?_
    refine Vp_r_0_sheetSize (x := (gN σ 10) + 1) X tw_855 dX12_put_33 ?_
    exact V.vret X rfl hA hk ht hQ rfl dX12_put_36 (⟨rfl, by rw [rPut, if_neg (by omega)]⟩)
  · refine V.aload_n X 0 dX12_put_10 rfl rfl ?_
    refine V.iconst X (v := nI 1) dX12_put_11 (by decide) ?_
    refine V.topi (y := bI true) rfl ?_
    refine Vp_r_0_isOver (x := true) X tw_856 dX12_put_12 ?_
    exact V.vret X rfl hA hk ht hQ rfl dX12_put_15 (⟨rfl, by rw [rPut, if_pos (by omega)]⟩)

theorem rr_put (l : Launch) (G : Gx) (a : Nat → Nat) {b : List Nat × Bool} {σ : St} (x : Nat) (h : SHT b σ) : MM l G ⟨"NestedDeedsModel", "put", "(I)V"⟩ prog_14_method_34_code 2 none 0 0 [.ref (a 0), .int (nI x)] (rw G a σ) (fun rv w => rv = none ∧ ∃ τ, w = rw G a τ ∧ SHT (addB b [x]) τ ∧ xS τ σ) :=
  (r_put l G a σ x (by rw [h.1]; exact h.2.1)).mono (fun rv w hp => ⟨hp.1, _, hp.2, h.put x, xS_put _ _⟩)

set_option maxHeartbeats 4000000 in
set_option maxRecDepth 100000 in
theorem r_putDeed (l : Launch) (G : Gx) (a : Nat → Nat) (σ : St) {b : List Nat × Bool} (d k : Nat) (v : Int32) (hd : d < 1500) (hk1 : gA σ 0 d = k) (hkk : k < 12) (hv1 : gJ σ 0 d = v) (hs : SHT b σ) : MM l G ⟨"NestedDeedsModel", "putDeed", "(I)V"⟩ prog_14_method_35_code 8 none 1 21 [.ref (a 0), .int (nI d)] (rw G a σ) (fun rv w => rv = none ∧ ∃ τ2, w = rw G a τ2 ∧ SHT (addB b ((97 + k) :: numB v)) τ2 ∧ xS τ2 σ) := by
  refine MM.of (lv := [(0, .ref (a 0)), (1, .int (nI d))]) (by decide +kernel) rfl (Nat.le_of_ble_eq_true rfl) ?_
  intro Z hRf hRl hl hG hn hk ht hA hQ X
  subst hG hl
  have X : XC Z "NestedDeedsModel" prog_14_method_35_code none := X
  have hk0 : zk Z ≤ (zR Z).cells := hk ▸ Nat.zero_le _
  have ht0 : zt Z ≤ (zR Z).slots := ht ▸ Nat.zero_le _
  have hkd : gA σ 0 d < 12 := by rw [hk1]; exact hkk
  have hm := absN_le v
  have LP2 : ∀ (c : Nat) (τ : St) (B : List Nat × Bool), c ≤ 10 → SHT B τ → xS τ σ → addB B (digsC c (absN v % 10 ^ c)) = addB b ((97 + k) :: numB v) → V Z (rw (zG Z) a τ) [(6, .long (lN (pw c))), (2, .long (lN (absN v))), (0, .ref (a 0))] 65 [] := by
    intro c
    induction c with
    | zero =>
      intro τ B b1 b2 b3 b4
      have eB : addB B [] = B := by refine Prod.ext ?_ ?_; (show (B.1 ++ []).take 6000 = B.1; rw [List.append_nil, List.take_of_length_le b2.2.1]); (show (B.2 || decide (6000 < B.1.length + 0)) = B.2; rw [decide_eq_false (by have := b2.2.1; omega), Bool.or_false])
      have b4 : B = addB b ((97 + k) :: numB v) := by rw [← b4]; exact eB.symm
      refine V.lload X 0 dX12_putDeed_65 rfl ?_
      refine V.lconst X (v := lN 0) dX12_putDeed_67 (by decide) ?_
      refine V.lif_leK X 99 dX12_putDeed_68 dX12_putDeed_69 (by decide) (by first | (simp only [pw]; omega) | omega) (by first | (simp only [pw]; omega) | omega) (fun c68 => ?_) (fun c68 => by exfalso; simp only [pw] at *; omega)
      exact V.vret X rfl hA hk ht hQ rfl dX12_putDeed_99 (⟨rfl, τ, rfl, by rw [← b4]; exact b2, b3⟩)
    | succ c ih =>
      intro τ B b1 b2 b3 b4
      have hp := Nat.pow_pos (n := c) (show 0 < 10 by decide)
      have hpl : 10 ^ c ≤ 10 ^ 9 := Nat.pow_le_pow_right (by decide) (by omega)
      have hdl := Nat.div_le_self (absN v) (10 ^ c)
      have hdd := Nat.mod_lt (absN v / 10 ^ c) (show 0 < 10 by decide)
      have e10 : (10 : Nat) ^ 9 = 1000000000 := by decide
      rw [digs_mod, show ∀ (x : Nat) (l : List Nat), x :: l = [x] ++ l from fun _ _ => rfl, ← addB_app] at b4
      refine V.eql (lv' := [(6, .long (lN (10 ^ c))), (2, .long (lN (absN v))), (0, .ref (a 0))]) rfl ?_
      refine V.lload X 0 dX12_putDeed_65 rfl ?_
      refine V.lconst X (v := lN 0) dX12_putDeed_67 (by decide) ?_
      refine V.lif_leK X 99 dX12_putDeed_68 dX12_putDeed_69 (by decide) (by omega) (by omega) (fun c68 => by exfalso; omega) (fun c68 => ?_)
      refine V.aload_n X 2 dX12_putDeed_72 rfl rfl ?_
      refine V.bipush X (v := nI 48) dX12_putDeed_73 (by decide) ?_
      refine V.lload_n X 1 dX12_putDeed_75 rfl rfl ?_
      refine V.lload X 0 dX12_putDeed_76 rfl ?_
      refine V.ldivK X dX12_putDeed_78 (by omega) (by omega) (by omega) ?_
      refine V.ldc2 X dX12_putDeed_79 tw_1095 ?_
      refine V.topl (y := lN 10) (by decide) ?_
      refine V.lremK X dX12_putDeed_82 (by omega) (by omega) (by omega) ?_
      refine V.l2i X (v := nI (((absN v) / (10 ^ c)) % 10)) dX12_putDeed_83 (lN_i _) ?_
      refine V.iaddN X dX12_putDeed_84 ?_
      refine V.callV X rfl (rr_put (zl Z) (zG Z) a (48 + absN v / 10 ^ c % 10) b2) cv_X12_202 rfl 0 rfl rfl (len hRf (by decide)) (len hRl (by decide)) hk0 ht0 [] rfl (Nat.le_of_ble_eq_true rfl) dX12_putDeed_85 ?_
      rintro _ _ ⟨rfl, τ2, rfl, d1, d2⟩
      refine V.eqs (st' := []) rfl ?_
      refine V.lload X 0 dX12_putDeed_88 rfl ?_
      refine V.ldc2 X dX12_putDeed_90 tw_1095 ?_
      refine V.topl (y := lN 10) (by decide) ?_
      refine V.ldivK X dX12_putDeed_93 (by omega) (by omega) (by omega) ?_
      refine V.lstore X (lv' := [(6, .long (lN ((10 ^ c) / 10))), (2, .long (lN (absN v))), (0, .ref (a 0))]) dX12_putDeed_94 (ltn hn (by decide)) rfl ?_
      refine V.goto X 65 dX12_putDeed_96 (by decide) ?_
      refine V.eql (lv' := [(6, .long (lN (pw c))), (2, .long (lN (absN v))), (0, .ref (a 0))]) (by rw [pw_div]) ?_
      exact V.sub [0, 1, 2] rfl (ih τ2 _ (by omega) d1 (d2.tr b3) b4)
  have LP1 : ∀ (n e : Nat) (τ : St) (B : List Nat × Bool), e ≤ 9 → 10 ≤ e + n → (e = 0 ∨ 10 ^ e ≤ absN v) → SHT B τ → xS τ σ → addB B (digsC (ndg (absN v) + 1) (absN v)) = addB b ((97 + k) :: numB v) → V Z (rw (zG Z) a τ) [(4, .long (lN (10 ^ e))), (2, .long (lN (absN v))), (0, .ref (a 0))] 39 [] := by
    intro n
    induction n with
    | zero => intro e τ B b0 b00; omega
    | succ n ih =>
      intro e τ B b0 b00 b5 b2 b3 b4
      have hp := Nat.pow_pos (n := e) (show 0 < 10 by decide)
      have hpl : 10 ^ e ≤ 10 ^ 9 := Nat.pow_le_pow_right (by decide) b0
      have hdl := Nat.div_le_self (absN v) (10 ^ e)
      have e10 : (10 : Nat) ^ 9 = 1000000000 := by decide
      refine V.lload_n X 1 dX12_putDeed_39 rfl rfl ?_
      refine V.lload X 0 dX12_putDeed_40 rfl ?_
      refine V.ldivK X dX12_putDeed_42 (by omega) (by omega) (by omega) ?_
      refine V.ldc2 X dX12_putDeed_43 tw_1094 ?_
      refine V.topl (y := lN 9) (by decide) ?_
      refine V.lif_leK X 61 dX12_putDeed_46 dX12_putDeed_47 (by decide) (by omega) (by omega) (fun c46 => ?_) (fun c46 => ?_)
      · refine V.lload X 0 dX12_putDeed_61 rfl ?_
        refine V.lstore X (lv' := [(6, .long (lN (10 ^ e))), (4, .long (lN (10 ^ e))), (2, .long (lN (absN v))), (0, .ref (a 0))]) dX12_putDeed_63 (ltn hn (by decide)) rfl ?_
        have hnd : ndg (absN v) = e := ndg_eq b0 b5 (by first | (left; omega) | (right; rw [Nat.pow_succ, Nat.mul_comm]; exact (Nat.div_lt_iff_lt_mul hp).mp (by omega)))
        have hlt : absN v < 10 ^ (e + 1) := by rw [← hnd]; exact ndg_lt (by omega)
        refine V.eql (lv' := [(6, .long (lN (pw (e + 1)))), (4, .long (lN (10 ^ e))), (2, .long (lN (absN v))), (0, .ref (a 0))]) rfl ?_
        exact V.sub [0, 2, 3] rfl (LP2 (e + 1) τ B (by omega) b2 b3 (by rw [Nat.mod_eq_of_lt hlt]; rw [hnd] at b4; exact b4))
      · refine V.lload X 0 dX12_putDeed_50 rfl ?_
        refine V.ldc2 X dX12_putDeed_52 tw_1095 ?_
        refine V.topl (y := lN 10) (by decide) ?_
        refine V.lmulK X dX12_putDeed_55 ?_
        refine V.lstore X (lv' := [(4, .long (lN ((10 ^ e) * 10))), (2, .long (lN (absN v))), (0, .ref (a 0))]) dX12_putDeed_56 (ltn hn (by decide)) rfl ?_
        refine V.goto X 39 dX12_putDeed_58 (by decide) ?_
        have h10e : 10 * 10 ^ e ≤ absN v := by have := (Nat.le_div_iff_mul_le hp).mp (show 10 ≤ absN v / 10 ^ e by omega); omega
        refine V.eql (lv' := [(4, .long (lN (10 ^ (e + 1)))), (2, .long (lN (absN v))), (0, .ref (a 0))]) (by rw [Nat.pow_succ]) ?_
        refine V.sub [0, 1, 2] rfl (ih (e + 1) τ B ?_ (by omega) (Or.inr (by rw [Nat.pow_succ, Nat.mul_comm]; exact h10e)) b2 b3 b4)
        by_cases h9 : e = 9
        · subst h9; omega
        · omega
  refine V.aload_n X 0 dX12_putDeed_0 rfl rfl ?_
  refine V.bipush X (v := nI 97) dX12_putDeed_1 (by decide) ?_
  refine V.aload_n X 0 dX12_putDeed_3 rfl rfl ?_
  refine Vg_r_0_kind X tw_829 dX12_putDeed_4 ?_
  refine V.iload_n X 1 dX12_putDeed_7 rfl rfl ?_
  refine Va_r_kind (x := gA σ 0 d) X (by omega) dX12_putDeed_8 rfl ?_
  refine V.topi (y := nI k) (by rw [hk1]) ?_
  refine V.iaddN X dX12_putDeed_9 ?_
  refine V.callV X rfl (rr_put (zl Z) (zG Z) a (97 + k) hs) cv_X12_202 rfl 0 rfl rfl (len hRf (by decide)) (len hRl (by decide)) hk0 ht0 [] rfl (Nat.le_of_ble_eq_true rfl) dX12_putDeed_10 ?_
  rintro _ _ ⟨rfl, τ1, rfl, d1, d2⟩
  refine V.eqs (st' := []) rfl ?_
  refine V.aload_n X 0 dX12_putDeed_13 rfl rfl ?_
  refine Vg_r_0_number X tw_830 dX12_putDeed_14 ?_
  refine V.iload_n X 1 dX12_putDeed_17 rfl rfl ?_
  refine Va_r_number (x := gJ (τ1) 0 d) X (by omega) dX12_putDeed_18 rfl ?_
  refine V.topi (y := v) (by rw [d2.2.2.2.1]; exact hv1) ?_
  refine V.i2l X dX12_putDeed_19 rfl ?_
  refine V.lstore_n X (lv' := [(2, .long (Int32.toInt64 v)), (0, .ref (a 0)), (1, .int (nI d))]) dX12_putDeed_20 rfl (ltn hn (by decide)) rfl ?_
  refine V.lload_n X 0 dX12_putDeed_21 rfl rfl ?_
  refine V.lconst X (v := lN 0) dX12_putDeed_22 (by decide) ?_
  refine V.lif_ge X 36 dX12_putDeed_23 dX12_putDeed_24 (by decide) (fun c23 => ?_) (fun c23 => ?_)
  · refine V.eql (lv' := [(2, .long (lN (absN v))), (0, .ref (a 0)), (1, .int (nI d))]) (by rw [← abs64p (Int64.not_lt.mpr c23)]) ?_
    refine V.lconst X (v := lN 1) dX12_putDeed_36 (by decide) ?_
    refine V.lstore X (lv' := [(4, .long (lN 1)), (2, .long (lN (absN v))), (0, .ref (a 0)), (1, .int (nI d))]) dX12_putDeed_37 (ltn hn (by decide)) rfl ?_
    refine V.eql (lv' := [(4, .long (lN (10 ^ 0))), (2, .long (lN (absN v))), (0, .ref (a 0)), (1, .int (nI d))]) rfl ?_
    exact V.sub [0, 1, 2] rfl (LP1 10 0 τ1 _ (by omega) (by omega) (Or.inl rfl) d1 d2 (by rw [addB_app]; congr 1; rw [numB, if_neg (fun z => Int64.not_lt.mpr c23 ((neg64 v).mpr z))]; rfl))
  · refine V.aload_n X 1 dX12_putDeed_27 rfl rfl ?_
    refine V.bipush X (v := nI 45) dX12_putDeed_28 (by decide) ?_
    refine V.callV X rfl (rr_put (zl Z) (zG Z) a (45) d1) cv_X12_202 rfl 0 rfl rfl (len hRf (by decide)) (len hRl (by decide)) hk0 ht0 [] rfl (Nat.le_of_ble_eq_true rfl) dX12_putDeed_30 ?_
    rintro _ _ ⟨rfl, τ3, rfl, f1, f2⟩
    refine V.eqs (st' := []) rfl ?_
    refine V.lload_n X 0 dX12_putDeed_33 rfl rfl ?_
    refine V.lneg X dX12_putDeed_34 ?_
    refine V.lstore_n X (lv' := [(2, .long (-(Int32.toInt64 v))), (0, .ref (a 0)), (1, .int (nI d))]) dX12_putDeed_35 rfl (ltn hn (by decide)) rfl ?_
    refine V.eql (lv' := [(2, .long (lN (absN v))), (0, .ref (a 0)), (1, .int (nI d))]) (by rw [abs64n (Int64.not_le.mp c23)]) ?_
    refine V.lconst X (v := lN 1) dX12_putDeed_36 (by decide) ?_
    refine V.lstore X (lv' := [(4, .long (lN 1)), (2, .long (lN (absN v))), (0, .ref (a 0)), (1, .int (nI d))]) dX12_putDeed_37 (ltn hn (by decide)) rfl ?_
    refine V.eql (lv' := [(4, .long (lN (10 ^ 0))), (2, .long (lN (absN v))), (0, .ref (a 0)), (1, .int (nI d))]) rfl ?_
    exact V.sub [0, 1, 2] rfl (LP1 10 0 τ3 _ (by omega) (by omega) (Or.inl rfl) f1 (f2.tr d2) (by rw [addB_app, addB_app]; congr 1; rw [numB, if_pos ((neg64 v).mp (Int64.not_le.mp c23))]; rfl))

