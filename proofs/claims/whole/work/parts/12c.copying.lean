/-- where x's place is, going down from h to lo by marks -/
def hlF (mk : Nat → Int64) (f : Nat → Nat) (lo : Nat) (x : Int64) : Nat → Nat
  | 0 => 0
  | h + 1 => if lo < h + 1 ∧ x < mk (f h) then hlF mk f lo x h else h + 1
/-- the places above h, up to i, moved by one -/
def shF (f : Nat → Nat) (h i : Nat) : Nat → Nat := fun j => if h < j ∧ j ≤ i then f (j - 1) else f j
def insA (mk : Nat → Int64) (f : Nat → Nat) (lo i : Nat) : Nat → Nat := va_up (shF f (hlF mk f lo (mk (f i)) i) i) (hlF mk f lo (mk (f i)) i) (f i)
def srtA (mk : Nat → Int64) (f : Nat → Nat) (lo : Nat) : Nat → (Nat → Nat)
  | 0 => f
  | n + 1 => insA mk (srtA mk f lo n) lo (lo + n)
theorem shF_self (f : Nat → Nat) (i : Nat) : shF f i i = f := by
  funext j; simp only [shF]; rw [if_neg (by omega)]
theorem shF_up (f : Nat → Nat) {h i : Nat} (hh : h < i) : va_up (shF f (h + 1) i) (h + 1) (shF f (h + 1) i h) = shF f h i := by
  funext j; simp only [shF, va_up]
  by_cases e : j = h + 1
  · subst e; rw [if_pos rfl, if_neg (by omega), if_pos (by omega)]; rfl
  · rw [if_neg e]
    by_cases q : h + 1 < j ∧ j ≤ i
    · rw [if_pos q, if_pos (by omega)]
    · rw [if_neg q, if_neg (by omega)]
theorem shF_lo (f : Nat → Nat) {h i j : Nat} (hj : j ≤ h) : shF f h i j = f j := by simp only [shF]; rw [if_neg (by omega)]
theorem hlF_le (mk : Nat → Int64) (f : Nat → Nat) (lo : Nat) (x : Int64) : ∀ h, hlF mk f lo x h ≤ h
  | 0 => Nat.le_refl 0
  | h + 1 => by
    simp only [hlF]; split
    · exact Nat.le_succ_of_le (hlF_le mk f lo x h)
    · exact Nat.le_refl _
theorem hlF_ge (mk : Nat → Int64) (f : Nat → Nat) (lo : Nat) (x : Int64) : ∀ h, lo ≤ h → lo ≤ hlF mk f lo x h
  | 0, hl => by simp only [hlF]; exact hl
  | h + 1, hl => by
    simp only [hlF]; split
    · exact hlF_ge mk f lo x h (by omega)
    · exact hl
/-- what a sort of the places lo .. lo + n keeps: each of them holds one that was there -/
theorem insA_in (mk : Nat → Int64) (f : Nat → Nat) (lo i : Nat) (P : Nat → Prop) (hi : lo ≤ i) (h : ∀ j, lo ≤ j → j ≤ i → P (f j)) : ∀ j, lo ≤ j → j ≤ i → P (insA mk f lo i j) := by
  intro j h1 h2
  simp only [insA, va_up, shF]
  have := hlF_ge mk f lo (mk (f i)) i hi
  split
  · exact h i hi (Nat.le_refl i)
  · split
    · exact h (j - 1) (by omega) (by omega)
    · exact h j h1 h2
theorem insA_out (mk : Nat → Int64) (f : Nat → Nat) (lo i j : Nat) (hi : lo ≤ i) (hj : j < lo ∨ i < j) : insA mk f lo i j = f j := by
  have h1 := hlF_ge mk f lo (mk (f i)) i hi
  have h2 := hlF_le mk f lo (mk (f i)) i
  simp only [insA, va_up, shF]
  rw [if_neg (by omega), if_neg (by omega)]
theorem srtA_out (mk : Nat → Int64) (f : Nat → Nat) (lo : Nat) : ∀ (n j : Nat), (j < lo ∨ lo + n ≤ j) → srtA mk f lo n j = f j
  | 0, _, _ => rfl
  | n + 1, j, hj => by simp only [srtA]; rw [insA_out _ _ _ _ _ (by omega) (by omega)]; exact srtA_out mk f lo n j (by omega)
theorem srtA_in (mk : Nat → Int64) (f : Nat → Nat) (lo : Nat) (P : Nat → Prop) : ∀ (n : Nat), (∀ j, lo ≤ j → j < lo + n → P (f j)) → ∀ j, lo ≤ j → j < lo + n → P (srtA mk f lo n j)
  | 0, _, j, h1, h2 => by omega
  | n + 1, h, j, h1, h2 => by
    simp only [srtA]
    refine insA_in mk _ lo (lo + n) P (by omega) ?_ j h1 (by omega)
    intro q q1 q2
    by_cases e : q < lo + n
    · exact srtA_in mk f lo P n (fun j a b => h j a (by omega)) q q1 e
    · rw [srtA_out _ _ _ _ _ (by omega)]; exact h q q1 (by omega)

theorem srtA_1 (mk : Nat → Int64) (f : Nat → Nat) (lo : Nat) : srtA mk f lo 1 = f := by
  simp only [srtA, insA, Nat.add_zero]
  have h : hlF mk f lo (mk (f lo)) lo = lo := Nat.le_antisymm (hlF_le _ _ _ _ _) (hlF_ge _ _ _ _ _ (Nat.le_refl lo))
  rw [h, shF_self]
  funext j; simp only [va_up]; split
  · rename_i e; rw [e]
  · rfl

set_option maxHeartbeats 4000000 in
set_option maxRecDepth 100000 in
theorem t28_sortParts (l : Launch) (G : Gx) (a : Nat → Nat) (σ : St) (lo hi : Nat) (hhi : hi ≤ 4000) (hlh : lo ≤ hi) (hs : ∀ j, lo ≤ j → j < hi → gA σ 11 j < 1500) : MM l G ⟨"NestedDeeds$Copying", "sortParts", "(II)V"⟩ prog_3_method_6_code 6 none 0 0 [.ref (a 28), .int (nI lo), .int (nI hi)] (cw G a σ) (fun rv w => rv = none ∧ w = cw G a (sA σ 11 (srtA (gL σ 2) (gA σ 11) lo (hi - lo)))) := by
  refine MM.of (lv := [(0, .ref (a 28)), (1, .int (nI lo)), (2, .int (nI hi))]) (by decide +kernel) rfl (Nat.le_of_ble_eq_true rfl) ?_
  intro Z hRf hRl hl hG hn hk ht hA hQ X
  subst hG hl
  have X : XC Z "NestedDeeds$Copying" prog_3_method_6_code none := X
  have hk0 : zk Z ≤ (zR Z).cells := hk ▸ Nat.zero_le _
  have ht0 : zt Z ≤ (zR Z).slots := ht ▸ Nat.zero_le _
  have LP : ∀ (m n : Nat), lo + n + m = hi → 1 ≤ n → V Z (cw (zG Z) a (sA σ 11 (srtA (gL σ 2) (gA σ 11) lo n))) [(3, .int (nI (lo + (n)))), (0, .ref (a 28)), (1, .int (nI lo)), (2, .int (nI hi))] 4 [] := by
    intro m
    induction m with
    | zero =>
      intro n hn1 hn2
      refine V.iload_n X 0 dX1_sortParts_4 rfl rfl ?_
      refine V.iload_n X 3 dX1_sortParts_5 rfl rfl ?_
      refine V.icmp_geN X 88 dX1_sortParts_6 (by decide) (by omega) (by omega) (fun c6 => ?_) (fun c6 => by exfalso; omega)
      exact V.vret X rfl hA hk ht hQ rfl dX1_sortParts_88 (⟨rfl, by rw [show hi - lo = n by omega]⟩)
    | succ m ih =>
      intro n hn1 hn2
      have hin := srtA_in (gL σ 2) (gA σ 11) lo (fun q => q < 1500) n (fun j h1 h2 => hs j h1 (by omega))
      have hat : srtA (gL σ 2) (gA σ 11) lo n (lo + n) < 1500 := by rw [srtA_out _ _ _ _ _ (by omega)]; exact hs _ (by omega) (by omega)
      have LI : ∀ (h : Nat), lo ≤ h → h ≤ lo + n → hlF (gL σ 2) (srtA (gL σ 2) (gA σ 11) lo n) lo (gL σ 2 (srtA (gL σ 2) (gA σ 11) lo n (lo + n))) h = hlF (gL σ 2) (srtA (gL σ 2) (gA σ 11) lo n) lo (gL σ 2 (srtA (gL σ 2) (gA σ 11) lo n (lo + n))) (lo + n) → V Z (cw (zG Z) a (sA σ 11 (shF (srtA (gL σ 2) (gA σ 11) lo n) h (lo + n)))) [(5, .int (nI h)), (4, .int (nI (srtA (gL σ 2) (gA σ 11) lo n (lo + n)))), (3, .int (nI (lo + n))), (0, .ref (a 28)), (1, .int (nI lo)), (2, .int (nI hi))] 20 [] := by
        intro h
        induction h with
        | zero =>
          intro h1 h2 h3
          refine V.iload X 0 dX1_sortParts_20 rfl ?_
          refine V.iload_n X 4 dX1_sortParts_22 rfl rfl ?_
          refine V.icmp_leN X 73 dX1_sortParts_23 (by decide) (by decide) (by omega) (fun c23 => ?_) (fun c23 => by exfalso; omega)
          refine V.aload_n X 3 dX1_sortParts_73 rfl rfl ?_
          refine Vg_c_28_sorted X tw_289 dX1_sortParts_74 ?_
          refine V.iload X 0 dX1_sortParts_77 rfl ?_
          refine V.iload X 1 dX1_sortParts_79 rfl ?_
          refine Vs_c_sorted (f := shF (srtA (gL σ 2) (gA σ 11) lo n) 0 (lo + n)) (i := 0) (x := srtA (gL σ 2) (gA σ 11) lo n (lo + n)) X (by omega) dX1_sortParts_81 rfl ?_
          refine V.iinc X (v := nI ((lo + n) + 1)) (lv' := [(3, .int (nI ((lo + n) + 1))), (5, .int (nI 0)), (4, .int (nI (srtA (gL σ 2) (gA σ 11) lo n (lo + n)))), (0, .ref (a 28)), (1, .int (nI lo)), (2, .int (nI hi))]) (k0 := 2) dX1_sortParts_82 rfl (inc_1 _) (ltn hn (by decide)) rfl ?_
          refine V.goto X 4 dX1_sortParts_85 (by decide) ?_
          refine V.eqw (ws' := cw (zG Z) a (sA σ 11 (srtA (gL σ 2) (gA σ 11) lo (n + 1)))) (by rw [sA_sA]; simp only [srtA, insA]; rw [← h3]; rfl) ?_
          exact V.sub [0, 3, 4, 5] rfl (ih (n + 1) (by omega) (by omega))
        | succ h ihh =>
          intro h1 h2 h3
          have hsh : shF (srtA (gL σ 2) (gA σ 11) lo n) (h + 1) (lo + n) h = srtA (gL σ 2) (gA σ 11) lo n h := shF_lo _ (by omega)
          by_cases hlo : lo < h + 1
          · have hb : srtA (gL σ 2) (gA σ 11) lo n h < 1500 := hin h (by omega) (by omega)
            refine V.iload X 0 dX1_sortParts_20 rfl ?_
            refine V.iload_n X 4 dX1_sortParts_22 rfl rfl ?_
            refine V.icmp_leN X 73 dX1_sortParts_23 (by decide) (by omega) (by omega) (fun c23 => by exfalso; omega) (fun c23 => ?_)
            refine V.aload_n X 3 dX1_sortParts_26 rfl rfl ?_
            refine Vg_c_28_mark X tw_288 dX1_sortParts_27 ?_
            refine V.aload_n X 3 dX1_sortParts_30 rfl rfl ?_
            refine Vg_c_28_sorted X tw_289 dX1_sortParts_31 ?_
            refine V.iload X 0 dX1_sortParts_34 rfl ?_
            refine V.iconst X (v := nI 1) dX1_sortParts_36 (by decide) ?_
            refine V.isubN X dX1_sortParts_37 (by omega) ?_
            refine Va_c_sorted (x := (shF (srtA (gL σ 2) (gA σ 11) lo n) (h + 1) (lo + n)) ((h + 1) - 1)) X (by omega) dX1_sortParts_38 rfl ?_
            refine V.topi (y := nI (srtA (gL σ 2) (gA σ 11) lo n h)) (by rw [Nat.add_sub_cancel, hsh]) ?_
            refine Va_c_mark (x := gL σ 2 (srtA (gL σ 2) (gA σ 11) lo n h)) X (by omega) dX1_sortParts_39 rfl ?_
            refine V.aload_n X 3 dX1_sortParts_40 rfl rfl ?_
            refine Vg_c_28_mark X tw_288 dX1_sortParts_41 ?_
            refine V.iload X 1 dX1_sortParts_44 rfl ?_
            refine Va_c_mark (x := gL σ 2 (srtA (gL σ 2) (gA σ 11) lo n (lo + n))) X (by omega) dX1_sortParts_46 rfl ?_
            refine V.lif_le X 73 dX1_sortParts_47 dX1_sortParts_48 (by decide) (fun c47 => ?_) (fun c47 => ?_)
            · refine V.aload_n X 3 dX1_sortParts_73 rfl rfl ?_
              refine Vg_c_28_sorted X tw_289 dX1_sortParts_74 ?_
              refine V.iload X 0 dX1_sortParts_77 rfl ?_
              refine V.iload X 1 dX1_sortParts_79 rfl ?_
              refine Vs_c_sorted (f := shF (srtA (gL σ 2) (gA σ 11) lo n) (h + 1) (lo + n)) (i := h + 1) (x := srtA (gL σ 2) (gA σ 11) lo n (lo + n)) X (by omega) dX1_sortParts_81 rfl ?_
              refine V.iinc X (v := nI ((lo + n) + 1)) (lv' := [(3, .int (nI ((lo + n) + 1))), (5, .int (nI (h + 1))), (4, .int (nI (srtA (gL σ 2) (gA σ 11) lo n (lo + n)))), (0, .ref (a 28)), (1, .int (nI lo)), (2, .int (nI hi))]) (k0 := 2) dX1_sortParts_82 rfl (inc_1 _) (ltn hn (by decide)) rfl ?_
              refine V.goto X 4 dX1_sortParts_85 (by decide) ?_
              refine V.eqw (ws' := cw (zG Z) a (sA σ 11 (srtA (gL σ 2) (gA σ 11) lo (n + 1)))) (by rw [sA_sA]; simp only [srtA, insA]; rw [← h3]; simp only [hlF]; rw [if_neg (fun q => absurd q.2 (Int64.not_lt.mpr c47))]) ?_
              exact V.sub [0, 3, 4, 5] rfl (ih (n + 1) (by omega) (by omega))
            · refine V.aload_n X 3 dX1_sortParts_51 rfl rfl ?_
              refine Vg_c_28_sorted X tw_289 dX1_sortParts_52 ?_
              refine V.iload X 0 dX1_sortParts_55 rfl ?_
              refine V.aload_n X 3 dX1_sortParts_57 rfl rfl ?_
              refine Vg_c_28_sorted X tw_289 dX1_sortParts_58 ?_
              refine V.iload X 0 dX1_sortParts_61 rfl ?_
              refine V.iconst X (v := nI 1) dX1_sortParts_63 (by decide) ?_
              refine V.isubN X dX1_sortParts_64 (by omega) ?_
              refine Va_c_sorted (x := (shF (srtA (gL σ 2) (gA σ 11) lo n) (h + 1) (lo + n)) ((h + 1) - 1)) X (by omega) dX1_sortParts_65 rfl ?_
              refine Vs_c_sorted (f := shF (srtA (gL σ 2) (gA σ 11) lo n) (h + 1) (lo + n)) (i := h + 1) (x := (shF (srtA (gL σ 2) (gA σ 11) lo n) (h + 1) (lo + n)) ((h + 1) - 1)) X (by omega) dX1_sortParts_66 rfl ?_
              refine V.iinc X (v := nI ((h + 1) - 1)) (lv' := [(5, .int (nI ((h + 1) - 1))), (4, .int (nI (srtA (gL σ 2) (gA σ 11) lo n (lo + n)))), (3, .int (nI (lo + n))), (0, .ref (a 28)), (1, .int (nI lo)), (2, .int (nI hi))]) (k0 := 0) dX1_sortParts_67 rfl (dec_1 (by omega)) (ltn hn (by decide)) rfl ?_
              refine V.goto X 20 dX1_sortParts_70 (by decide) ?_
              refine V.eqw (ws' := cw (zG Z) a (sA σ 11 (shF (srtA (gL σ 2) (gA σ 11) lo n) h (lo + n)))) (by rw [sA_sA, Nat.add_sub_cancel, shF_up _ (by omega)]) ?_
              refine V.eql (lv' := [(5, .int (nI h)), (4, .int (nI (srtA (gL σ 2) (gA σ 11) lo n (lo + n)))), (3, .int (nI (lo + n))), (0, .ref (a 28)), (1, .int (nI lo)), (2, .int (nI hi))]) (by rw [Nat.add_sub_cancel]) ?_
              exact V.sub [0, 1, 2, 3, 4, 5] rfl (ihh (by omega) (by omega) (by rw [← h3]; simp only [hlF]; rw [if_pos ⟨hlo, Int64.not_le.mp c47⟩]))
          · have hlo2 : h + 1 = lo := by omega
            refine V.iload X 0 dX1_sortParts_20 rfl ?_
            refine V.iload_n X 4 dX1_sortParts_22 rfl rfl ?_
            refine V.icmp_leN X 73 dX1_sortParts_23 (by decide) (by omega) (by omega) (fun c23 => ?_) (fun c23 => by exfalso; omega)
            refine V.aload_n X 3 dX1_sortParts_73 rfl rfl ?_
            refine Vg_c_28_sorted X tw_289 dX1_sortParts_74 ?_
            refine V.iload X 0 dX1_sortParts_77 rfl ?_
            refine V.iload X 1 dX1_sortParts_79 rfl ?_
            refine Vs_c_sorted (f := shF (srtA (gL σ 2) (gA σ 11) lo n) (h + 1) (lo + n)) (i := h + 1) (x := srtA (gL σ 2) (gA σ 11) lo n (lo + n)) X (by omega) dX1_sortParts_81 rfl ?_
            refine V.iinc X (v := nI ((lo + n) + 1)) (lv' := [(3, .int (nI ((lo + n) + 1))), (5, .int (nI (h + 1))), (4, .int (nI (srtA (gL σ 2) (gA σ 11) lo n (lo + n)))), (0, .ref (a 28)), (1, .int (nI lo)), (2, .int (nI hi))]) (k0 := 2) dX1_sortParts_82 rfl (inc_1 _) (ltn hn (by decide)) rfl ?_
            refine V.goto X 4 dX1_sortParts_85 (by decide) ?_
            refine V.eqw (ws' := cw (zG Z) a (sA σ 11 (srtA (gL σ 2) (gA σ 11) lo (n + 1)))) (by rw [sA_sA]; simp only [srtA, insA]; rw [← h3]; simp only [hlF]; rw [if_neg (fun q => hlo q.1)]) ?_
            exact V.sub [0, 3, 4, 5] rfl (ih (n + 1) (by omega) (by omega))
      refine V.iload_n X 0 dX1_sortParts_4 rfl rfl ?_
      refine V.iload_n X 3 dX1_sortParts_5 rfl rfl ?_
      refine V.icmp_geN X 88 dX1_sortParts_6 (by decide) (by omega) (by omega) (fun c6 => by exfalso; omega) (fun c6 => ?_)
      refine V.aload_n X 1 dX1_sortParts_9 rfl rfl ?_
      refine Vg_c_28_sorted X tw_289 dX1_sortParts_10 ?_
      refine V.iload_n X 0 dX1_sortParts_13 rfl rfl ?_
      refine Va_c_sorted (x := (srtA (gL σ 2) (gA σ 11) lo n) (lo + (n))) X (by omega) dX1_sortParts_14 rfl ?_
      refine V.istore X (lv' := [(4, .int (nI ((srtA (gL σ 2) (gA σ 11) lo n) (lo + (n))))), (3, .int (nI (lo + (n)))), (0, .ref (a 28)), (1, .int (nI lo)), (2, .int (nI hi))]) dX1_sortParts_15 (ltn hn (by decide)) rfl ?_
      refine V.iload_n X 1 dX1_sortParts_17 rfl rfl ?_
      refine V.istore X (lv' := [(5, .int (nI (lo + (n)))), (4, .int (nI ((srtA (gL σ 2) (gA σ 11) lo n) (lo + (n))))), (3, .int (nI (lo + (n)))), (0, .ref (a 28)), (1, .int (nI lo)), (2, .int (nI hi))]) dX1_sortParts_18 (ltn hn (by decide)) rfl ?_
      refine V.eqw (ws' := cw (zG Z) a (sA σ 11 (shF (srtA (gL σ 2) (gA σ 11) lo n) (lo + n) (lo + n)))) (by rw [shF_self]) ?_
      exact V.sub [0, 1, 2, 3, 4, 5] rfl (LI (lo + n) (by omega) (by omega) rfl)
  by_cases he : lo < hi
  · refine V.iload_n X 1 dX1_sortParts_0 rfl rfl ?_
    refine V.iconst X (v := nI 1) dX1_sortParts_1 (by decide) ?_
    refine V.iaddN X dX1_sortParts_2 ?_
    refine V.istore_n X (lv' := [(3, .int (nI (lo + 1))), (0, .ref (a 28)), (1, .int (nI lo)), (2, .int (nI hi))]) dX1_sortParts_3 rfl (ltn hn (by decide)) rfl ?_
    refine V.eqw (ws' := cw (zG Z) a (sA σ 11 (srtA (gL σ 2) (gA σ 11) lo 1))) (by rw [show srtA (gL σ 2) (gA σ 11) lo 1 = gA σ 11 from srtA_1 _ _ _, sA_self]) ?_
    exact V.sub [0, 1, 2, 3] rfl (LP (hi - lo - 1) 1 (by omega) (by omega))
  · refine V.iload_n X 1 dX1_sortParts_0 rfl rfl ?_
    refine V.iconst X (v := nI 1) dX1_sortParts_1 (by decide) ?_
    refine V.iaddN X dX1_sortParts_2 ?_
    refine V.istore_n X (lv' := [(3, .int (nI (lo + 1))), (0, .ref (a 28)), (1, .int (nI lo)), (2, .int (nI hi))]) dX1_sortParts_3 rfl (ltn hn (by decide)) rfl ?_
    refine V.iload_n X 0 dX1_sortParts_4 rfl rfl ?_
    refine V.iload_n X 3 dX1_sortParts_5 rfl rfl ?_
    refine V.icmp_geN X 88 dX1_sortParts_6 (by decide) (by omega) (by omega) (fun c6 => ?_) (fun c6 => by exfalso; omega)
    exact V.vret X rfl hA hk ht hQ rfl dX1_sortParts_88 (⟨rfl, by rw [show hi - lo = 0 by omega, srtA, sA_self]⟩)

set_option maxHeartbeats 4000000 in
set_option maxRecDepth 100000 in
theorem t28_beginCounting (l : Launch) (G : Gx) (a : Nat → Nat) (σ : St) (m : Int32) : MM l G ⟨"NestedDeeds$Copying", "beginCounting", "(I)V"⟩ prog_3_method_2_code 2 none 0 0 [.ref (a 28), .int m] (cw G a σ) (fun rv w => rv = none ∧ w = cw G a (sN (sB (sB (sI σ 6 m) 3 false) 4 false) 15 0)) := by
  refine MM.of (lv := [(0, .ref (a 28)), (1, .int m)]) (by decide +kernel) rfl (Nat.le_of_ble_eq_true rfl) ?_
  intro Z hRf hRl hl hG hn hk ht hA hQ X
  subst hG hl
  have X : XC Z "NestedDeeds$Copying" prog_3_method_2_code none := X
  have hk0 : zk Z ≤ (zR Z).cells := hk ▸ Nat.zero_le _
  have ht0 : zt Z ≤ (zR Z).slots := ht ▸ Nat.zero_le _
  refine V.aload_n X 0 dX1_beginCounting_0 rfl rfl ?_
  refine V.iload_n X 1 dX1_beginCounting_1 rfl rfl ?_
  refine Vp_c_28_most (x := m) X tw_290 dX1_beginCounting_2 ?_
  refine V.aload_n X 0 dX1_beginCounting_5 rfl rfl ?_
  refine V.iconst X (v := nI 0) dX1_beginCounting_6 (by decide) ?_
  refine V.topi (y := bI false) rfl ?_
  refine Vp_c_28_making (x := false) X tw_291 dX1_beginCounting_7 ?_
  refine V.aload_n X 0 dX1_beginCounting_10 rfl rfl ?_
  refine V.iconst X (v := nI 0) dX1_beginCounting_11 (by decide) ?_
  refine V.topi (y := bI false) rfl ?_
  refine Vp_c_28_sorting (x := false) X tw_292 dX1_beginCounting_12 ?_
  refine V.aload_n X 0 dX1_beginCounting_15 rfl rfl ?_
  refine V.iconst X (v := nI 0) dX1_beginCounting_16 (by decide) ?_
  refine Vp_c_28_kept (x := 0) X tw_293 dX1_beginCounting_17 ?_
  exact V.vret X rfl hA hk ht hQ rfl dX1_beginCounting_20 (⟨rfl, rfl⟩)

def tC28 (σ : St) (d t : Nat) : Option Nat := if gB σ 4 = true then some (gA σ 11 (gA σ 1 d + t)) else prt σ d t
def tT28 (σ : St) (k : Nat) : St := sA σ 10 (va_up (gA σ 10) k (gA σ 10 k + if gZ σ 0 (k + 1) = true then 1 else 0))
def lfo (σ : St) (d : Nat) : Bool := decide (gA σ 0 d = 0 ∧ gI σ 6 < gJ σ 0 d)
def kpt (σ : St) (k d : Nat) : Bool := decide (k = 1) || (gZ σ 0 (k - 1) && !lfo σ d)
def tE28 (σ : St) (k d : Nat) : St := sA (sN (sA (sZ σ 0 (va_up (gZ σ 0) k (kpt σ k d))) 10 (va_up (gA σ 10) k 0)) 15 (gN σ 15 + if kpt σ k d = true then 1 else 0)) 11 (if gB σ 4 = true then srtA (gL σ 2) (gA σ 11) (gA σ 1 d) (npt σ d) else gA σ 11)
def tL28 (σ : St) (k d : Nat) : St := if gB σ 3 = true ∧ gZ σ 0 k = true then dBind σ (gA σ 0 d) (gJ σ 0 d) (gA σ 10 k) else σ
theorem va_same {α : Type} (f : Nat → α) (k : Nat) : va_up f k (f k) = f := by
  funext j; simp only [va_up]; split
  · rename_i e; rw [e]
  · rfl
set_option maxHeartbeats 4000000 in
set_option maxRecDepth 100000 in
theorem t28_choose (l : Launch) (G : Gx) (a : Nat → Nat) (σ : St) (k d t : Nat) (hkk : k < 1501) (hd : OKd σ d) (htn : t < npt σ d) : MM l G ⟨"NestedDeeds$Copying", "choose", "(III)I"⟩ prog_3_method_7_code 4 (some .int) 1 22 [.ref (a 28), .int (nI k), .int (nI d), .int (nI t)] (cw G a σ) (fun rv w => rv = some (.int (oI (tC28 σ d t))) ∧ w = cw G a σ) := by
  refine MM.of (lv := [(0, .ref (a 28)), (1, .int (nI k)), (2, .int (nI d)), (3, .int (nI t))]) (by decide +kernel) rfl (Nat.le_of_ble_eq_true rfl) ?_
  intro Z hRf hRl hl hG hn hk ht hA hQ X
  subst hG hl
  have X : XC Z "NestedDeeds$Copying" prog_3_method_7_code (some .int) := X
  have hk0 : zk Z ≤ (zR Z).cells := hk ▸ Nat.zero_le _
  have ht0 : zt Z ≤ (zR Z).slots := ht ▸ Nat.zero_le _
  obtain ⟨hd1, hd2, hd3, hd4⟩ := hd
  have hnp : t < gA σ 1 (d + 1) - gA σ 1 d := htn
  refine V.aload_n X 0 dX1_choose_0 rfl rfl ?_
  refine Vg_c_28_sorting (x := gB σ 4) X tw_292 dX1_choose_1 rfl ?_
  refine V.if_eqB X 26 dX1_choose_4 (by decide) (fun c4 => ?_) (fun c4 => ?_)
  · refine V.aload_n X 0 dX1_choose_26 rfl rfl ?_
    refine Vg_c_28_deeds X (Or.inr tw_196) tw_195 dX1_choose_27 ?_
    refine V.iload_n X 2 dX1_choose_30 rfl rfl ?_
    refine V.iload_n X 3 dX1_choose_31 rfl rfl ?_
    refine V.callV X rfl (c_partAt (zl Z) (zG Z) a σ d t (by omega) (by omega) (by first | omega | exact hd2) (by first | omega | exact hd3)) cv_X1_90 rfl 1 rfl rfl (len hRf (by decide)) (len hRl (by decide)) hk0 ht0 [] rfl (Nat.le_of_ble_eq_true rfl) dX1_choose_32 ?_
    rintro _ _ ⟨rfl, rfl⟩
    refine V.eqs (st' := [.int (oI (if t < (gA σ 1) (d + 1) - (gA σ 1) d then some ((gA σ 2) ((gA σ 1) d + t)) else none))]) rfl ?_
    exact V.iret X rfl hA hk ht hQ rfl dX1_choose_35 (⟨by rw [tC28, if_neg (show ¬ gB σ 4 = true by rw [c4]; decide)]; rfl, rfl⟩)
  · refine V.aload_n X 0 dX1_choose_7 rfl rfl ?_
    refine Vg_c_28_sorted X tw_289 dX1_choose_8 ?_
    refine V.aload_n X 0 dX1_choose_11 rfl rfl ?_
    refine Vg_c_28_deeds X (Or.inr tw_196) tw_195 dX1_choose_12 ?_
    refine Vg_c_1_start X tw_95 dX1_choose_15 ?_
    refine V.iload_n X 2 dX1_choose_18 rfl rfl ?_
    refine Va_c_start (x := gA σ 1 d) X (by omega) dX1_choose_19 rfl ?_
    refine V.iload_n X 3 dX1_choose_20 rfl rfl ?_
    refine V.iaddN X dX1_choose_21 ?_
    refine Va_c_sorted (x := gA σ 11 ((gA σ 1 d) + t)) X (by omega) dX1_choose_22 rfl ?_
    refine V.goto X 35 dX1_choose_23 (by decide) ?_
    exact V.iret X rfl hA hk ht hQ rfl dX1_choose_35 (⟨by rw [tC28, if_pos c4]; rfl, rfl⟩)

set_option maxHeartbeats 4000000 in
set_option maxRecDepth 100000 in
theorem t28_takeUp (l : Launch) (G : Gx) (a : Nat → Nat) (σ : St) (k d t : Nat) (hkk : k < 1501) (hd : OKd σ d) (htn : t < npt σ d) : MM l G ⟨"NestedDeeds$Copying", "takeUp", "(III)V"⟩ prog_3_method_8_code 4 none 0 0 [.ref (a 28), .int (nI k), .int (nI d), .int (nI t)] (cw G a σ) (fun rv w => rv = none ∧ w = cw G a (tT28 σ k)) := by
  refine MM.of (lv := [(0, .ref (a 28)), (1, .int (nI k)), (2, .int (nI d)), (3, .int (nI t))]) (by decide +kernel) rfl (Nat.le_of_ble_eq_true rfl) ?_
  intro Z hRf hRl hl hG hn hk ht hA hQ X
  subst hG hl
  have X : XC Z "NestedDeeds$Copying" prog_3_method_8_code none := X
  have hk0 : zk Z ≤ (zR Z).cells := hk ▸ Nat.zero_le _
  have ht0 : zt Z ≤ (zR Z).slots := ht ▸ Nat.zero_le _
  obtain ⟨hd1, hd2, hd3, hd4⟩ := hd
  have hnp : t < gA σ 1 (d + 1) - gA σ 1 d := htn
  refine V.aload_n X 0 dX1_takeUp_0 rfl rfl ?_
  refine Vg_c_28_keptAt X tw_286 dX1_takeUp_1 ?_
  refine V.iload_n X 1 dX1_takeUp_4 rfl rfl ?_
  refine V.iconst X (v := nI 1) dX1_takeUp_5 (by decide) ?_
  refine V.iaddN X dX1_takeUp_6 ?_
  refine Va_c_keptAt (x := gZ σ 0 (k + 1)) X (by omega) dX1_takeUp_7 rfl ?_
  refine V.if_eqB X 21 dX1_takeUp_8 (by decide) (fun c8 => ?_) (fun c8 => ?_)
  · exact V.vret X rfl hA hk ht hQ rfl dX1_takeUp_21 (⟨rfl, by rw [tT28, if_neg (show ¬ gZ σ 0 (k + 1) = true by rw [c8]; decide), Nat.add_zero]; exact congrArg (cw (zG Z) a) (show sA σ 10 (va_up (gA σ 10) k (gA σ 10 k)) = σ by rw [va_same, sA_self]).symm⟩)
  · refine V.aload_n X 0 dX1_takeUp_11 rfl rfl ?_
    refine Vg_c_28_keptPartsAt X tw_287 dX1_takeUp_12 ?_
    refine V.iload_n X 1 dX1_takeUp_15 rfl rfl ?_
    refine V.dup2 X dX1_takeUp_16 rfl rfl ?_
    refine Va_c_keptPartsAt (x := gA σ 10 k) X (by omega) dX1_takeUp_17 rfl ?_
    refine V.iconst X (v := nI 1) dX1_takeUp_18 (by decide) ?_
    refine V.iaddN X dX1_takeUp_19 ?_
    refine Vs_c_keptPartsAt (f := gA σ 10) (i := k) (x := (gA σ 10 k) + 1) X (by omega) dX1_takeUp_20 rfl ?_
    exact V.vret X rfl hA hk ht hQ rfl dX1_takeUp_21 (⟨rfl, by rw [tT28, if_pos c8]⟩)

set_option maxHeartbeats 4000000 in
set_option maxRecDepth 100000 in
theorem t28_leave (l : Launch) (G : Gx) (a : Nat → Nat) (σ : St) (k d : Nat) (hkk : k < 1501) (hd : OKd σ d) (hb1 : gB σ 3 = true → gZ σ 0 k = true → gN σ 1 < 1500 ∧ gA σ 10 k ≤ gN σ 0 ∧ gN σ 0 ≤ 1500 ∧ gN σ 0 - gA σ 10 k < 1500 ∧ gA σ 1 (gN σ 1) + gA σ 10 k ≤ 4000) : MM l G ⟨"NestedDeeds$Copying", "leave", "(II)V"⟩ prog_3_method_9_code 3 none 2 85 [.ref (a 28), .int (nI k), .int (nI d)] (cw G a σ) (fun rv w => rv = none ∧ w = cw G a (tL28 σ k d)) := by
  refine MM.of (lv := [(0, .ref (a 28)), (1, .int (nI k)), (2, .int (nI d))]) (by decide +kernel) rfl (Nat.le_of_ble_eq_true rfl) ?_
  intro Z hRf hRl hl hG hn hk ht hA hQ X
  subst hG hl
  have X : XC Z "NestedDeeds$Copying" prog_3_method_9_code none := X
  have hk0 : zk Z ≤ (zR Z).cells := hk ▸ Nat.zero_le _
  have ht0 : zt Z ≤ (zR Z).slots := ht ▸ Nat.zero_le _
  obtain ⟨hd1, hd2, hd3, hd4⟩ := hd
  refine V.aload_n X 0 dX1_leave_0 rfl rfl ?_
  refine Vg_c_28_making (x := gB σ 3) X tw_291 dX1_leave_1 rfl ?_
  refine V.if_eqB X 47 dX1_leave_4 (by decide) (fun c4 => ?_) (fun c4 => ?_)
  · exact V.vret X rfl hA hk ht hQ rfl dX1_leave_47 (⟨rfl, by rw [tL28, if_neg (show ¬ (gB σ 3 = true ∧ gZ σ 0 k = true) from fun q => by rw [c4] at q; exact absurd q.1 (by decide))]⟩)
  · refine V.aload_n X 0 dX1_leave_7 rfl rfl ?_
    refine Vg_c_28_keptAt X tw_286 dX1_leave_8 ?_
    refine V.iload_n X 1 dX1_leave_11 rfl rfl ?_
    refine Va_c_keptAt (x := gZ σ 0 k) X (by omega) dX1_leave_12 rfl ?_
    refine V.if_eqB X 47 dX1_leave_13 (by decide) (fun c13 => ?_) (fun c13 => ?_)
    · exact V.vret X rfl hA hk ht hQ rfl dX1_leave_47 (⟨rfl, by rw [tL28, if_neg (show ¬ (gB σ 3 = true ∧ gZ σ 0 k = true) from fun q => by rw [c13] at q; exact absurd q.2 (by decide))]⟩)
    · refine V.aload_n X 0 dX1_leave_16 rfl rfl ?_
      refine Vg_c_28_deeds X (Or.inr tw_196) tw_195 dX1_leave_17 ?_
      refine V.aload_n X 0 dX1_leave_20 rfl rfl ?_
      refine Vg_c_28_deeds X (Or.inr tw_196) tw_195 dX1_leave_21 ?_
      refine Vg_c_1_kind X tw_83 dX1_leave_24 ?_
      refine V.iload_n X 2 dX1_leave_27 rfl rfl ?_
      refine Va_c_kind (x := gA σ 0 d) X (by omega) dX1_leave_28 rfl ?_
      refine V.aload_n X 0 dX1_leave_29 rfl rfl ?_
      refine Vg_c_28_deeds X (Or.inr tw_196) tw_195 dX1_leave_30 ?_
      refine Vg_c_1_number X tw_91 dX1_leave_33 ?_
      refine V.iload_n X 2 dX1_leave_36 rfl rfl ?_
      refine Va_c_number (x := gJ σ 0 d) X (by omega) dX1_leave_37 rfl ?_
      refine V.aload_n X 0 dX1_leave_38 rfl rfl ?_
      refine Vg_c_28_keptPartsAt X tw_287 dX1_leave_39 ?_
      refine V.iload_n X 1 dX1_leave_42 rfl rfl ?_
      refine Va_c_keptPartsAt (x := gA σ 10 k) X (by omega) dX1_leave_43 rfl ?_
      refine V.callV X rfl (c_bind (zl Z) (zG Z) a σ (gA σ 0 d) (gJ σ 0 d) (gA σ 10 k) (by exact (hb1 c4 c13).1) (by exact (hb1 c4 c13).2.1) (by exact (hb1 c4 c13).2.2.1) (by exact (hb1 c4 c13).2.2.2.1) (by exact (hb1 c4 c13).2.2.2.2)) cv_X1_94 rfl 1 rfl rfl (len hRf (by decide)) (len hRl (by decide)) hk0 ht0 [] rfl (Nat.le_of_ble_eq_true rfl) dX1_leave_44 ?_
      rintro _ _ ⟨rfl, rfl⟩
      refine V.eqs (st' := []) rfl ?_
      exact V.vret X rfl hA hk ht hQ rfl dX1_leave_47 (⟨rfl, by rw [tL28, if_pos ⟨c4, c13⟩]⟩)

set_option maxHeartbeats 4000000 in
set_option maxRecDepth 100000 in
theorem t28_enter (l : Launch) (G : Gx) (a : Nat → Nat) (σ : St) (k d : Nat) (hkk : k < 1501) (hd : OKd σ d) (hk1 : 1 ≤ k) (hs : gB σ 4 = true → ∀ j, gA σ 1 d ≤ j → j < gA σ 1 (d + 1) → gA σ 11 j < 1500) : MM l G ⟨"NestedDeeds$Copying", "enter", "(II)V"⟩ prog_3_method_5_code 4 none 1 25 [.ref (a 28), .int (nI k), .int (nI d)] (cw G a σ) (fun rv w => rv = none ∧ w = cw G a (tE28 σ k d)) := by
  refine MM.of (lv := [(0, .ref (a 28)), (1, .int (nI k)), (2, .int (nI d))]) (by decide +kernel) rfl (Nat.le_of_ble_eq_true rfl) ?_
  intro Z hRf hRl hl hG hn hk ht hA hQ X
  subst hG hl
  have X : XC Z "NestedDeeds$Copying" prog_3_method_5_code none := X
  have hk0 : zk Z ≤ (zR Z).cells := hk ▸ Nat.zero_le _
  have ht0 : zt Z ≤ (zR Z).slots := ht ▸ Nat.zero_le _
  obtain ⟨hd1, hd2, hd3, hd4⟩ := hd
  have J64 : V Z (cw (zG Z) a σ) [(3, .int (bI (lfo σ d))), (0, .ref (a 28)), (1, .int (nI k)), (2, .int (nI d))] 64 [.int (bI (kpt σ k d)), .int (nI k), .ref (a 29)] := by
    refine Vs_c_keptAt (f := gZ σ 0) (i := k) (x := kpt σ k d) X (by omega) dX1_enter_64 rfl ?_
    refine V.aload_n X 1 dX1_enter_65 rfl rfl ?_
    refine Vg_c_28_keptPartsAt X tw_287 dX1_enter_66 ?_
    refine V.iload_n X 2 dX1_enter_69 rfl rfl ?_
    refine V.iconst X (v := nI 0) dX1_enter_70 (by decide) ?_
    refine Vs_c_keptPartsAt (f := gA σ 10) (i := k) (x := 0) X (by omega) dX1_enter_71 rfl ?_
    refine V.aload_n X 1 dX1_enter_72 rfl rfl ?_
    refine Vg_c_28_keptAt X tw_286 dX1_enter_73 ?_
    refine V.iload_n X 2 dX1_enter_76 rfl rfl ?_
    refine Va_c_keptAt (x := (va_up (gZ σ 0) k (kpt σ k d)) k) X (by omega) dX1_enter_77 rfl ?_
    refine V.if_eqB X 91 dX1_enter_78 (by decide) (fun c78 => ?_) (fun c78 => ?_)
    · refine V.aload_n X 1 dX1_enter_91 rfl rfl ?_
      refine Vg_c_28_sorting (x := gB σ 4) X tw_292 dX1_enter_92 rfl ?_
      refine V.if_eqB X 122 dX1_enter_95 (by decide) (fun c95 => ?_) (fun c95 => ?_)
      · exact V.vret X rfl hA hk ht hQ rfl dX1_enter_122 (⟨rfl, by rw [tE28, if_neg (show ¬ kpt σ k d = true from (by rw [va_up_self] at c78; rw [c78]; decide)), if_neg (show ¬ gB σ 4 = true by rw [c95]; decide)]; exact congrArg (cw (zG Z) a) ((sA_self _ 11).symm.trans (congrArg (fun q => sA q 11 _) (sN_self (sA (sZ σ 0 (va_up (gZ σ 0) k (kpt σ k d))) 10 (va_up (gA σ 10) k 0)) 15).symm))⟩)
      · refine V.aload_n X 1 dX1_enter_98 rfl rfl ?_
        refine V.aload_n X 1 dX1_enter_99 rfl rfl ?_
        refine Vg_c_28_deeds X (Or.inr tw_196) tw_195 dX1_enter_100 ?_
        refine Vg_c_1_start X tw_95 dX1_enter_103 ?_
        refine V.iload_n X 3 dX1_enter_106 rfl rfl ?_
        refine Va_c_start (x := gA σ 1 d) X (by omega) dX1_enter_107 rfl ?_
        refine V.aload_n X 1 dX1_enter_108 rfl rfl ?_
        refine Vg_c_28_deeds X (Or.inr tw_196) tw_195 dX1_enter_109 ?_
        refine Vg_c_1_start X tw_95 dX1_enter_112 ?_
        refine V.iload_n X 3 dX1_enter_115 rfl rfl ?_
        refine V.iconst X (v := nI 1) dX1_enter_116 (by decide) ?_
        refine V.iaddN X dX1_enter_117 ?_
        refine Va_c_start (x := gA σ 1 (d + 1)) X (by omega) dX1_enter_118 rfl ?_
        refine V.callV X rfl (t28_sortParts (zl Z) (zG Z) a (sA (sZ σ 0 (va_up (gZ σ 0) k (kpt σ k d))) 10 (va_up (gA σ 10) k 0)) (gA σ 1 d) (gA σ 1 (d + 1)) (by omega) (by omega) (hs c95)) cv_X1_86 rfl 28 rfl rfl (len hRf (by decide)) (len hRl (by decide)) hk0 ht0 [] rfl (Nat.le_of_ble_eq_true rfl) dX1_enter_119 ?_
        rintro _ _ ⟨rfl, rfl⟩
        refine V.eqs (st' := []) rfl ?_
        exact V.vret X rfl hA hk ht hQ rfl dX1_enter_122 (⟨rfl, by rw [tE28, if_neg (show ¬ kpt σ k d = true from (by rw [va_up_self] at c78; rw [c78]; decide)), if_pos c95]; exact congrArg (cw (zG Z) a) (congrArg (fun q => sA q 11 _) (sN_self (sA (sZ σ 0 (va_up (gZ σ 0) k (kpt σ k d))) 10 (va_up (gA σ 10) k 0)) 15).symm)⟩)
    · refine V.aload_n X 1 dX1_enter_81 rfl rfl ?_
      refine V.dup X dX1_enter_82 rfl ?_
      refine Vg_c_28_kept (x := gN σ 15) X tw_293 dX1_enter_83 rfl ?_
      refine V.iconst X (v := nI 1) dX1_enter_86 (by decide) ?_
      refine V.iaddN X dX1_enter_87 ?_
      refine Vp_c_28_kept (x := (gN σ 15) + 1) X tw_293 dX1_enter_88 ?_
      refine V.aload_n X 1 dX1_enter_91 rfl rfl ?_
      refine Vg_c_28_sorting (x := gB σ 4) X tw_292 dX1_enter_92 rfl ?_
      refine V.if_eqB X 122 dX1_enter_95 (by decide) (fun c95 => ?_) (fun c95 => ?_)
      · exact V.vret X rfl hA hk ht hQ rfl dX1_enter_122 (⟨rfl, by rw [tE28, if_pos (show kpt σ k d = true from (by rw [va_up_self] at c78; exact c78)), if_neg (show ¬ gB σ 4 = true by rw [c95]; decide)]; exact congrArg (cw (zG Z) a) (sA_self (sN (sA (sZ σ 0 (va_up (gZ σ 0) k (kpt σ k d))) 10 (va_up (gA σ 10) k 0)) 15 (gN σ 15 + 1)) 11).symm⟩)
      · refine V.aload_n X 1 dX1_enter_98 rfl rfl ?_
        refine V.aload_n X 1 dX1_enter_99 rfl rfl ?_
        refine Vg_c_28_deeds X (Or.inr tw_196) tw_195 dX1_enter_100 ?_
        refine Vg_c_1_start X tw_95 dX1_enter_103 ?_
        refine V.iload_n X 3 dX1_enter_106 rfl rfl ?_
        refine Va_c_start (x := gA σ 1 d) X (by omega) dX1_enter_107 rfl ?_
        refine V.aload_n X 1 dX1_enter_108 rfl rfl ?_
        refine Vg_c_28_deeds X (Or.inr tw_196) tw_195 dX1_enter_109 ?_
        refine Vg_c_1_start X tw_95 dX1_enter_112 ?_
        refine V.iload_n X 3 dX1_enter_115 rfl rfl ?_
        refine V.iconst X (v := nI 1) dX1_enter_116 (by decide) ?_
        refine V.iaddN X dX1_enter_117 ?_
        refine Va_c_start (x := gA σ 1 (d + 1)) X (by omega) dX1_enter_118 rfl ?_
        refine V.callV X rfl (t28_sortParts (zl Z) (zG Z) a (sN (sA (sZ σ 0 (va_up (gZ σ 0) k (kpt σ k d))) 10 (va_up (gA σ 10) k 0)) 15 ((gN σ 15) + 1)) (gA σ 1 d) (gA σ 1 (d + 1)) (by omega) (by omega) (hs c95)) cv_X1_86 rfl 28 rfl rfl (len hRf (by decide)) (len hRl (by decide)) hk0 ht0 [] rfl (Nat.le_of_ble_eq_true rfl) dX1_enter_119 ?_
        rintro _ _ ⟨rfl, rfl⟩
        refine V.eqs (st' := []) rfl ?_
        exact V.vret X rfl hA hk ht hQ rfl dX1_enter_122 (⟨rfl, by rw [tE28, if_pos (show kpt σ k d = true from (by rw [va_up_self] at c78; exact c78)), if_pos c95]; rfl⟩)
  have J33 : V Z (cw (zG Z) a σ) [(0, .ref (a 28)), (1, .int (nI k)), (2, .int (nI d))] 33 [.int (bI (lfo σ d))] := by
    refine V.istore_n X (lv' := [(3, .int (bI (lfo σ d))), (0, .ref (a 28)), (1, .int (nI k)), (2, .int (nI d))]) dX1_enter_33 rfl (ltn hn (by decide)) rfl ?_
    refine V.aload_n X 1 dX1_enter_34 rfl rfl ?_
    refine Vg_c_28_keptAt X tw_286 dX1_enter_35 ?_
    refine V.iload_n X 2 dX1_enter_38 rfl rfl ?_
    refine V.iload_n X 2 dX1_enter_39 rfl rfl ?_
    refine V.iconst X (v := nI 1) dX1_enter_40 (by decide) ?_
    refine V.icmp_eqN X 59 dX1_enter_41 (by decide) (by omega) (by decide) (fun c41 => ?_) (fun c41 => ?_)
    · refine V.iconst X (v := nI 1) dX1_enter_59 (by decide) ?_
      refine V.goto X 64 dX1_enter_60 (by decide) ?_
      refine V.topi (y := bI (kpt σ k d)) (by rw [kpt, show decide (k = 1) = true by simp; omega]; rfl) ?_
      exact V.sub [0, 1, 2, 3] rfl J64
    · refine V.aload_n X 1 dX1_enter_44 rfl rfl ?_
      refine Vg_c_28_keptAt X tw_286 dX1_enter_45 ?_
      refine V.iload_n X 2 dX1_enter_48 rfl rfl ?_
      refine V.iconst X (v := nI 1) dX1_enter_49 (by decide) ?_
      refine V.isubN X dX1_enter_50 (by omega) ?_
      refine Va_c_keptAt (x := gZ σ 0 (k - 1)) X (by omega) dX1_enter_51 rfl ?_
      refine V.if_eqB X 63 dX1_enter_52 (by decide) (fun c52 => ?_) (fun c52 => ?_)
      · refine V.iconst X (v := nI 0) dX1_enter_63 (by decide) ?_
        refine V.topi (y := bI (kpt σ k d)) (by rw [kpt, show decide (k = 1) = false by simp; omega, c52]; rfl) ?_
        exact V.sub [0, 1, 2, 3] rfl J64
      · refine V.iload_n X 0 dX1_enter_55 rfl rfl ?_
        refine V.if_neB X 63 dX1_enter_56 (by decide) (fun c56 => ?_) (fun c56 => ?_)
        · refine V.iconst X (v := nI 0) dX1_enter_63 (by decide) ?_
          refine V.topi (y := bI (kpt σ k d)) (by rw [kpt, show decide (k = 1) = false by simp; omega, c52, c56]; rfl) ?_
          exact V.sub [0, 1, 2, 3] rfl J64
        · refine V.iconst X (v := nI 1) dX1_enter_59 (by decide) ?_
          refine V.goto X 64 dX1_enter_60 (by decide) ?_
          refine V.topi (y := bI (kpt σ k d)) (by rw [kpt, show decide (k = 1) = false by simp; omega, c52, c56]; rfl) ?_
          exact V.sub [0, 1, 2, 3] rfl J64
  refine V.aload_n X 0 dX1_enter_0 rfl rfl ?_
  refine Vg_c_28_deeds X (Or.inr tw_196) tw_195 dX1_enter_1 ?_
  refine Vg_c_1_kind X tw_83 dX1_enter_4 ?_
  refine V.iload_n X 2 dX1_enter_7 rfl rfl ?_
  refine Va_c_kind (x := gA σ 0 d) X (by omega) dX1_enter_8 rfl ?_
  refine V.if_neN X 32 dX1_enter_9 (by decide) (by omega) (fun c9 => ?_) (fun c9 => ?_)
  · refine V.iconst X (v := nI 0) dX1_enter_32 (by decide) ?_
    refine V.topi (y := bI (lfo σ d)) (by rw [lfo, decide_eq_false (show ¬ (gA σ 0 d = 0 ∧ gI σ 6 < gJ σ 0 d) from fun q => c9 q.1)]; rfl) ?_
    exact J33
  · refine V.aload_n X 0 dX1_enter_12 rfl rfl ?_
    refine Vg_c_28_deeds X (Or.inr tw_196) tw_195 dX1_enter_13 ?_
    refine Vg_c_1_number X tw_91 dX1_enter_16 ?_
    refine V.iload_n X 2 dX1_enter_19 rfl rfl ?_
    refine Va_c_number (x := gJ σ 0 d) X (by omega) dX1_enter_20 rfl ?_
    refine V.aload_n X 0 dX1_enter_21 rfl rfl ?_
    refine Vg_c_28_most (x := gI σ 6) X tw_290 dX1_enter_22 rfl ?_
    refine V.icmp_le X 32 dX1_enter_25 (by decide) (fun c25 => ?_) (fun c25 => ?_)
    · refine V.iconst X (v := nI 0) dX1_enter_32 (by decide) ?_
      refine V.topi (y := bI (lfo σ d)) (by rw [lfo, decide_eq_false (show ¬ (gA σ 0 d = 0 ∧ gI σ 6 < gJ σ 0 d) from fun q => absurd q.2 (Int32.not_lt.mpr c25))]; rfl) ?_
      exact J33
    · refine V.iconst X (v := nI 1) dX1_enter_28 (by decide) ?_
      refine V.goto X 33 dX1_enter_29 (by decide) ?_
      refine V.topi (y := bI (lfo σ d)) (by rw [lfo, decide_eq_true (show gA σ 0 d = 0 ∧ gI σ 6 < gJ σ 0 d from ⟨c9, Int32.not_le.mp c25⟩)]; rfl) ?_
      exact J33

/-- the mark of d, out of the marks m of its parts -/
def mkOf (σ : St) (m : Nat → Int64) (d : Nat) : Int64 := endedL ((List.range (npt σ d)).foldl (fun h i => withL h (m (gA σ 2 (gA σ 1 d + i)))) (begunL (gA σ 0 d) (gJ σ 0 d)))
def mkOK (σ : St) (m : Nat → Int64) (n : Nat) : Prop := ∀ d, d < n → m d = mkOf σ m d
theorem mkOf_congr {σ : St} {m m' : Nat → Int64} {d : Nat} (h : ∀ i, i < npt σ d → m (gA σ 2 (gA σ 1 d + i)) = m' (gA σ 2 (gA σ 1 d + i))) : mkOf σ m d = mkOf σ m' d := by
  have key : ∀ (n : Nat) (x : Int64), n ≤ npt σ d → (List.range n).foldl (fun h i => withL h (m (gA σ 2 (gA σ 1 d + i)))) x = (List.range n).foldl (fun h i => withL h (m' (gA σ 2 (gA σ 1 d + i)))) x := by
    intro n
    induction n with
    | zero => intro x _; rfl
    | succ n ih =>
      intro x hn
      simp only [List.range_succ, List.foldl_append, List.foldl_cons, List.foldl_nil]
      rw [ih x (by omega), h n (by omega)]
  simp only [mkOf]; rw [key _ _ (Nat.le_refl _)]
theorem mkOK_up {σ : St} {m : Nat → Int64} {d : Nat} (hp : ∀ i, i < npt σ d → gA σ 2 (gA σ 1 d + i) < d) (h : mkOK σ m d) (hall : ∀ e, e < d → ∀ i, i < npt σ e → gA σ 2 (gA σ 1 e + i) < e := by assumption) : mkOK σ (va_up m d (mkOf σ m d)) (d + 1) := by
  intro e he
  by_cases e1 : e = d
  · subst e1
    rw [va_up_self]
    exact mkOf_congr (fun i hi => by rw [va_up_ne _ _ (by have := hp i hi; omega)])
  · rw [va_up_ne _ _ e1, h e (by omega)]
    exact mkOf_congr (fun i hi => by rw [va_up_ne _ _ (by have := hall e (by omega) i hi; omega)])
set_option maxHeartbeats 4000000 in
set_option maxRecDepth 100000 in
theorem t28_reckonMarks (l : Launch) (G : Gx) (a : Nat → Nat) (σ : St) (r : Nat) (hr : r < 1500) (hok : ∀ d, d ≤ r → OKd σ d) (hparts : ∀ d, d ≤ r → ∀ i, i < npt σ d → gA σ 2 (gA σ 1 d + i) < d) : MM l G ⟨"NestedDeeds$Copying", "reckonMarks", "(I)V"⟩ prog_3_method_4_code 6 none 1 23 [.ref (a 28), .int (nI r)] (cw G a σ) (fun rv w => rv = none ∧ ∃ m : Nat → Int64, w = cw G a (sL σ 2 m) ∧ mkOK σ m (r + 1) ∧ ∀ j, r < j → m j = gL σ 2 j) := by
  refine MM.of (lv := [(0, .ref (a 28)), (1, .int (nI r))]) (by decide +kernel) rfl (Nat.le_of_ble_eq_true rfl) ?_
  intro Z hRf hRl hl hG hn hk ht hA hQ X
  subst hG hl
  have X : XC Z "NestedDeeds$Copying" prog_3_method_4_code none := X
  have hk0 : zk Z ≤ (zR Z).cells := hk ▸ Nat.zero_le _
  have ht0 : zt Z ≤ (zR Z).slots := ht ▸ Nat.zero_le _
  have LP : ∀ (n d : Nat) (m : Nat → Int64), d + n = r + 1 → mkOK σ m d → (∀ j, d ≤ j → m j = gL σ 2 j) → V Z (cw (zG Z) a (sL σ 2 m)) [(2, .int (nI d)), (0, .ref (a 28)), (1, .int (nI r))] 2 [] := by
    intro n
    induction n with
    | zero =>
      intro d m h1 h2 h3
      refine V.iload_n X 0 dX1_reckonMarks_2 rfl rfl ?_
      refine V.iload_n X 2 dX1_reckonMarks_3 rfl rfl ?_
      refine V.icmp_gtN X 98 dX1_reckonMarks_4 (by decide) (by omega) (by omega) (fun c4 => ?_) (fun c4 => by exfalso; omega)
      exact V.vret X rfl hA hk ht hQ rfl dX1_reckonMarks_98 (⟨rfl, m, rfl, by rw [show r + 1 = d by omega]; exact h2, fun j hj => h3 j (by omega)⟩)
    | succ n ih =>
      intro d m h1 h2 h3
      obtain ⟨hd1, hd2, hd3, hd4⟩ := hok d (by omega)
      have hpp := hparts d (by omega)
      have LI : ∀ (c q : Nat), q + c = npt σ d → V Z (cw (zG Z) a (sL σ 2 m)) [(5, .int (nI (gA σ 1 d + q))), (3, .long ((List.range q).foldl (fun h i => withL h (m (gA σ 2 (gA σ 1 d + i)))) (begunL (gA σ 0 d) (gJ σ 0 d)))), (2, .int (nI d)), (0, .ref (a 28)), (1, .int (nI r))] 40 [] := by
        intro c
        induction c with
        | zero =>
          intro q hq
          have hq2 : q = gA σ 1 (d + 1) - gA σ 1 d := hq
          refine V.iload X 0 dX1_reckonMarks_40 rfl ?_
          refine V.aload_n X 3 dX1_reckonMarks_42 rfl rfl ?_
          refine Vg_c_28_deeds X (Or.inr tw_196) tw_195 dX1_reckonMarks_43 ?_
          refine Vg_c_1_start X tw_95 dX1_reckonMarks_46 ?_
          refine V.iload_n X 2 dX1_reckonMarks_49 rfl rfl ?_
          refine V.iconst X (v := nI 1) dX1_reckonMarks_50 (by decide) ?_
          refine V.iaddN X dX1_reckonMarks_51 ?_
          refine Va_c_start (x := gA σ 1 (d + 1)) X (by omega) dX1_reckonMarks_52 rfl ?_
          refine V.icmp_geN X 82 dX1_reckonMarks_53 (by decide) (by omega) (by omega) (fun c53 => ?_) (fun c53 => by exfalso; omega)
          refine V.aload_n X 3 dX1_reckonMarks_82 rfl rfl ?_
          refine Vg_c_28_mark X tw_288 dX1_reckonMarks_83 ?_
          refine V.iload_n X 2 dX1_reckonMarks_86 rfl rfl ?_
          refine V.lload_n X 1 dX1_reckonMarks_87 rfl rfl ?_
          refine V.callS X rfl (k_ended (zl Z) (zG Z) (cw (zG Z) a (sL σ 2 m)) ((List.range q).foldl (fun h i => withL h (m (gA σ 2 (gA σ 1 d + i)))) (begunL (gA σ 0 d) (gJ σ 0 d)))) cs_X1_82 rfl (len hRf (by decide)) (len hRl (by decide)) hk0 ht0 [.int (nI d), .ref (a 31)] rfl (Nat.le_of_ble_eq_true rfl) dX1_reckonMarks_88 ?_
          rintro _ _ ⟨rfl, rfl⟩
          refine V.eqs (st' := [.long (endedL ((List.range q).foldl (fun h i => withL h (m (gA σ 2 (gA σ 1 d + i)))) (begunL (gA σ 0 d) (gJ σ 0 d)))), .int (nI d), .ref (a 31)]) rfl ?_
          refine Vs_c_mark (f := m) (i := d) (x := endedL ((List.range q).foldl (fun h i => withL h (m (gA σ 2 (gA σ 1 d + i)))) (begunL (gA σ 0 d) (gJ σ 0 d)))) X (by omega) dX1_reckonMarks_91 rfl ?_
          refine V.iinc X (v := nI (d + 1)) (lv' := [(2, .int (nI (d + 1))), (5, .int (nI (gA σ 1 d + q))), (3, .long ((List.range q).foldl (fun h i => withL h (m (gA σ 2 (gA σ 1 d + i)))) (begunL (gA σ 0 d) (gJ σ 0 d)))), (0, .ref (a 28)), (1, .int (nI r))]) (k0 := 2) dX1_reckonMarks_92 rfl (inc_1 _) (ltn hn (by decide)) rfl ?_
          refine V.goto X 2 dX1_reckonMarks_95 (by decide) ?_
          refine V.eqw (ws' := cw (zG Z) a (sL σ 2 (va_up m d (mkOf σ m d)))) (by rw [sL_sL, mkOf, ← hq]; rfl) ?_
          exact V.sub [0, 3, 4] rfl (ih (d + 1) (va_up m d (mkOf σ m d)) (by omega) (mkOK_up hpp h2 (fun e he => hparts e (by omega))) (fun j hj => by rw [va_up_ne _ _ (show j ≠ d by omega)]; exact h3 j (by omega)))
        | succ c ihc =>
          intro q hq
          have hq2 : q + (c + 1) = gA σ 1 (d + 1) - gA σ 1 d := hq
          have hpb : gA σ 2 (gA σ 1 d + q) < d := hpp q (by simp only [npt]; omega)
          refine V.iload X 0 dX1_reckonMarks_40 rfl ?_
          refine V.aload_n X 3 dX1_reckonMarks_42 rfl rfl ?_
          refine Vg_c_28_deeds X (Or.inr tw_196) tw_195 dX1_reckonMarks_43 ?_
          refine Vg_c_1_start X tw_95 dX1_reckonMarks_46 ?_
          refine V.iload_n X 2 dX1_reckonMarks_49 rfl rfl ?_
          refine V.iconst X (v := nI 1) dX1_reckonMarks_50 (by decide) ?_
          refine V.iaddN X dX1_reckonMarks_51 ?_
          refine Va_c_start (x := gA σ 1 (d + 1)) X (by omega) dX1_reckonMarks_52 rfl ?_
          refine V.icmp_geN X 82 dX1_reckonMarks_53 (by decide) (by omega) (by omega) (fun c53 => by exfalso; omega) (fun c53 => ?_)
          refine V.lload_n X 1 dX1_reckonMarks_56 rfl rfl ?_
          refine V.aload_n X 3 dX1_reckonMarks_57 rfl rfl ?_
          refine Vg_c_28_mark X tw_288 dX1_reckonMarks_58 ?_
          refine V.aload_n X 3 dX1_reckonMarks_61 rfl rfl ?_
          refine Vg_c_28_deeds X (Or.inr tw_196) tw_195 dX1_reckonMarks_62 ?_
          refine Vg_c_1_parts X tw_97 dX1_reckonMarks_65 ?_
          refine V.iload X 0 dX1_reckonMarks_68 rfl ?_
          refine Va_c_parts (x := gA σ 2 (gA σ 1 d + q)) X (by omega) dX1_reckonMarks_70 rfl ?_
          refine Va_c_mark (x := (m) (gA σ 2 (gA σ 1 d + q))) X (by omega) dX1_reckonMarks_71 rfl ?_
          refine V.callS X rfl (k_with (zl Z) (zG Z) (cw (zG Z) a (sL σ 2 m)) ((List.range q).foldl (fun h i => withL h (m (gA σ 2 (gA σ 1 d + i)))) (begunL (gA σ 0 d) (gJ σ 0 d))) ((m) (gA σ 2 (gA σ 1 d + q)))) cs_X1_78 rfl (len hRf (by decide)) (len hRl (by decide)) hk0 ht0 [] rfl (Nat.le_of_ble_eq_true rfl) dX1_reckonMarks_72 ?_
          rintro _ _ ⟨rfl, rfl⟩
          refine V.eqs (st' := [.long (withL ((List.range q).foldl (fun h i => withL h (m (gA σ 2 (gA σ 1 d + i)))) (begunL (gA σ 0 d) (gJ σ 0 d))) ((m) (gA σ 2 (gA σ 1 d + q))))]) rfl ?_
          refine V.lstore_n X (lv' := [(3, .long (withL ((List.range q).foldl (fun h i => withL h (m (gA σ 2 (gA σ 1 d + i)))) (begunL (gA σ 0 d) (gJ σ 0 d))) ((m) (gA σ 2 (gA σ 1 d + q))))), (5, .int (nI (gA σ 1 d + q))), (2, .int (nI d)), (0, .ref (a 28)), (1, .int (nI r))]) dX1_reckonMarks_75 rfl (ltn hn (by decide)) rfl ?_
          refine V.iinc X (v := nI ((gA σ 1 d + q) + 1)) (lv' := [(5, .int (nI ((gA σ 1 d + q) + 1))), (3, .long (withL ((List.range q).foldl (fun h i => withL h (m (gA σ 2 (gA σ 1 d + i)))) (begunL (gA σ 0 d) (gJ σ 0 d))) ((m) (gA σ 2 (gA σ 1 d + q))))), (2, .int (nI d)), (0, .ref (a 28)), (1, .int (nI r))]) (k0 := 1) dX1_reckonMarks_76 rfl (inc_1 _) (ltn hn (by decide)) rfl ?_
          refine V.goto X 40 dX1_reckonMarks_79 (by decide) ?_
          refine V.eql (lv' := [(5, .int (nI (gA σ 1 d + (q + 1)))), (3, .long ((List.range (q + 1)).foldl (fun h i => withL h (m (gA σ 2 (gA σ 1 d + i)))) (begunL (gA σ 0 d) (gJ σ 0 d)))), (2, .int (nI d)), (0, .ref (a 28)), (1, .int (nI r))]) (by rw [List.range_succ, List.foldl_append]; rfl) ?_
          exact V.sub [0, 1, 2, 3, 4] rfl (ihc (q + 1) (by omega))
      refine V.iload_n X 0 dX1_reckonMarks_2 rfl rfl ?_
      refine V.iload_n X 2 dX1_reckonMarks_3 rfl rfl ?_
      refine V.icmp_gtN X 98 dX1_reckonMarks_4 (by decide) (by omega) (by omega) (fun c4 => by exfalso; omega) (fun c4 => ?_)
      refine V.aload_n X 1 dX1_reckonMarks_7 rfl rfl ?_
      refine Vg_c_28_deeds X (Or.inr tw_196) tw_195 dX1_reckonMarks_8 ?_
      refine Vg_c_1_kind X tw_83 dX1_reckonMarks_11 ?_
      refine V.iload_n X 0 dX1_reckonMarks_14 rfl rfl ?_
      refine Va_c_kind (x := gA σ 0 d) X (by omega) dX1_reckonMarks_15 rfl ?_
      refine V.aload_n X 1 dX1_reckonMarks_16 rfl rfl ?_
      refine Vg_c_28_deeds X (Or.inr tw_196) tw_195 dX1_reckonMarks_17 ?_
      refine Vg_c_1_number X tw_91 dX1_reckonMarks_20 ?_
      refine V.iload_n X 0 dX1_reckonMarks_23 rfl rfl ?_
      refine Va_c_number (x := gJ σ 0 d) X (by omega) dX1_reckonMarks_24 rfl ?_
      refine V.callS X rfl (k_begun (zl Z) (zG Z) (cw (zG Z) a (sL σ 2 m)) (gA σ 0 d) (gJ σ 0 d) (by omega)) cs_X1_69 rfl (len hRf (by decide)) (len hRl (by decide)) hk0 ht0 [] rfl (Nat.le_of_ble_eq_true rfl) dX1_reckonMarks_25 ?_
      rintro _ _ ⟨rfl, rfl⟩
      refine V.eqs (st' := [.long (begunL (gA σ 0 d) (gJ σ 0 d))]) rfl ?_
      refine V.lstore_n X (lv' := [(3, .long (begunL (gA σ 0 d) (gJ σ 0 d))), (2, .int (nI d)), (0, .ref (a 28)), (1, .int (nI r))]) dX1_reckonMarks_28 rfl (ltn hn (by decide)) rfl ?_
      refine V.aload_n X 2 dX1_reckonMarks_29 rfl rfl ?_
      refine Vg_c_28_deeds X (Or.inr tw_196) tw_195 dX1_reckonMarks_30 ?_
      refine Vg_c_1_start X tw_95 dX1_reckonMarks_33 ?_
      refine V.iload_n X 1 dX1_reckonMarks_36 rfl rfl ?_
      refine Va_c_start (x := gA σ 1 d) X (by omega) dX1_reckonMarks_37 rfl ?_
      refine V.istore X (lv' := [(5, .int (nI (gA σ 1 d))), (3, .long (begunL (gA σ 0 d) (gJ σ 0 d))), (2, .int (nI d)), (0, .ref (a 28)), (1, .int (nI r))]) dX1_reckonMarks_38 (ltn hn (by decide)) rfl ?_
      exact V.sub [0, 1, 2, 3, 4] rfl (LI (npt σ d) 0 (by omega))
  refine V.iconst X (v := nI 0) dX1_reckonMarks_0 (by decide) ?_
  refine V.istore_n X (lv' := [(2, .int (nI 0)), (0, .ref (a 28)), (1, .int (nI r))]) dX1_reckonMarks_1 rfl (ltn hn (by decide)) rfl ?_
  refine V.eqw (ws' := cw (zG Z) a (sL σ 2 (gL σ 2))) (by rw [sL_self]) ?_
  exact V.sub [0, 1, 2] rfl (LP (r + 1) 0 (gL σ 2) (by omega) (fun d hd => absurd hd (by omega)) (fun j _ => rfl))

set_option maxHeartbeats 4000000 in
set_option maxRecDepth 100000 in
theorem t28_beginMaking (l : Launch) (G : Gx) (a : Nat → Nat) (σ : St) (r : Nat) (o : Bool) (h1 : gN σ 1 ≤ 1500) (h2 : gA σ 1 (gN σ 1) ≤ 4000) (hr : r < 1500) (hok : ∀ d, d ≤ r → OKd σ d) (hparts : ∀ d, d ≤ r → ∀ i, i < npt σ d → gA σ 2 (gA σ 1 d + i) < d) : MM l G ⟨"NestedDeeds$Copying", "beginMaking", "(IZ)V"⟩ prog_3_method_3_code 3 none 2 60 [.ref (a 28), .int (nI r), .int (bI o)] (cw G a σ) (fun rv w => rv = none ∧ if o = true then ∃ m : Nat → Int64, w = cw G a (sL (sA (sB (sB σ 3 true) 4 true) 11 (va_cpy (gA σ 2) (gA σ 11) 0 0 (gA σ 1 (gN σ 1)))) 2 m) ∧ mkOK σ m (r + 1) else w = cw G a (sB (sB σ 3 true) 4 false)) := by
  refine MM.of (lv := [(0, .ref (a 28)), (1, .int (nI r)), (2, .int (bI o))]) (by decide +kernel) rfl (Nat.le_of_ble_eq_true rfl) ?_
  intro Z hRf hRl hl hG hn hk ht hA hQ X
  subst hG hl
  have X : XC Z "NestedDeeds$Copying" prog_3_method_3_code none := X
  have hk0 : zk Z ≤ (zR Z).cells := hk ▸ Nat.zero_le _
  have ht0 : zt Z ≤ (zR Z).slots := ht ▸ Nat.zero_le _
  refine V.aload_n X 0 dX1_beginMaking_0 rfl rfl ?_
  refine V.iconst X (v := nI 1) dX1_beginMaking_1 (by decide) ?_
  refine V.topi (y := bI true) rfl ?_
  refine Vp_c_28_making (x := true) X tw_291 dX1_beginMaking_2 ?_
  refine V.aload_n X 0 dX1_beginMaking_5 rfl rfl ?_
  refine V.iload_n X 2 dX1_beginMaking_6 rfl rfl ?_
  refine Vp_c_28_sorting (x := o) X tw_292 dX1_beginMaking_7 ?_
  refine V.iload_n X 2 dX1_beginMaking_10 rfl rfl ?_
  refine V.if_eqB X 42 dX1_beginMaking_11 (by decide) (fun c11 => ?_) (fun c11 => ?_)
  · exact V.vret X rfl hA hk ht hQ rfl dX1_beginMaking_42 (⟨rfl, by rw [if_neg (show ¬ o = true by rw [c11]; decide), c11]⟩)
  · refine V.aload_n X 0 dX1_beginMaking_14 rfl rfl ?_
    refine Vg_c_28_deeds X (Or.inr tw_196) tw_195 dX1_beginMaking_15 ?_
    refine Vg_c_1_parts X tw_97 dX1_beginMaking_18 ?_
    refine V.iconst X (v := nI 0) dX1_beginMaking_21 (by decide) ?_
    refine V.aload_n X 0 dX1_beginMaking_22 rfl rfl ?_
    refine Vg_c_28_sorted X tw_289 dX1_beginMaking_23 ?_
    refine V.iconst X (v := nI 0) dX1_beginMaking_26 (by decide) ?_
    refine V.aload_n X 0 dX1_beginMaking_27 rfl rfl ?_
    refine Vg_c_28_deeds X (Or.inr tw_196) tw_195 dX1_beginMaking_28 ?_
    refine V.callV X rfl (c_allParts (zl Z) (zG Z) a (sB (sB σ 3 true) 4 o) (by first | assumption | exact h1)) cv_X1_49 rfl 1 rfl rfl (len hRf (by decide)) (len hRl (by decide)) hk0 ht0 [.int (nI 0), .ref (a 32), .int (nI 0), .ref (a 5)] rfl (Nat.le_of_ble_eq_true rfl) dX1_beginMaking_31 ?_
    rintro _ _ ⟨rfl, rfl⟩
    refine V.eqs (st' := [.int (nI ((gA σ 1) (gN σ 1))), .int (nI 0), .ref (a 32), .int (nI 0), .ref (a 5)]) rfl ?_
    refine Vc_parts_sorted (f := gA σ 2) (g := gA σ 11) (sp := 0) (dp := 0) (n := (gA σ 1) (gN σ 1)) X (by show 0 + gA σ 1 (gN σ 1) ≤ 4000; omega) (by show 0 + gA σ 1 (gN σ 1) ≤ 4000; omega) (len hRf (by decide)) (len hRl (by decide)) tw_732 dX1_beginMaking_34 rfl rfl ?_
    refine V.aload_n X 0 dX1_beginMaking_37 rfl rfl ?_
    refine V.iload_n X 1 dX1_beginMaking_38 rfl rfl ?_
    refine V.callV X rfl (t28_reckonMarks (zl Z) (zG Z) a (sA (sB (sB σ 3 true) 4 o) 11 (va_cpy (gA σ 2) (gA σ 11) 0 0 ((gA σ 1) (gN σ 1)))) r hr hok hparts) cv_X1_59 rfl 28 rfl rfl (len hRf (by decide)) (len hRl (by decide)) hk0 ht0 [] rfl (Nat.le_of_ble_eq_true rfl) dX1_beginMaking_39 ?_
    rintro _ _ ⟨rfl, m, rfl, hm1, hm2⟩
    refine V.eqs (st' := []) rfl ?_
    exact V.vret X rfl hA hk ht hQ rfl dX1_beginMaking_42 (⟨rfl, by rw [if_pos c11]; subst c11; exact ⟨m, rfl, hm1⟩⟩)

