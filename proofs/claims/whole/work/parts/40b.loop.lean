set_option maxHeartbeats 4000000 in
set_option maxRecDepth 100000 in
theorem law_loop {Z : Cx} {b L : Nat} {xs : Nat → Int32} {a a' : Nat → Nat} (hZ : LZ Z b L xs) (hend : ∀ (ws : va_W) (lv : List (Nat × Value)), V Z ws lv 844 []) : ∀ (w i : Nat) (S : AS) (σ τ : St), L ≤ i + w → i ≤ L → RC S σ → RR S τ → V Z (wl2 (zG Z) a a' σ τ) [(3, .int (nI i)), (2, .ref (a' 0)), (1, .ref (a 0)), (0, .ref b)] 18 [] := by
  obtain ⟨X, hRf, hRl, hn, hX, hbl, hbA, hk0, ht0, hL⟩ := id hZ
  have hcmp : ∀ i, i ≤ L → ¬ (nI L - nI 6 < nI i) → i + 6 ≤ L := by
    intro i h1 h2
    rw [Int32.lt_iff_toInt_lt, pk_sub_toInt (by omega) (by decide), nI_toInt (by omega)] at h2
    omega
  intro w
  induction w with
  | zero =>
    intro i S σ τ h1 h2 hc hr
    refine V.iload_n X 0 dL_law_18 rfl rfl ?_
    refine V.aload_n X 3 dL_law_19 rfl rfl ?_
    refine V.slen X hX hbl hbA dL_law_20 ?_
    refine V.bipush X (v := nI 6) dL_law_21 (by decide) ?_
    refine V.isub X dL_law_23 ?_
    refine V.icmp_gt X 844 dL_law_24 (by decide) (fun _ => hend _ _) (fun z => ?_)
    have := hcmp i h2 z
    omega
  | succ w ih =>
    intro i S σ τ h1 h2 hc hr
    refine V.iload_n X 0 dL_law_18 rfl rfl ?_
    refine V.aload_n X 3 dL_law_19 rfl rfl ?_
    refine V.slen X hX hbl hbA dL_law_20 ?_
    refine V.bipush X (v := nI 6) dL_law_21 (by decide) ?_
    refine V.isub X dL_law_23 ?_
    refine V.icmp_gt X 844 dL_law_24 (by decide) (fun _ => hend _ _) (fun z => ?_)
    have hi := hcmp i h2 z
    have kk : ∀ (S : AS) (σ τ : St), RC S σ → RR S τ → V Z (wl2 (zG Z) a a' σ τ) [(3, .int (nI i)), (2, .ref (a' 0)), (1, .ref (a 0)), (0, .ref b)] 838 [] := by
      intro S σ τ hc hr
      refine V.iinc X (v := nI (i + 6)) (lv' := [(3, .int (nI (i + 6))), (2, .ref (a' 0)), (1, .ref (a 0)), (0, .ref b)]) (k0 := 0) dL_law_838 rfl (inc_6 i) (ltn hn (by decide)) rfl ?_
      refine V.goto X 18 dL_law_841 (by decide) ?_
      exact ih (i + 6) S σ τ (by omega) (by omega) hc hr
    refine V.aload_n X 3 dL_law_27 rfl rfl ?_
    refine V.iload_n X 0 dL_law_28 rfl rfl ?_
    refine V.sld X hX hbl hbA (vp_in_nI (show i < L by omega) (by omega)) dL_law_29 ?_
    refine V.bipush X (v := nI 31) dL_law_30 (by decide) ?_
    refine V.iand X dL_law_32 ?_
    obtain ⟨t, ht, he⟩ := and31 (xs (nI i).toNatClampNeg)
    refine V.topi (y := nI t) he ?_
    clear he
    rcases (show t = 0 ∨ t = 1 ∨ t = 2 ∨ t = 3 ∨ t = 4 ∨ t = 5 ∨ t = 6 ∨ t = 7 ∨ t = 8 ∨ t = 9 ∨ t = 10 ∨ t = 11 ∨ t = 12 ∨ t = 13 ∨ t = 14 ∨ t = 15 ∨ t = 16 ∨ t = 17 ∨ t = 18 ∨ t = 19 ∨ t = 20 ∨ t = 21 ∨ t = 22 ∨ t = 23 ∨ 24 ≤ t by omega) with rfl | rfl | rfl | rfl | rfl | rfl | rfl | rfl | rfl | rfl | rfl | rfl | rfl | rfl | rfl | rfl | rfl | rfl | rfl | rfl | rfl | rfl | rfl | rfl | hge
    · exact V.tableIn X 144 dL_law_33 (by decide) (by decide) rfl (by decide) (law_deed hZ hi hc hr kk)
    · exact V.tableIn X 177 dL_law_33 (by decide) (by decide) rfl (by decide) (law_enclose hZ hi hc hr kk)
    · exact V.tableIn X 210 dL_law_33 (by decide) (by decide) rfl (by decide) (law_chain hZ hi hc hr kk)
    · exact V.tableIn X 273 dL_law_33 (by decide) (by decide) rfl (by decide) (law_way hZ hi hc hr kk)
    · exact V.tableIn X 296 dL_law_33 (by decide) (by decide) rfl (by decide) (law_meter hZ hi hc hr kk)
    · exact V.tableIn X 319 dL_law_33 (by decide) (by decide) rfl (by decide) (law_of hZ hi hc hr kk)
    · exact V.tableIn X 352 dL_law_33 (by decide) (by decide) rfl (by decide) (law_part hZ hi hc hr kk)
    · exact V.tableIn X 385 dL_law_33 (by decide) (by decide) rfl (by decide) (law_size hZ hi hc hr kk)
    · exact V.tableIn X 408 dL_law_33 (by decide) (by decide) rfl (by decide) (law_depth hZ hi hc hr kk)
    · exact V.tableIn X 431 dL_law_33 (by decide) (by decide) rfl (by decide) (law_worth hZ hi hc hr kk)
    · exact V.tableIn X 455 dL_law_33 (by decide) (by decide) rfl (by decide) (law_mark hZ hi hc hr kk)
    · exact V.tableIn X 479 dL_law_33 (by decide) (by decide) rfl (by decide) (law_alike hZ hi hc hr kk)
    · exact V.tableIn X 512 dL_law_33 (by decide) (by decide) rfl (by decide) (law_write hZ hi hc hr kk)
    · exact V.tableIn X 535 dL_law_33 (by decide) (by decide) rfl (by decide) (law_find hZ hi hc hr kk)
    · exact V.tableIn X 578 dL_law_33 (by decide) (by decide) rfl (by decide) (law_widest hZ hi hc hr kk)
    · exact V.tableIn X 611 dL_law_33 (by decide) (by decide) rfl (by decide) (law_copy hZ hi hc hr kk)
    · exact V.tableIn X 634 dL_law_33 (by decide) (by decide) rfl (by decide) (law_thin hZ hi hc hr kk)
    · exact V.tableIn X 667 dL_law_33 (by decide) (by decide) rfl (by decide) (law_order hZ hi hc hr kk)
    · exact V.tableIn X 690 dL_law_33 (by decide) (by decide) rfl (by decide) (law_feed hZ hi hc hr kk)
    · exact V.tableIn X 753 dL_law_33 (by decide) (by decide) rfl (by decide) (law_tear hZ hi hc hr kk)
    · exact V.tableIn X 766 dL_law_33 (by decide) (by decide) rfl (by decide) (law_byteAt hZ hi hc hr kk)
    · exact V.tableIn X 789 dL_law_33 (by decide) (by decide) rfl (by decide) (law_read hZ hi hc hr kk)
    · exact V.tableIn X 802 dL_law_33 (by decide) (by decide) rfl (by decide) (law_answer hZ hi hc hr kk)
    · exact V.tableIn X 815 dL_law_33 (by decide) (by decide) rfl (by decide) (law_count hZ hi hc hr kk)
    · exact V.tabOutN X 838 dL_law_33 (by omega) (by omega) (by decide) (kk S σ τ hc hr)

