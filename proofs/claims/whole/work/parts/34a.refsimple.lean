theorem fd_sh : ∀ k : Fin 8, ((nI (8 * k.val)).toInt64 &&& 63 : Int64).toBitVec = BitVec.ofNat 64 (8 * k.val) ∧ ((nI (8 * k.val)).toInt64.toUInt64 &&& Int64.toUInt64 63).toBitVec = BitVec.ofNat 64 (8 * k.val) := by decide +kernel
theorem fd_sm : ∀ k : Fin 8, ((BitVec.ofNat 64 (8 * k.val)).smod 64).toNat = 8 * k.val ∧ ((BitVec.ofNat 64 (8 * k.val)) % 64).toNat = 8 * k.val := by decide +kernel
theorem fd_ref (w : Int64) {k : Nat} (hk : k < 8) : Int64.toInt32 ((w >>> ((nI (8 * k)).toInt64 &&& 63)) &&& lN 255) = nI (fdB w k) := by
  have h1 := (fd_sh ⟨k, hk⟩).1
  have h2 := (fd_sh ⟨k, hk⟩).2
  have h3 := (fd_sm ⟨k, hk⟩).1
  have h4 := (fd_sm ⟨k, hk⟩).2
  simp only at h1 h2 h3 h4
  apply Int32.toBitVec_inj.mp
  apply BitVec.eq_of_getLsbD_eq
  intro i hi
  have e255 : (lN 255).toBitVec = 255#64 := by decide
  have hL : (Int64.toInt32 ((w >>> ((nI (8 * k)).toInt64 &&& 63)) &&& lN 255)).toBitVec.getLsbD i = (decide (i < 8) && w.toBitVec.getLsbD (8 * k + i)) := by
    rw [Int64.toBitVec_toInt32, BitVec.getLsbD_signExtend, Int64.toBitVec_and, e255, BitVec.getLsbD_and, Int64.toBitVec_shiftRight, h1]
    rw [BitVec.sshiftRight', h3, BitVec.getLsbD_sshiftRight]
    have e8 : (255#64).getLsbD i = decide (i < 8) := by
      rcases (show i = 0 ∨ i = 1 ∨ i = 2 ∨ i = 3 ∨ i = 4 ∨ i = 5 ∨ i = 6 ∨ i = 7 ∨ 8 ≤ i by omega) with rfl | rfl | rfl | rfl | rfl | rfl | rfl | rfl | h8
      iterate 8 decide
      rw [decide_eq_false (by omega)]
      show Nat.testBit 255 i = false
      exact Nat.testBit_lt_two_pow (Nat.lt_of_lt_of_le (show 255 < 2 ^ 8 by decide) (Nat.pow_le_pow_right (by decide) h8))
    rw [e8]
    by_cases q : i < 8
    · rw [decide_eq_true q, decide_eq_true (show i < 32 by omega), if_pos (show i < 64 by omega), if_pos (show 8 * k + i < 64 by omega), decide_eq_false (show ¬ 64 ≤ i by omega)]
      simp
    · rw [decide_eq_false q]; simp
      omega
  have hR : (nI (fdB w k)).toBitVec.getLsbD i = (decide (i < 8) && w.toBitVec.getLsbD (8 * k + i)) := by
    have e : (nI (fdB w k)).toBitVec = BitVec.ofNat 32 (fdB w k) := rfl
    rw [e, BitVec.getLsbD_ofNat, decide_eq_true hi, Bool.true_and, fdB, Nat.testBit_mod_two_pow]
    congr 1
    show ((w.toUInt64 >>> ((nI (8 * k)).toInt64.toUInt64 &&& Int64.toUInt64 63)).toInt64.toInt32).toBitVec.getLsbD i = _
    rw [Int64.toBitVec_toInt32, BitVec.getLsbD_signExtend, decide_eq_true hi, Bool.true_and, if_pos (show i < 64 by omega)]
    show (w.toUInt64 >>> ((nI (8 * k)).toInt64.toUInt64 &&& Int64.toUInt64 63)).toBitVec.getLsbD i = _
    rw [UInt64.toBitVec_shiftRight, h2, BitVec.ushiftRight_eq', h4, BitVec.getLsbD_ushiftRight]
    rfl
  rw [hL, hR]
theorem rf_deed (l : Launch) (G : Gx) (a : Nat → Nat) (σ : St) {S : AS} (k v : Int32) (h : RR S σ) : MM l G ⟨"NestedDeedsModel", "deed", "(II)I"⟩ prog_14_method_6_code 3 (some .int) 1 22 [.ref (a 0), .int k, .int v] (rw G a σ) (PR G a (sp_deed S k v).2 (.int (sp_deed S k v).1)) := by
  refine (r_deed l G a σ k v (by rw [h.n0]; exact h.1.1.1)).mono ?_
  intro rv w ⟨hr, hw⟩
  rw [h.n0] at hr hw
  rw [sp_deed]
  obtain ⟨ix, hx⟩ := h.2.1
  by_cases q : hasD 12 k = true
  · rw [if_pos q] at hr hw ⊢
    by_cases q2 : aN (yA S) < 1500
    · rw [if_pos q2] at hr hw ⊢
      exact ⟨hr, _, hw, h.setA (h.1.1.ad q2 (by simpa using h.1.1.2.1) (dN_lt (by decide) q).1 (fun p hp => by cases hp)) ⟨_, hx.add _ _⟩ (RST.add _ _ _)⟩
    · rw [if_neg q2] at hr hw ⊢
      exact ⟨hr, _, hw, h⟩
  · rw [if_neg q] at hr hw ⊢
    exact ⟨hr, _, hw, h⟩
theorem rf_way (l : Launch) (G : Gx) (a : Nat → Nat) (σ : St) {S : AS} (x : Int32) (h : RR S σ) : MM l G ⟨"NestedDeedsModel", "way", "(I)I"⟩ prog_14_method_9_code 3 (some .int) 1 22 [.ref (a 0), .int x] (rw G a σ) (PR G a (sp_way S x).2 (.int (sp_way S x).1)) := by
  refine (r_way l G a σ x).mono ?_
  intro rv w ⟨hr, hw⟩
  rw [sp_way]
  by_cases q : inR x (nI 0) (nI 3) = true
  · rw [if_pos q] at hr hw ⊢
    obtain ⟨j, j1, j2, rfl⟩ := inR_nat (by decide) (by decide) q
    obtain ⟨⟨o1, o2, o3⟩, h1, h2, h3⟩ := h
    refine ⟨by rw [hr, h2], _, hw, ⟨o1, ?_, o3⟩, h1.ofa rfl, rfl, h3⟩
    show dN (nI j) ≤ 3
    rw [dN_nI (by omega)]; exact j2
  · rw [if_neg q] at hr hw ⊢
    exact ⟨hr, _, hw, h⟩
theorem rf_meter (l : Launch) (G : Gx) (a : Nat → Nat) (σ : St) {S : AS} (x : Int32) (h : RR S σ) : MM l G ⟨"NestedDeedsModel", "meter", "(I)I"⟩ prog_14_method_10_code 3 (some .int) 1 22 [.ref (a 0), .int x] (rw G a σ) (PR G a (sp_meter S x).2 (.int (sp_meter S x).1)) := by
  refine (r_meter l G a σ x).mono ?_
  intro rv w ⟨hr, hw⟩
  rw [sp_meter]
  by_cases q : inR x (nI 1) (nI 300) = true
  · rw [if_pos q] at hr hw ⊢
    obtain ⟨j, j1, j2, rfl⟩ := inR_nat (by decide) (by decide) q
    obtain ⟨⟨o1, o2, o3, o4, o5⟩, h1, h2, h3, h4⟩ := h
    have ej : dN (nI j) = j := dN_nI (by omega)
    refine ⟨by rw [hr, h3], _, hw, ⟨o1, o2, ?_, ?_, o5⟩, h1.ofa rfl, h2, rfl, h4⟩
    · show 1 ≤ dN (nI j); omega
    · show dN (nI j) ≤ 300; omega
  · rw [if_neg q] at hr hw ⊢
    exact ⟨hr, _, hw, h⟩
theorem rf_of (l : Launch) (G : Gx) (a : Nat → Nat) (σ : St) {S : AS} (d x : Int32) (h : RR S σ) : MM l G ⟨"NestedDeedsModel", "of", "(II)I"⟩ prog_14_method_11_code 3 (some .int) 2 43 [.ref (a 0), .int d, .int x] (rw G a σ) (PR G a S (.int (sp_of S d x))) := by
  have hle := h.1.1.1
  refine (r_of l G a σ d x (by rw [h.n0]; exact hle)).mono ?_
  intro rv w ⟨hr, hw⟩
  rw [h.n0] at hr
  refine ⟨?_, _, hw, h⟩
  rw [hr, sp_of]
  obtain ⟨ix, hx⟩ := h.2.1
  by_cases q : hasD (aN (yA S)) d = true ∧ hasD 3 x = true
  · have hd := (dN_lt (by omega) q.1).1
    obtain ⟨q1, q2, q3, _⟩ := hx.2.2.1 _ hd
    rw [if_pos q, if_pos q, rOf, ofS, q1, q2, q3]
  · rw [if_neg q, if_neg q]
theorem rf_count (l : Launch) (G : Gx) (a : Nat → Nat) (σ : St) {S : AS} (x : Int32) (h : RR S σ) : MM l G ⟨"NestedDeedsModel", "count", "(I)I"⟩ prog_14_method_55_code 2 (some .int) 0 0 [.ref (a 0), .int x] (rw G a σ) (PR G a S (.int (sp_count S x))) := by
  refine (r_count l G a σ x).mono ?_
  intro rv w ⟨hr, hw⟩
  refine ⟨?_, _, hw, h⟩
  rw [hr, sp_count, rCnt, h.n0, h.n1, h.2.2.2.2.1, h.2.2.2.2.2.2.2.1, h.2.2.2.2.2.2.2.2]; rfl
theorem rf_answer (l : Launch) (G : Gx) (a : Nat → Nat) (σ : St) {S : AS} (h : RR S σ) : MM l G ⟨"NestedDeedsModel", "answer", "()I"⟩ prog_14_method_54_code 1 (some .int) 0 0 [.ref (a 0)] (rw G a σ) (PR G a S (.int (yR S))) := by
  refine (r_answer l G a σ).mono ?_
  intro rv w ⟨hr, hw⟩
  exact ⟨by rw [hr, h.2.2.2.2.2.2.1], _, hw, h⟩
theorem rf_tear (l : Launch) (G : Gx) (a : Nat → Nat) (σ : St) {S : AS} (h : RR S σ) : MM l G ⟨"NestedDeedsModel", "tear", "()I"⟩ prog_14_method_47_code 2 (some .int) 0 0 [.ref (a 0)] (rw G a σ) (PR G a (stP S []) (.int (nI (yP S).length))) := by
  refine (r_tear l G a σ).mono ?_
  intro rv w ⟨hr, hw⟩
  exact ⟨by rw [hr, h.2.2.2.2.1], _, hw, h.stP (by simp) (fun b hb => by cases hb) rfl rfl rfl rfl rfl rfl rfl (fun i hi => by simp at hi)⟩
theorem rf_byteAt (l : Launch) (G : Gx) (a : Nat → Nat) (σ : St) {S : AS} (i : Int32) (h : RR S σ) : MM l G ⟨"NestedDeedsModel", "byteAt", "(I)I"⟩ prog_14_method_48_code 2 (some .int) 1 22 [.ref (a 0), .int i] (rw G a σ) (PR G a S (.int (sp_byteAt S i))) := by
  have h5 := h.2.2.2.2.1
  have o5 := h.1.2.2.2.2.1
  refine (r_byteAt l G a σ i (by rw [h5]; exact o5)).mono ?_
  intro rv w ⟨hr, hw⟩
  refine ⟨?_, _, hw, h⟩
  rw [hr, h5, sp_byteAt]
  by_cases q : hasD (yP S).length i = true
  · rw [if_pos q, if_pos q, show gA σ 3 i.toNatClampNeg = _ from h.2.2.2.2.2.1 _ (dN_lt (by omega) q).1]
  · rw [if_neg q, if_neg q]
