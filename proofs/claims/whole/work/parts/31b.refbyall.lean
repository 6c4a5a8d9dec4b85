def vAc (kd : Nat) (v : Int32) (ws : List Int64) : Int64 := (ws.foldl (fun (s : Nat × Int64) w => (s.1 + 1, wUp kd v s.1 s.2 w)) (0, if kd = 6 then lN 0 else v.toInt64)).2
def vTk (A : Ar) (d k : Nat) : Int64 := vAc (aK A d) (aV A d) (((aP A d).take k).map (wo A))
theorem vTk_0 (A : Ar) (d : Nat) : vTk A d 0 = if aK A d = 6 then lN 0 else (aV A d).toInt64 := rfl
theorem vTk_s {A : Ar} {d k p : Nat} (h : (aP A d)[k]? = some p) : vTk A d (k + 1) = wUp (aK A d) (aV A d) k (vTk A d k) (wo A p) := by
  have hlt : k < (aP A d).length := (List.getElem?_eq_some_iff.mp h).1
  have hl : (((aP A d).take k).map (wo A)).length = k := by simp; omega
  simp only [vTk, List.take_succ, h, List.map_append, Option.toList, List.map_cons, List.map_nil]
  simp only [vAc, List.foldl_append, List.foldl_cons, List.foldl_nil]
  rw [wFo_len, hl, Nat.zero_add]
def lkT (A : Ar) (d k : Nat) : Bool := ((aP A d).take k).all (fun p => decide (wo A p = wo A ((aP A d).getD 0 0)))
theorem lkT_s {A : Ar} {d k p : Nat} (h : (aP A d)[k]? = some p) : lkT A d (k + 1) = (lkT A d k && decide (wo A p = wo A ((aP A d).getD 0 0))) := by
  simp only [lkT, List.take_succ, h, Option.toList, List.all_append, List.all_cons, List.all_nil, Bool.and_true]
theorem lk_end (A : Ar) (d : Nat) : wAcc 9 (aV A d) (aP A d).length ((aP A d).map (wo A)) = if lkT A d (aP A d).length = true then lN 1 else lN 0 := by
  rw [wAcc, if_pos rfl, lkT, List.take_length, List.all_map]
  rcases hp : aP A d with _ | ⟨x, l⟩
  · rfl
  · rfl
theorem wAcc_11 (v : Int32) (n : Nat) (ws : List Int64) : wAcc 11 v n ws = v.toInt64 + lN n := by
  have key : ∀ (ws : List Int64) (s : Nat × Int64), (ws.foldl (fun (s : Nat × Int64) w => (s.1 + 1, wUp 11 v s.1 s.2 w)) s).2 = s.2 := by
    intro ws
    induction ws with
    | nil => intro s; rfl
    | cons w ws ih => intro s; rw [List.foldl_cons, ih]; simp [wUp]
  rw [wAcc, if_neg (by decide), key]; simp [wInit]
theorem v_end {A : Ar} {d : Nat} (h9 : ¬ aK A d = 9) (h11 : ¬ aK A d = 11) : wAcc (aK A d) (aV A d) (aP A d).length ((aP A d).map (wo A)) = vTk A d (aP A d).length := by
  rw [wAcc, if_neg h9, vTk, List.take_length, vAc]
  simp only [wInit, if_neg h9, if_neg h11]

set_option maxHeartbeats 4000000 in
set_option maxRecDepth 100000 in
theorem r_byAll (l : Launch) (G : Gx) (a : Nat → Nat) (σ : St) {A : Ar} (d : Nat) (hx : RRd A σ) (hW : WA A) (hd : d < aN A) (hw : ∀ p, p < d → gL σ 0 p = wo A p) (hk7 : ¬ aK A d = 7) (hk8 : ¬ aK A d = 8) : MM l G ⟨"NestedDeedsModel", "byAll", "(I)J"⟩ prog_14_method_15_code 9 (some .long) 1 23 [.ref (a 0), .int (nI d)] (rw G a σ) (fun rv w => rv = some (.long (wAcc (aK A d) (aV A d) (aP A d).length ((aP A d).map (wo A)))) ∧ w = rw G a σ) := by
  refine MM.of (lv := [(0, .ref (a 0)), (1, .int (nI d))]) (by decide +kernel) rfl (Nat.le_of_ble_eq_true rfl) ?_
  intro Z hRf hRl hl hG hn hk ht hA hQ X
  subst hG hl
  have X : XC Z "NestedDeedsModel" prog_14_method_15_code (some .long) := X
  have hk0 : zk Z ≤ (zR Z).cells := hk ▸ Nat.zero_le _
  have ht0 : zt Z ≤ (zR Z).slots := ht ▸ Nat.zero_le _
  have hkd := hW.2.2.1 d hd
  obtain ⟨ix, hX⟩ := hx
  obtain ⟨g0, g1, g2, g3⟩ := hX
  obtain ⟨q1, q2, q3, q4, q5, q6, q7⟩ := g2 d hd
  have hT := hW.2.1
  have hN := hW.1
  have hln := tot_len hW hd
  have hpar : ∀ (k j : Nat), (ix d)[k]? = some j → j < 4000 ∧ gA σ 2 j < d ∧ gA σ 2 j < 1500 ∧ gA σ 2 j = (aP A d).getD k 0 ∧ gP σ 2 j = (ix d)[k + 1]? ∧ k < (aP A d).length := by
    intro k j hj
    obtain ⟨w1, w2, w3⟩ := q7 k j hj
    have hlt := (List.getElem?_eq_some_iff.mp hj).1
    have hp : (aP A d).getD k 0 < d := by
      rw [List.getD_eq_getElem?_getD, List.getElem?_eq_getElem (show k < (aP A d).length by omega)]; exact hW.lt (List.getElem_mem _)
    exact ⟨by omega, by omega, by omega, w2, w3, by omega⟩
  have LP : ∀ (m k : Nat), k + m = (aP A d).length → V Z (rw (zG Z) a σ) [(6, .int (oI ((ix d)[k]?))), (5, .int (nI k)), (4, .int (bI (lkT A d k))), (2, .long (vTk A d k)), (0, .ref (a 0)), (1, .int (nI d))] 37 [] := by
    intro m
    induction m with
    | zero =>
      intro k hkm
      have hkl : k = (aP A d).length := by omega
      have hno : (ix d)[k]? = none := List.getElem?_eq_none (by omega)
      refine V.eql (lv' := [(6, .int (-1)), (5, .int (nI k)), (4, .int (bI (lkT A d k))), (2, .long (vTk A d k)), (0, .ref (a 0)), (1, .int (nI d))]) (by rw [hno]; rfl) ?_
      refine V.iload X 0 dX12_byAll_37 rfl ?_
      refine V.iconst X (v := -1) dX12_byAll_39 (by decide) ?_
      refine V.icmp_eq X 264 dX12_byAll_40 (by decide) (fun c40 => ?_) (fun c40 => by exfalso; exact absurd rfl c40)
      refine V.aload_n X 4 dX12_byAll_264 rfl rfl ?_
      refine Vg_r_0_kind X tw_829 dX12_byAll_265 ?_
      refine V.iload_n X 5 dX12_byAll_268 rfl rfl ?_
      refine Va_r_kind (x := gA σ 0 d) X (by omega) dX12_byAll_269 rfl ?_
      refine V.bipush X (v := nI 9) dX12_byAll_270 (by decide) ?_
      refine V.icmp_neN X 288 dX12_byAll_272 (by decide) (by omega) (by decide) (fun c272 => ?_) (fun c272 => ?_)
      · refine V.aload_n X 4 dX12_byAll_288 rfl rfl ?_
        refine Vg_r_0_kind X tw_829 dX12_byAll_289 ?_
        refine V.iload_n X 5 dX12_byAll_292 rfl rfl ?_
        refine Va_r_kind (x := gA σ 0 d) X (by omega) dX12_byAll_293 rfl ?_
        refine V.bipush X (v := nI 11) dX12_byAll_294 (by decide) ?_
        refine V.icmp_neN X 317 dX12_byAll_296 (by decide) (by omega) (by decide) (fun c296 => ?_) (fun c296 => ?_)
        · refine V.lload_n X 3 dX12_byAll_317 rfl rfl ?_
          exact V.lret X rfl hA hk ht hQ rfl dX12_byAll_318 (⟨by rw [v_end (by omega) (by omega), hkl], rfl⟩)
        · refine V.aload_n X 4 dX12_byAll_299 rfl rfl ?_
          refine Vg_r_0_number X tw_830 dX12_byAll_300 ?_
          refine V.iload_n X 5 dX12_byAll_303 rfl rfl ?_
          refine Va_r_number (x := gJ σ 0 d) X (by omega) dX12_byAll_304 rfl ?_
          refine V.i2l X dX12_byAll_305 rfl ?_
          refine V.aload_n X 4 dX12_byAll_306 rfl rfl ?_
          refine Vg_r_0_partMany X tw_831 dX12_byAll_307 ?_
          refine V.iload_n X 5 dX12_byAll_310 rfl rfl ?_
          refine Va_r_partMany (x := gA σ 1 d) X (by omega) dX12_byAll_311 rfl ?_
          refine V.i2lN X dX12_byAll_312 (by omega) ?_
          refine V.ladd X dX12_byAll_313 ?_
          refine V.goto X 318 dX12_byAll_314 (by decide) ?_
          exact V.lret X rfl hA hk ht hQ rfl dX12_byAll_318 (⟨by rw [show aK A d = 11 by omega, wAcc_11, q2, q3], rfl⟩)
      · refine V.iload X 2 dX12_byAll_275 rfl ?_
        refine V.if_eqB X 284 dX12_byAll_277 (by decide) (fun c277 => ?_) (fun c277 => ?_)
        · refine V.lconst X (v := lN 0) dX12_byAll_284 (by decide) ?_
          refine V.goto X 318 dX12_byAll_285 (by decide) ?_
          exact V.lret X rfl hA hk ht hQ rfl dX12_byAll_318 (⟨by rw [show aK A d = 9 by omega, lk_end, if_neg (by rw [← hkl, c277]; decide)], rfl⟩)
        · refine V.lconst X (v := lN 1) dX12_byAll_280 (by decide) ?_
          refine V.goto X 318 dX12_byAll_281 (by decide) ?_
          exact V.lret X rfl hA hk ht hQ rfl dX12_byAll_318 (⟨by rw [show aK A d = 9 by omega, lk_end, if_pos (by rw [← hkl]; exact c277)], rfl⟩)
    | succ m ih =>
      intro k hkm
      obtain ⟨j, hj⟩ : ∃ j, (ix d)[k]? = some j := ⟨_, List.getElem?_eq_getElem (by omega)⟩
      obtain ⟨w1, w2, w3, w4, w5, w6⟩ := hpar k j hj
      have hp : (aP A d)[k]? = some (gA σ 2 j) := by rw [w4, List.getD_eq_getElem?_getD, List.getElem?_eq_getElem w6]; rfl
      have hwo := hw _ w2
      obtain ⟨j0, hj0⟩ : ∃ j0, (ix d)[0]? = some j0 := ⟨_, List.getElem?_eq_getElem (by omega)⟩
      obtain ⟨x1, x2, x3, x4, x5, x6⟩ := hpar 0 j0 hj0
      have hwo0 := hw _ x2
      have hls := lkT_s hp
      have hvs := vTk_s hp
      rw [q1.symm] at hvs
      refine V.eql (lv' := [(6, .int (nI j)), (5, .int (nI k)), (4, .int (bI (lkT A d k))), (2, .long (vTk A d k)), (0, .ref (a 0)), (1, .int (nI d))]) (by rw [hj]; rfl) ?_
      refine V.iload X 0 dX12_byAll_37 rfl ?_
      refine V.iconst X (v := -1) dX12_byAll_39 (by decide) ?_
      refine V.icmp_eq X 264 dX12_byAll_40 (by decide) (fun c40 => by exfalso; exact nI_nm1 (by omega) c40) (fun c40 => ?_)
      refine V.aload_n X 4 dX12_byAll_43 rfl rfl ?_
      refine Vg_r_0_worths X tw_844 dX12_byAll_44 ?_
      refine V.aload_n X 4 dX12_byAll_47 rfl rfl ?_
      refine Vg_r_0_partOf X tw_835 dX12_byAll_48 ?_
      refine V.iload X 0 dX12_byAll_51 rfl ?_
      refine Va_r_partOf (x := gA σ 2 j) X (by omega) dX12_byAll_53 rfl ?_
      refine Va_r_worths (x := gL σ 0 (gA σ 2 j)) X (by omega) dX12_byAll_54 rfl ?_
      refine V.topl (y := wo A (gA σ 2 j)) (by rw [hwo]) ?_
      refine V.lstore X (lv' := [(7, .long (wo A (gA σ 2 j))), (6, .int (nI j)), (5, .int (nI k)), (4, .int (bI (lkT A d k))), (2, .long (vTk A d k)), (0, .ref (a 0)), (1, .int (nI d))]) dX12_byAll_55 (ltn hn (by decide)) rfl ?_
      refine V.iload X 3 dX12_byAll_57 rfl ?_
      refine V.if_eqB X 88 dX12_byAll_59 (by decide) (fun c59 => ?_) (fun c59 => ?_)
      · refine V.iconst X (v := nI 0) dX12_byAll_88 (by decide) ?_
        refine V.topi (y := bI (lkT A d (k + 1))) (by rw [hls, c59]; rfl) ?_
        refine V.istore X (lv' := [(4, .int (bI (lkT A d (k + 1)))), (7, .long (wo A (gA σ 2 j))), (6, .int (nI j)), (5, .int (nI k)), (2, .long (vTk A d k)), (0, .ref (a 0)), (1, .int (nI d))]) dX12_byAll_89 (ltn hn (by decide)) rfl ?_
        refine V.aload_n X 5 dX12_byAll_91 rfl rfl ?_
        refine Vg_r_0_kind X tw_829 dX12_byAll_92 ?_
        refine V.iload_n X 6 dX12_byAll_95 rfl rfl ?_
        refine Va_r_kind (x := gA σ 0 d) X (by omega) dX12_byAll_96 rfl ?_
        rcases (show (gA σ 0 d) = 1 ∨ (gA σ 0 d) = 2 ∨ (gA σ 0 d) = 3 ∨ (gA σ 0 d) = 4 ∨ (gA σ 0 d) = 5 ∨ (gA σ 0 d) = 6 ∨ (gA σ 0 d) = 7 ∨ (gA σ 0 d) = 8 ∨ (gA σ 0 d) = 9 ∨ (gA σ 0 d) = 10 ∨ ((gA σ 0 d) ≠ 1 ∧ (gA σ 0 d) ≠ 2 ∧ (gA σ 0 d) ≠ 3 ∧ (gA σ 0 d) ≠ 4 ∧ (gA σ 0 d) ≠ 5 ∧ (gA σ 0 d) ≠ 6 ∧ (gA σ 0 d) ≠ 7 ∧ (gA σ 0 d) ≠ 8 ∧ (gA σ 0 d) ≠ 9 ∧ (gA σ 0 d) ≠ 10) by omega) with s97 | s97 | s97 | s97 | s97 | s97 | s97 | s97 | s97 | s97 | s97
        · refine V.topi (y := nI 1) (by rw [s97]) (V.tableIn X 152 dX12_byAll_97 (by decide) (by decide) rfl (by decide) ?_)
          refine V.lload_n X 4 dX12_byAll_152 rfl rfl ?_
          refine V.lload X 1 dX12_byAll_153 rfl ?_
          refine V.ladd X dX12_byAll_155 ?_
          refine V.lstore_n X (lv' := [(2, .long ((vTk A d k) + (wo A (gA σ 2 j)))), (4, .int (bI (lkT A d (k + 1)))), (7, .long (wo A (gA σ 2 j))), (6, .int (nI j)), (5, .int (nI k)), (0, .ref (a 0)), (1, .int (nI d))]) dX12_byAll_156 rfl (ltn hn (by decide)) rfl ?_
          refine V.goto X 249 dX12_byAll_157 (by decide) ?_
          have hst : vTk A d (k + 1) = (vTk A d k) + (wo A (gA σ 2 j)) := by rw [hvs, s97]; simp [wUp, q2]
          refine V.eql (lv' := [(2, .long (vTk A d (k + 1))), (4, .int (bI (lkT A d (k + 1)))), (7, .long (wo A (gA σ 2 j))), (6, .int (nI j)), (5, .int (nI k)), (0, .ref (a 0)), (1, .int (nI d))]) (by rw [hst]) ?_
          refine V.iinc X (v := nI (k + 1)) (lv' := [(5, .int (nI (k + 1))), (2, .long (vTk A d (k + 1))), (4, .int (bI (lkT A d (k + 1)))), (7, .long (wo A (gA σ 2 j))), (6, .int (nI j)), (0, .ref (a 0)), (1, .int (nI d))]) (k0 := 4) dX12_byAll_249 rfl (inc_1 _) (ltn hn (by decide)) rfl ?_
          refine V.aload_n X 5 dX12_byAll_252 rfl rfl ?_
          refine Vg_r_0_nextPart X tw_836 dX12_byAll_253 ?_
          refine V.iload X 4 dX12_byAll_256 rfl ?_
          refine Va_r_nextPart (x := gP σ 2 j) X (by omega) dX12_byAll_258 rfl ?_
          refine V.topi (y := oI (ix d)[k + 1]?) (by rw [w5]) ?_
          refine V.istore X (lv' := [(6, .int (oI ((ix d)[k + 1]?))), (5, .int (nI (k + 1))), (2, .long (vTk A d (k + 1))), (4, .int (bI (lkT A d (k + 1)))), (7, .long (wo A (gA σ 2 j))), (0, .ref (a 0)), (1, .int (nI d))]) dX12_byAll_259 (ltn hn (by decide)) rfl ?_
          refine V.goto X 37 dX12_byAll_261 (by decide) ?_
          exact V.sub [0, 1, 3, 2, 5, 6] rfl (ih (k + 1) (by omega))
        · refine V.topi (y := nI 2) (by rw [s97]) (V.tableIn X 160 dX12_byAll_97 (by decide) (by decide) rfl (by decide) ?_)
          refine V.lload_n X 4 dX12_byAll_160 rfl rfl ?_
          refine V.lload X 1 dX12_byAll_161 rfl ?_
          refine V.lmul X dX12_byAll_163 ?_
          refine V.lstore_n X (lv' := [(2, .long ((vTk A d k) * (wo A (gA σ 2 j)))), (4, .int (bI (lkT A d (k + 1)))), (7, .long (wo A (gA σ 2 j))), (6, .int (nI j)), (5, .int (nI k)), (0, .ref (a 0)), (1, .int (nI d))]) dX12_byAll_164 rfl (ltn hn (by decide)) rfl ?_
          refine V.goto X 249 dX12_byAll_165 (by decide) ?_
          have hst : vTk A d (k + 1) = (vTk A d k) * (wo A (gA σ 2 j)) := by rw [hvs, s97]; simp [wUp, q2]
          refine V.eql (lv' := [(2, .long (vTk A d (k + 1))), (4, .int (bI (lkT A d (k + 1)))), (7, .long (wo A (gA σ 2 j))), (6, .int (nI j)), (5, .int (nI k)), (0, .ref (a 0)), (1, .int (nI d))]) (by rw [hst]) ?_
          refine V.iinc X (v := nI (k + 1)) (lv' := [(5, .int (nI (k + 1))), (2, .long (vTk A d (k + 1))), (4, .int (bI (lkT A d (k + 1)))), (7, .long (wo A (gA σ 2 j))), (6, .int (nI j)), (0, .ref (a 0)), (1, .int (nI d))]) (k0 := 4) dX12_byAll_249 rfl (inc_1 _) (ltn hn (by decide)) rfl ?_
          refine V.aload_n X 5 dX12_byAll_252 rfl rfl ?_
          refine Vg_r_0_nextPart X tw_836 dX12_byAll_253 ?_
          refine V.iload X 4 dX12_byAll_256 rfl ?_
          refine Va_r_nextPart (x := gP σ 2 j) X (by omega) dX12_byAll_258 rfl ?_
          refine V.topi (y := oI (ix d)[k + 1]?) (by rw [w5]) ?_
          refine V.istore X (lv' := [(6, .int (oI ((ix d)[k + 1]?))), (5, .int (nI (k + 1))), (2, .long (vTk A d (k + 1))), (4, .int (bI (lkT A d (k + 1)))), (7, .long (wo A (gA σ 2 j))), (0, .ref (a 0)), (1, .int (nI d))]) dX12_byAll_259 (ltn hn (by decide)) rfl ?_
          refine V.goto X 37 dX12_byAll_261 (by decide) ?_
          exact V.sub [0, 1, 3, 2, 5, 6] rfl (ih (k + 1) (by omega))
        · refine V.topi (y := nI 3) (by rw [s97]) (V.tableIn X 168 dX12_byAll_97 (by decide) (by decide) rfl (by decide) ?_)
          refine V.iload X 3 dX12_byAll_168 rfl ?_
          refine V.if_neN X 178 dX12_byAll_170 (by decide) (by omega) (fun c170 => ?_) (fun c170 => ?_)
          · refine V.lload_n X 4 dX12_byAll_178 rfl rfl ?_
            refine V.lload X 1 dX12_byAll_179 rfl ?_
            refine V.lsub X dX12_byAll_181 ?_
            refine V.lstore_n X (lv' := [(2, .long ((vTk A d k) - (wo A (gA σ 2 j)))), (4, .int (bI (lkT A d (k + 1)))), (7, .long (wo A (gA σ 2 j))), (6, .int (nI j)), (5, .int (nI k)), (0, .ref (a 0)), (1, .int (nI d))]) dX12_byAll_182 rfl (ltn hn (by decide)) rfl ?_
            refine V.goto X 249 dX12_byAll_183 (by decide) ?_
            have hst : vTk A d (k + 1) = (vTk A d k) - (wo A (gA σ 2 j)) := by rw [hvs, s97]; simp [wUp, c170]
            refine V.eql (lv' := [(2, .long (vTk A d (k + 1))), (4, .int (bI (lkT A d (k + 1)))), (7, .long (wo A (gA σ 2 j))), (6, .int (nI j)), (5, .int (nI k)), (0, .ref (a 0)), (1, .int (nI d))]) (by rw [hst]) ?_
            refine V.iinc X (v := nI (k + 1)) (lv' := [(5, .int (nI (k + 1))), (2, .long (vTk A d (k + 1))), (4, .int (bI (lkT A d (k + 1)))), (7, .long (wo A (gA σ 2 j))), (6, .int (nI j)), (0, .ref (a 0)), (1, .int (nI d))]) (k0 := 4) dX12_byAll_249 rfl (inc_1 _) (ltn hn (by decide)) rfl ?_
            refine V.aload_n X 5 dX12_byAll_252 rfl rfl ?_
            refine Vg_r_0_nextPart X tw_836 dX12_byAll_253 ?_
            refine V.iload X 4 dX12_byAll_256 rfl ?_
            refine Va_r_nextPart (x := gP σ 2 j) X (by omega) dX12_byAll_258 rfl ?_
            refine V.topi (y := oI (ix d)[k + 1]?) (by rw [w5]) ?_
            refine V.istore X (lv' := [(6, .int (oI ((ix d)[k + 1]?))), (5, .int (nI (k + 1))), (2, .long (vTk A d (k + 1))), (4, .int (bI (lkT A d (k + 1)))), (7, .long (wo A (gA σ 2 j))), (0, .ref (a 0)), (1, .int (nI d))]) dX12_byAll_259 (ltn hn (by decide)) rfl ?_
            refine V.goto X 37 dX12_byAll_261 (by decide) ?_
            exact V.sub [0, 1, 3, 2, 5, 6] rfl (ih (k + 1) (by omega))
          · refine V.lload X 1 dX12_byAll_173 rfl ?_
            refine V.goto X 182 dX12_byAll_175 (by decide) ?_
            refine V.lstore_n X (lv' := [(2, .long (wo A (gA σ 2 j))), (4, .int (bI (lkT A d (k + 1)))), (7, .long (wo A (gA σ 2 j))), (6, .int (nI j)), (5, .int (nI k)), (0, .ref (a 0)), (1, .int (nI d))]) dX12_byAll_182 rfl (ltn hn (by decide)) rfl ?_
            refine V.goto X 249 dX12_byAll_183 (by decide) ?_
            have hst : vTk A d (k + 1) = wo A (gA σ 2 j) := by rw [hvs, s97]; simp [wUp, c170]
            refine V.eql (lv' := [(2, .long (vTk A d (k + 1))), (4, .int (bI (lkT A d (k + 1)))), (7, .long (wo A (gA σ 2 j))), (6, .int (nI j)), (5, .int (nI k)), (0, .ref (a 0)), (1, .int (nI d))]) (by rw [hst]) ?_
            refine V.iinc X (v := nI (k + 1)) (lv' := [(5, .int (nI (k + 1))), (2, .long (vTk A d (k + 1))), (4, .int (bI (lkT A d (k + 1)))), (7, .long (wo A (gA σ 2 j))), (6, .int (nI j)), (0, .ref (a 0)), (1, .int (nI d))]) (k0 := 4) dX12_byAll_249 rfl (inc_1 _) (ltn hn (by decide)) rfl ?_
            refine V.aload_n X 5 dX12_byAll_252 rfl rfl ?_
            refine Vg_r_0_nextPart X tw_836 dX12_byAll_253 ?_
            refine V.iload X 4 dX12_byAll_256 rfl ?_
            refine Va_r_nextPart (x := gP σ 2 j) X (by omega) dX12_byAll_258 rfl ?_
            refine V.topi (y := oI (ix d)[k + 1]?) (by rw [w5]) ?_
            refine V.istore X (lv' := [(6, .int (oI ((ix d)[k + 1]?))), (5, .int (nI (k + 1))), (2, .long (vTk A d (k + 1))), (4, .int (bI (lkT A d (k + 1)))), (7, .long (wo A (gA σ 2 j))), (0, .ref (a 0)), (1, .int (nI d))]) dX12_byAll_259 (ltn hn (by decide)) rfl ?_
            refine V.goto X 37 dX12_byAll_261 (by decide) ?_
            exact V.sub [0, 1, 3, 2, 5, 6] rfl (ih (k + 1) (by omega))
        · refine V.topi (y := nI 4) (by rw [s97]) (V.tableIn X 186 dX12_byAll_97 (by decide) (by decide) rfl (by decide) ?_)
          refine V.lload X 1 dX12_byAll_186 rfl ?_
          refine V.lload_n X 4 dX12_byAll_188 rfl rfl ?_
          refine V.lif_le X 198 dX12_byAll_189 dX12_byAll_190 (by decide) (fun c189 => ?_) (fun c189 => ?_)
          · refine V.lload_n X 4 dX12_byAll_198 rfl rfl ?_
            refine V.lstore_n X (lv' := [(2, .long (vTk A d k)), (4, .int (bI (lkT A d (k + 1)))), (7, .long (wo A (gA σ 2 j))), (6, .int (nI j)), (5, .int (nI k)), (0, .ref (a 0)), (1, .int (nI d))]) dX12_byAll_199 rfl (ltn hn (by decide)) rfl ?_
            refine V.goto X 249 dX12_byAll_200 (by decide) ?_
            have hst : vTk A d (k + 1) = vTk A d k := by rw [hvs, s97]; simp only [wUp]; rw [if_neg (by decide), if_neg (by decide), if_neg (by decide), if_pos trivial, if_neg (Int64.not_lt.mpr c189)]
            refine V.eql (lv' := [(2, .long (vTk A d (k + 1))), (4, .int (bI (lkT A d (k + 1)))), (7, .long (wo A (gA σ 2 j))), (6, .int (nI j)), (5, .int (nI k)), (0, .ref (a 0)), (1, .int (nI d))]) (by rw [hst]) ?_
            refine V.iinc X (v := nI (k + 1)) (lv' := [(5, .int (nI (k + 1))), (2, .long (vTk A d (k + 1))), (4, .int (bI (lkT A d (k + 1)))), (7, .long (wo A (gA σ 2 j))), (6, .int (nI j)), (0, .ref (a 0)), (1, .int (nI d))]) (k0 := 4) dX12_byAll_249 rfl (inc_1 _) (ltn hn (by decide)) rfl ?_
            refine V.aload_n X 5 dX12_byAll_252 rfl rfl ?_
            refine Vg_r_0_nextPart X tw_836 dX12_byAll_253 ?_
            refine V.iload X 4 dX12_byAll_256 rfl ?_
            refine Va_r_nextPart (x := gP σ 2 j) X (by omega) dX12_byAll_258 rfl ?_
            refine V.topi (y := oI (ix d)[k + 1]?) (by rw [w5]) ?_
            refine V.istore X (lv' := [(6, .int (oI ((ix d)[k + 1]?))), (5, .int (nI (k + 1))), (2, .long (vTk A d (k + 1))), (4, .int (bI (lkT A d (k + 1)))), (7, .long (wo A (gA σ 2 j))), (0, .ref (a 0)), (1, .int (nI d))]) dX12_byAll_259 (ltn hn (by decide)) rfl ?_
            refine V.goto X 37 dX12_byAll_261 (by decide) ?_
            exact V.sub [0, 1, 3, 2, 5, 6] rfl (ih (k + 1) (by omega))
          · refine V.lload X 1 dX12_byAll_193 rfl ?_
            refine V.goto X 199 dX12_byAll_195 (by decide) ?_
            refine V.lstore_n X (lv' := [(2, .long (wo A (gA σ 2 j))), (4, .int (bI (lkT A d (k + 1)))), (7, .long (wo A (gA σ 2 j))), (6, .int (nI j)), (5, .int (nI k)), (0, .ref (a 0)), (1, .int (nI d))]) dX12_byAll_199 rfl (ltn hn (by decide)) rfl ?_
            refine V.goto X 249 dX12_byAll_200 (by decide) ?_
            have hst : vTk A d (k + 1) = wo A (gA σ 2 j) := by rw [hvs, s97]; simp only [wUp]; rw [if_neg (by decide), if_neg (by decide), if_neg (by decide), if_pos trivial, if_pos (Int64.not_le.mp c189)]
            refine V.eql (lv' := [(2, .long (vTk A d (k + 1))), (4, .int (bI (lkT A d (k + 1)))), (7, .long (wo A (gA σ 2 j))), (6, .int (nI j)), (5, .int (nI k)), (0, .ref (a 0)), (1, .int (nI d))]) (by rw [hst]) ?_
            refine V.iinc X (v := nI (k + 1)) (lv' := [(5, .int (nI (k + 1))), (2, .long (vTk A d (k + 1))), (4, .int (bI (lkT A d (k + 1)))), (7, .long (wo A (gA σ 2 j))), (6, .int (nI j)), (0, .ref (a 0)), (1, .int (nI d))]) (k0 := 4) dX12_byAll_249 rfl (inc_1 _) (ltn hn (by decide)) rfl ?_
            refine V.aload_n X 5 dX12_byAll_252 rfl rfl ?_
            refine Vg_r_0_nextPart X tw_836 dX12_byAll_253 ?_
            refine V.iload X 4 dX12_byAll_256 rfl ?_
            refine Va_r_nextPart (x := gP σ 2 j) X (by omega) dX12_byAll_258 rfl ?_
            refine V.topi (y := oI (ix d)[k + 1]?) (by rw [w5]) ?_
            refine V.istore X (lv' := [(6, .int (oI ((ix d)[k + 1]?))), (5, .int (nI (k + 1))), (2, .long (vTk A d (k + 1))), (4, .int (bI (lkT A d (k + 1)))), (7, .long (wo A (gA σ 2 j))), (0, .ref (a 0)), (1, .int (nI d))]) dX12_byAll_259 (ltn hn (by decide)) rfl ?_
            refine V.goto X 37 dX12_byAll_261 (by decide) ?_
            exact V.sub [0, 1, 3, 2, 5, 6] rfl (ih (k + 1) (by omega))
        · refine V.topi (y := nI 5) (by rw [s97]) (V.tableIn X 203 dX12_byAll_97 (by decide) (by decide) rfl (by decide) ?_)
          refine V.lload X 1 dX12_byAll_203 rfl ?_
          refine V.lload_n X 4 dX12_byAll_205 rfl rfl ?_
          refine V.lif_ge X 215 dX12_byAll_206 dX12_byAll_207 (by decide) (fun c206 => ?_) (fun c206 => ?_)
          · refine V.lload_n X 4 dX12_byAll_215 rfl rfl ?_
            refine V.lstore_n X (lv' := [(2, .long (vTk A d k)), (4, .int (bI (lkT A d (k + 1)))), (7, .long (wo A (gA σ 2 j))), (6, .int (nI j)), (5, .int (nI k)), (0, .ref (a 0)), (1, .int (nI d))]) dX12_byAll_216 rfl (ltn hn (by decide)) rfl ?_
            refine V.goto X 249 dX12_byAll_217 (by decide) ?_
            have hst : vTk A d (k + 1) = vTk A d k := by rw [hvs, s97]; simp only [wUp]; rw [if_neg (by decide), if_neg (by decide), if_neg (by decide), if_neg (by decide), if_pos trivial, if_neg (Int64.not_lt.mpr c206)]
            refine V.eql (lv' := [(2, .long (vTk A d (k + 1))), (4, .int (bI (lkT A d (k + 1)))), (7, .long (wo A (gA σ 2 j))), (6, .int (nI j)), (5, .int (nI k)), (0, .ref (a 0)), (1, .int (nI d))]) (by rw [hst]) ?_
            refine V.iinc X (v := nI (k + 1)) (lv' := [(5, .int (nI (k + 1))), (2, .long (vTk A d (k + 1))), (4, .int (bI (lkT A d (k + 1)))), (7, .long (wo A (gA σ 2 j))), (6, .int (nI j)), (0, .ref (a 0)), (1, .int (nI d))]) (k0 := 4) dX12_byAll_249 rfl (inc_1 _) (ltn hn (by decide)) rfl ?_
            refine V.aload_n X 5 dX12_byAll_252 rfl rfl ?_
            refine Vg_r_0_nextPart X tw_836 dX12_byAll_253 ?_
            refine V.iload X 4 dX12_byAll_256 rfl ?_
            refine Va_r_nextPart (x := gP σ 2 j) X (by omega) dX12_byAll_258 rfl ?_
            refine V.topi (y := oI (ix d)[k + 1]?) (by rw [w5]) ?_
            refine V.istore X (lv' := [(6, .int (oI ((ix d)[k + 1]?))), (5, .int (nI (k + 1))), (2, .long (vTk A d (k + 1))), (4, .int (bI (lkT A d (k + 1)))), (7, .long (wo A (gA σ 2 j))), (0, .ref (a 0)), (1, .int (nI d))]) dX12_byAll_259 (ltn hn (by decide)) rfl ?_
            refine V.goto X 37 dX12_byAll_261 (by decide) ?_
            exact V.sub [0, 1, 3, 2, 5, 6] rfl (ih (k + 1) (by omega))
          · refine V.lload X 1 dX12_byAll_210 rfl ?_
            refine V.goto X 216 dX12_byAll_212 (by decide) ?_
            refine V.lstore_n X (lv' := [(2, .long (wo A (gA σ 2 j))), (4, .int (bI (lkT A d (k + 1)))), (7, .long (wo A (gA σ 2 j))), (6, .int (nI j)), (5, .int (nI k)), (0, .ref (a 0)), (1, .int (nI d))]) dX12_byAll_216 rfl (ltn hn (by decide)) rfl ?_
            refine V.goto X 249 dX12_byAll_217 (by decide) ?_
            have hst : vTk A d (k + 1) = wo A (gA σ 2 j) := by rw [hvs, s97]; simp only [wUp]; rw [if_neg (by decide), if_neg (by decide), if_neg (by decide), if_neg (by decide), if_pos trivial, if_pos (Int64.not_le.mp c206)]
            refine V.eql (lv' := [(2, .long (vTk A d (k + 1))), (4, .int (bI (lkT A d (k + 1)))), (7, .long (wo A (gA σ 2 j))), (6, .int (nI j)), (5, .int (nI k)), (0, .ref (a 0)), (1, .int (nI d))]) (by rw [hst]) ?_
            refine V.iinc X (v := nI (k + 1)) (lv' := [(5, .int (nI (k + 1))), (2, .long (vTk A d (k + 1))), (4, .int (bI (lkT A d (k + 1)))), (7, .long (wo A (gA σ 2 j))), (6, .int (nI j)), (0, .ref (a 0)), (1, .int (nI d))]) (k0 := 4) dX12_byAll_249 rfl (inc_1 _) (ltn hn (by decide)) rfl ?_
            refine V.aload_n X 5 dX12_byAll_252 rfl rfl ?_
            refine Vg_r_0_nextPart X tw_836 dX12_byAll_253 ?_
            refine V.iload X 4 dX12_byAll_256 rfl ?_
            refine Va_r_nextPart (x := gP σ 2 j) X (by omega) dX12_byAll_258 rfl ?_
            refine V.topi (y := oI (ix d)[k + 1]?) (by rw [w5]) ?_
            refine V.istore X (lv' := [(6, .int (oI ((ix d)[k + 1]?))), (5, .int (nI (k + 1))), (2, .long (vTk A d (k + 1))), (4, .int (bI (lkT A d (k + 1)))), (7, .long (wo A (gA σ 2 j))), (0, .ref (a 0)), (1, .int (nI d))]) dX12_byAll_259 (ltn hn (by decide)) rfl ?_
            refine V.goto X 37 dX12_byAll_261 (by decide) ?_
            exact V.sub [0, 1, 3, 2, 5, 6] rfl (ih (k + 1) (by omega))
        · refine V.topi (y := nI 6) (by rw [s97]) (V.tableIn X 220 dX12_byAll_97 (by decide) (by decide) rfl (by decide) ?_)
          refine V.lload_n X 4 dX12_byAll_220 rfl rfl ?_
          refine V.aload_n X 5 dX12_byAll_221 rfl rfl ?_
          refine Vg_r_0_number X tw_830 dX12_byAll_222 ?_
          refine V.iload_n X 6 dX12_byAll_225 rfl rfl ?_
          refine Va_r_number (x := gJ σ 0 d) X (by omega) dX12_byAll_226 rfl ?_
          refine V.i2l X dX12_byAll_227 rfl ?_
          refine V.lmul X dX12_byAll_228 ?_
          refine V.lload X 1 dX12_byAll_229 rfl ?_
          refine V.ladd X dX12_byAll_231 ?_
          refine V.lstore_n X (lv' := [(2, .long (((vTk A d k) * (Int32.toInt64 (gJ σ 0 d))) + (wo A (gA σ 2 j)))), (4, .int (bI (lkT A d (k + 1)))), (7, .long (wo A (gA σ 2 j))), (6, .int (nI j)), (5, .int (nI k)), (0, .ref (a 0)), (1, .int (nI d))]) dX12_byAll_232 rfl (ltn hn (by decide)) rfl ?_
          refine V.goto X 249 dX12_byAll_233 (by decide) ?_
          have hst : vTk A d (k + 1) = ((vTk A d k) * (Int32.toInt64 (gJ σ 0 d))) + (wo A (gA σ 2 j)) := by rw [hvs, s97]; simp [wUp, q2]
          refine V.eql (lv' := [(2, .long (vTk A d (k + 1))), (4, .int (bI (lkT A d (k + 1)))), (7, .long (wo A (gA σ 2 j))), (6, .int (nI j)), (5, .int (nI k)), (0, .ref (a 0)), (1, .int (nI d))]) (by rw [hst]) ?_
          refine V.iinc X (v := nI (k + 1)) (lv' := [(5, .int (nI (k + 1))), (2, .long (vTk A d (k + 1))), (4, .int (bI (lkT A d (k + 1)))), (7, .long (wo A (gA σ 2 j))), (6, .int (nI j)), (0, .ref (a 0)), (1, .int (nI d))]) (k0 := 4) dX12_byAll_249 rfl (inc_1 _) (ltn hn (by decide)) rfl ?_
          refine V.aload_n X 5 dX12_byAll_252 rfl rfl ?_
          refine Vg_r_0_nextPart X tw_836 dX12_byAll_253 ?_
          refine V.iload X 4 dX12_byAll_256 rfl ?_
          refine Va_r_nextPart (x := gP σ 2 j) X (by omega) dX12_byAll_258 rfl ?_
          refine V.topi (y := oI (ix d)[k + 1]?) (by rw [w5]) ?_
          refine V.istore X (lv' := [(6, .int (oI ((ix d)[k + 1]?))), (5, .int (nI (k + 1))), (2, .long (vTk A d (k + 1))), (4, .int (bI (lkT A d (k + 1)))), (7, .long (wo A (gA σ 2 j))), (0, .ref (a 0)), (1, .int (nI d))]) dX12_byAll_259 (ltn hn (by decide)) rfl ?_
          refine V.goto X 37 dX12_byAll_261 (by decide) ?_
          exact V.sub [0, 1, 3, 2, 5, 6] rfl (ih (k + 1) (by omega))
        · refine V.topi (y := nI 7) (by rw [s97]) (V.tableIn X 249 dX12_byAll_97 (by decide) (by decide) rfl (by decide) ?_)
          exact absurd (q1.symm.trans s97) hk7
        · refine V.topi (y := nI 8) (by rw [s97]) (V.tableIn X 249 dX12_byAll_97 (by decide) (by decide) rfl (by decide) ?_)
          exact absurd (q1.symm.trans s97) hk8
        · refine V.topi (y := nI 9) (by rw [s97]) (V.tableIn X 249 dX12_byAll_97 (by decide) (by decide) rfl (by decide) ?_)
          have hst : vTk A d (k + 1) = vTk A d k := by rw [hvs, s97]; simp [wUp, q2]
          refine V.eql (lv' := [(4, .int (bI (lkT A d (k + 1)))), (7, .long (wo A (gA σ 2 j))), (6, .int (nI j)), (5, .int (nI k)), (2, .long (vTk A d (k + 1))), (0, .ref (a 0)), (1, .int (nI d))]) (by rw [hst]) ?_
          refine V.iinc X (v := nI (k + 1)) (lv' := [(5, .int (nI (k + 1))), (4, .int (bI (lkT A d (k + 1)))), (7, .long (wo A (gA σ 2 j))), (6, .int (nI j)), (2, .long (vTk A d (k + 1))), (0, .ref (a 0)), (1, .int (nI d))]) (k0 := 3) dX12_byAll_249 rfl (inc_1 _) (ltn hn (by decide)) rfl ?_
          refine V.aload_n X 5 dX12_byAll_252 rfl rfl ?_
          refine Vg_r_0_nextPart X tw_836 dX12_byAll_253 ?_
          refine V.iload X 3 dX12_byAll_256 rfl ?_
          refine Va_r_nextPart (x := gP σ 2 j) X (by omega) dX12_byAll_258 rfl ?_
          refine V.topi (y := oI (ix d)[k + 1]?) (by rw [w5]) ?_
          refine V.istore X (lv' := [(6, .int (oI ((ix d)[k + 1]?))), (5, .int (nI (k + 1))), (4, .int (bI (lkT A d (k + 1)))), (7, .long (wo A (gA σ 2 j))), (2, .long (vTk A d (k + 1))), (0, .ref (a 0)), (1, .int (nI d))]) dX12_byAll_259 (ltn hn (by decide)) rfl ?_
          refine V.goto X 37 dX12_byAll_261 (by decide) ?_
          exact V.sub [0, 1, 2, 4, 5, 6] rfl (ih (k + 1) (by omega))
        · refine V.topi (y := nI 10) (by rw [s97]) (V.tableIn X 236 dX12_byAll_97 (by decide) (by decide) rfl (by decide) ?_)
          refine V.lload_n X 4 dX12_byAll_236 rfl rfl ?_
          refine V.lload X 1 dX12_byAll_237 rfl ?_
          refine V.iload X 3 dX12_byAll_239 rfl ?_
          refine V.callS X rfl (k_turned (zl Z) (zG Z) (rw (zG Z) a σ) (wo A (gA σ 2 j)) k (by omega)) cs_X12_118 rfl (len hRf (by decide)) (len hRl (by decide)) hk0 ht0 [.long (vTk A d k)] rfl (Nat.le_of_ble_eq_true rfl) dX12_byAll_241 ?_
          rintro _ _ ⟨rfl, rfl⟩
          refine V.eqs (st' := [.long (rotL (wo A (gA σ 2 j)) (k % 64)), .long (vTk A d k)]) rfl ?_
          refine V.lxor X dX12_byAll_244 ?_
          refine V.lstore_n X (lv' := [(2, .long ((vTk A d k) ^^^ (rotL (wo A (gA σ 2 j)) (k % 64)))), (4, .int (bI (lkT A d (k + 1)))), (7, .long (wo A (gA σ 2 j))), (6, .int (nI j)), (5, .int (nI k)), (0, .ref (a 0)), (1, .int (nI d))]) dX12_byAll_245 rfl (ltn hn (by decide)) rfl ?_
          refine V.goto X 249 dX12_byAll_246 (by decide) ?_
          have hst : vTk A d (k + 1) = (vTk A d k) ^^^ (rotL (wo A (gA σ 2 j)) (k % 64)) := by rw [hvs, s97]; simp [wUp, q2]
          refine V.eql (lv' := [(2, .long (vTk A d (k + 1))), (4, .int (bI (lkT A d (k + 1)))), (7, .long (wo A (gA σ 2 j))), (6, .int (nI j)), (5, .int (nI k)), (0, .ref (a 0)), (1, .int (nI d))]) (by rw [hst]) ?_
          refine V.iinc X (v := nI (k + 1)) (lv' := [(5, .int (nI (k + 1))), (2, .long (vTk A d (k + 1))), (4, .int (bI (lkT A d (k + 1)))), (7, .long (wo A (gA σ 2 j))), (6, .int (nI j)), (0, .ref (a 0)), (1, .int (nI d))]) (k0 := 4) dX12_byAll_249 rfl (inc_1 _) (ltn hn (by decide)) rfl ?_
          refine V.aload_n X 5 dX12_byAll_252 rfl rfl ?_
          refine Vg_r_0_nextPart X tw_836 dX12_byAll_253 ?_
          refine V.iload X 4 dX12_byAll_256 rfl ?_
          refine Va_r_nextPart (x := gP σ 2 j) X (by omega) dX12_byAll_258 rfl ?_
          refine V.topi (y := oI (ix d)[k + 1]?) (by rw [w5]) ?_
          refine V.istore X (lv' := [(6, .int (oI ((ix d)[k + 1]?))), (5, .int (nI (k + 1))), (2, .long (vTk A d (k + 1))), (4, .int (bI (lkT A d (k + 1)))), (7, .long (wo A (gA σ 2 j))), (0, .ref (a 0)), (1, .int (nI d))]) dX12_byAll_259 (ltn hn (by decide)) rfl ?_
          refine V.goto X 37 dX12_byAll_261 (by decide) ?_
          exact V.sub [0, 1, 3, 2, 5, 6] rfl (ih (k + 1) (by omega))
        · refine V.tabOutN X 249 dX12_byAll_97 (by omega) (by omega) (by decide) ?_
          have hst : vTk A d (k + 1) = vTk A d k := by rw [hvs]; simp only [wUp]; rw [if_neg (by omega), if_neg (by omega), if_neg (by omega), if_neg (by omega), if_neg (by omega), if_neg (by omega), if_neg (by omega), if_neg (by omega), if_neg (by omega)]
          refine V.eql (lv' := [(4, .int (bI (lkT A d (k + 1)))), (7, .long (wo A (gA σ 2 j))), (6, .int (nI j)), (5, .int (nI k)), (2, .long (vTk A d (k + 1))), (0, .ref (a 0)), (1, .int (nI d))]) (by rw [hst]) ?_
          refine V.iinc X (v := nI (k + 1)) (lv' := [(5, .int (nI (k + 1))), (4, .int (bI (lkT A d (k + 1)))), (7, .long (wo A (gA σ 2 j))), (6, .int (nI j)), (2, .long (vTk A d (k + 1))), (0, .ref (a 0)), (1, .int (nI d))]) (k0 := 3) dX12_byAll_249 rfl (inc_1 _) (ltn hn (by decide)) rfl ?_
          refine V.aload_n X 5 dX12_byAll_252 rfl rfl ?_
          refine Vg_r_0_nextPart X tw_836 dX12_byAll_253 ?_
          refine V.iload X 3 dX12_byAll_256 rfl ?_
          refine Va_r_nextPart (x := gP σ 2 j) X (by omega) dX12_byAll_258 rfl ?_
          refine V.topi (y := oI (ix d)[k + 1]?) (by rw [w5]) ?_
          refine V.istore X (lv' := [(6, .int (oI ((ix d)[k + 1]?))), (5, .int (nI (k + 1))), (4, .int (bI (lkT A d (k + 1)))), (7, .long (wo A (gA σ 2 j))), (2, .long (vTk A d (k + 1))), (0, .ref (a 0)), (1, .int (nI d))]) dX12_byAll_259 (ltn hn (by decide)) rfl ?_
          refine V.goto X 37 dX12_byAll_261 (by decide) ?_
          exact V.sub [0, 1, 2, 4, 5, 6] rfl (ih (k + 1) (by omega))
      · refine V.lload X 0 dX12_byAll_62 rfl ?_
        refine V.aload_n X 5 dX12_byAll_64 rfl rfl ?_
        refine Vg_r_0_worths X tw_844 dX12_byAll_65 ?_
        refine V.aload_n X 5 dX12_byAll_68 rfl rfl ?_
        refine Vg_r_0_partOf X tw_835 dX12_byAll_69 ?_
        refine V.aload_n X 5 dX12_byAll_72 rfl rfl ?_
        refine Vg_r_0_firstPart X tw_832 dX12_byAll_73 ?_
        refine V.iload_n X 6 dX12_byAll_76 rfl rfl ?_
        refine Va_r_firstPart (x := gP σ 0 d) X (by omega) dX12_byAll_77 rfl ?_
        refine V.topi (y := nI j0) (by rw [q5, hj0]; rfl) ?_
        refine Va_r_partOf (x := gA σ 2 j0) X (by omega) dX12_byAll_78 rfl ?_
        refine Va_r_worths (x := gL σ 0 (gA σ 2 j0)) X (by omega) dX12_byAll_79 rfl ?_
        refine V.topl (y := wo A ((aP A d).getD 0 0)) (by rw [hwo0, x4]) ?_
        refine V.lif_ne X 88 dX12_byAll_80 dX12_byAll_81 (by decide) (fun c80 => ?_) (fun c80 => ?_)
        · refine V.iconst X (v := nI 0) dX12_byAll_88 (by decide) ?_
          refine V.topi (y := bI (lkT A d (k + 1))) (by rw [hls, c59, decide_eq_false (show ¬ wo A (gA σ 2 j) = wo A ((aP A d).getD 0 0) from c80)]; rfl) ?_
          refine V.istore X (lv' := [(4, .int (bI (lkT A d (k + 1)))), (7, .long (wo A (gA σ 2 j))), (6, .int (nI j)), (5, .int (nI k)), (2, .long (vTk A d k)), (0, .ref (a 0)), (1, .int (nI d))]) dX12_byAll_89 (ltn hn (by decide)) rfl ?_
          refine V.aload_n X 5 dX12_byAll_91 rfl rfl ?_
          refine Vg_r_0_kind X tw_829 dX12_byAll_92 ?_
          refine V.iload_n X 6 dX12_byAll_95 rfl rfl ?_
          refine Va_r_kind (x := gA σ 0 d) X (by omega) dX12_byAll_96 rfl ?_
          rcases (show (gA σ 0 d) = 1 ∨ (gA σ 0 d) = 2 ∨ (gA σ 0 d) = 3 ∨ (gA σ 0 d) = 4 ∨ (gA σ 0 d) = 5 ∨ (gA σ 0 d) = 6 ∨ (gA σ 0 d) = 7 ∨ (gA σ 0 d) = 8 ∨ (gA σ 0 d) = 9 ∨ (gA σ 0 d) = 10 ∨ ((gA σ 0 d) ≠ 1 ∧ (gA σ 0 d) ≠ 2 ∧ (gA σ 0 d) ≠ 3 ∧ (gA σ 0 d) ≠ 4 ∧ (gA σ 0 d) ≠ 5 ∧ (gA σ 0 d) ≠ 6 ∧ (gA σ 0 d) ≠ 7 ∧ (gA σ 0 d) ≠ 8 ∧ (gA σ 0 d) ≠ 9 ∧ (gA σ 0 d) ≠ 10) by omega) with s97 | s97 | s97 | s97 | s97 | s97 | s97 | s97 | s97 | s97 | s97
          · refine V.topi (y := nI 1) (by rw [s97]) (V.tableIn X 152 dX12_byAll_97 (by decide) (by decide) rfl (by decide) ?_)
            refine V.lload_n X 4 dX12_byAll_152 rfl rfl ?_
            refine V.lload X 1 dX12_byAll_153 rfl ?_
            refine V.ladd X dX12_byAll_155 ?_
            refine V.lstore_n X (lv' := [(2, .long ((vTk A d k) + (wo A (gA σ 2 j)))), (4, .int (bI (lkT A d (k + 1)))), (7, .long (wo A (gA σ 2 j))), (6, .int (nI j)), (5, .int (nI k)), (0, .ref (a 0)), (1, .int (nI d))]) dX12_byAll_156 rfl (ltn hn (by decide)) rfl ?_
            refine V.goto X 249 dX12_byAll_157 (by decide) ?_
            have hst : vTk A d (k + 1) = (vTk A d k) + (wo A (gA σ 2 j)) := by rw [hvs, s97]; simp [wUp, q2]
            refine V.eql (lv' := [(2, .long (vTk A d (k + 1))), (4, .int (bI (lkT A d (k + 1)))), (7, .long (wo A (gA σ 2 j))), (6, .int (nI j)), (5, .int (nI k)), (0, .ref (a 0)), (1, .int (nI d))]) (by rw [hst]) ?_
            refine V.iinc X (v := nI (k + 1)) (lv' := [(5, .int (nI (k + 1))), (2, .long (vTk A d (k + 1))), (4, .int (bI (lkT A d (k + 1)))), (7, .long (wo A (gA σ 2 j))), (6, .int (nI j)), (0, .ref (a 0)), (1, .int (nI d))]) (k0 := 4) dX12_byAll_249 rfl (inc_1 _) (ltn hn (by decide)) rfl ?_
            refine V.aload_n X 5 dX12_byAll_252 rfl rfl ?_
            refine Vg_r_0_nextPart X tw_836 dX12_byAll_253 ?_
            refine V.iload X 4 dX12_byAll_256 rfl ?_
            refine Va_r_nextPart (x := gP σ 2 j) X (by omega) dX12_byAll_258 rfl ?_
            refine V.topi (y := oI (ix d)[k + 1]?) (by rw [w5]) ?_
            refine V.istore X (lv' := [(6, .int (oI ((ix d)[k + 1]?))), (5, .int (nI (k + 1))), (2, .long (vTk A d (k + 1))), (4, .int (bI (lkT A d (k + 1)))), (7, .long (wo A (gA σ 2 j))), (0, .ref (a 0)), (1, .int (nI d))]) dX12_byAll_259 (ltn hn (by decide)) rfl ?_
            refine V.goto X 37 dX12_byAll_261 (by decide) ?_
            exact V.sub [0, 1, 3, 2, 5, 6] rfl (ih (k + 1) (by omega))
          · refine V.topi (y := nI 2) (by rw [s97]) (V.tableIn X 160 dX12_byAll_97 (by decide) (by decide) rfl (by decide) ?_)
            refine V.lload_n X 4 dX12_byAll_160 rfl rfl ?_
            refine V.lload X 1 dX12_byAll_161 rfl ?_
            refine V.lmul X dX12_byAll_163 ?_
            refine V.lstore_n X (lv' := [(2, .long ((vTk A d k) * (wo A (gA σ 2 j)))), (4, .int (bI (lkT A d (k + 1)))), (7, .long (wo A (gA σ 2 j))), (6, .int (nI j)), (5, .int (nI k)), (0, .ref (a 0)), (1, .int (nI d))]) dX12_byAll_164 rfl (ltn hn (by decide)) rfl ?_
            refine V.goto X 249 dX12_byAll_165 (by decide) ?_
            have hst : vTk A d (k + 1) = (vTk A d k) * (wo A (gA σ 2 j)) := by rw [hvs, s97]; simp [wUp, q2]
            refine V.eql (lv' := [(2, .long (vTk A d (k + 1))), (4, .int (bI (lkT A d (k + 1)))), (7, .long (wo A (gA σ 2 j))), (6, .int (nI j)), (5, .int (nI k)), (0, .ref (a 0)), (1, .int (nI d))]) (by rw [hst]) ?_
            refine V.iinc X (v := nI (k + 1)) (lv' := [(5, .int (nI (k + 1))), (2, .long (vTk A d (k + 1))), (4, .int (bI (lkT A d (k + 1)))), (7, .long (wo A (gA σ 2 j))), (6, .int (nI j)), (0, .ref (a 0)), (1, .int (nI d))]) (k0 := 4) dX12_byAll_249 rfl (inc_1 _) (ltn hn (by decide)) rfl ?_
            refine V.aload_n X 5 dX12_byAll_252 rfl rfl ?_
            refine Vg_r_0_nextPart X tw_836 dX12_byAll_253 ?_
            refine V.iload X 4 dX12_byAll_256 rfl ?_
            refine Va_r_nextPart (x := gP σ 2 j) X (by omega) dX12_byAll_258 rfl ?_
            refine V.topi (y := oI (ix d)[k + 1]?) (by rw [w5]) ?_
            refine V.istore X (lv' := [(6, .int (oI ((ix d)[k + 1]?))), (5, .int (nI (k + 1))), (2, .long (vTk A d (k + 1))), (4, .int (bI (lkT A d (k + 1)))), (7, .long (wo A (gA σ 2 j))), (0, .ref (a 0)), (1, .int (nI d))]) dX12_byAll_259 (ltn hn (by decide)) rfl ?_
            refine V.goto X 37 dX12_byAll_261 (by decide) ?_
            exact V.sub [0, 1, 3, 2, 5, 6] rfl (ih (k + 1) (by omega))
          · refine V.topi (y := nI 3) (by rw [s97]) (V.tableIn X 168 dX12_byAll_97 (by decide) (by decide) rfl (by decide) ?_)
            refine V.iload X 3 dX12_byAll_168 rfl ?_
            refine V.if_neN X 178 dX12_byAll_170 (by decide) (by omega) (fun c170 => ?_) (fun c170 => ?_)
            · refine V.lload_n X 4 dX12_byAll_178 rfl rfl ?_
              refine V.lload X 1 dX12_byAll_179 rfl ?_
              refine V.lsub X dX12_byAll_181 ?_
              refine V.lstore_n X (lv' := [(2, .long ((vTk A d k) - (wo A (gA σ 2 j)))), (4, .int (bI (lkT A d (k + 1)))), (7, .long (wo A (gA σ 2 j))), (6, .int (nI j)), (5, .int (nI k)), (0, .ref (a 0)), (1, .int (nI d))]) dX12_byAll_182 rfl (ltn hn (by decide)) rfl ?_
              refine V.goto X 249 dX12_byAll_183 (by decide) ?_
              have hst : vTk A d (k + 1) = (vTk A d k) - (wo A (gA σ 2 j)) := by rw [hvs, s97]; simp [wUp, c170]
              refine V.eql (lv' := [(2, .long (vTk A d (k + 1))), (4, .int (bI (lkT A d (k + 1)))), (7, .long (wo A (gA σ 2 j))), (6, .int (nI j)), (5, .int (nI k)), (0, .ref (a 0)), (1, .int (nI d))]) (by rw [hst]) ?_
              refine V.iinc X (v := nI (k + 1)) (lv' := [(5, .int (nI (k + 1))), (2, .long (vTk A d (k + 1))), (4, .int (bI (lkT A d (k + 1)))), (7, .long (wo A (gA σ 2 j))), (6, .int (nI j)), (0, .ref (a 0)), (1, .int (nI d))]) (k0 := 4) dX12_byAll_249 rfl (inc_1 _) (ltn hn (by decide)) rfl ?_
              refine V.aload_n X 5 dX12_byAll_252 rfl rfl ?_
              refine Vg_r_0_nextPart X tw_836 dX12_byAll_253 ?_
              refine V.iload X 4 dX12_byAll_256 rfl ?_
              refine Va_r_nextPart (x := gP σ 2 j) X (by omega) dX12_byAll_258 rfl ?_
              refine V.topi (y := oI (ix d)[k + 1]?) (by rw [w5]) ?_
              refine V.istore X (lv' := [(6, .int (oI ((ix d)[k + 1]?))), (5, .int (nI (k + 1))), (2, .long (vTk A d (k + 1))), (4, .int (bI (lkT A d (k + 1)))), (7, .long (wo A (gA σ 2 j))), (0, .ref (a 0)), (1, .int (nI d))]) dX12_byAll_259 (ltn hn (by decide)) rfl ?_
              refine V.goto X 37 dX12_byAll_261 (by decide) ?_
              exact V.sub [0, 1, 3, 2, 5, 6] rfl (ih (k + 1) (by omega))
            · refine V.lload X 1 dX12_byAll_173 rfl ?_
              refine V.goto X 182 dX12_byAll_175 (by decide) ?_
              refine V.lstore_n X (lv' := [(2, .long (wo A (gA σ 2 j))), (4, .int (bI (lkT A d (k + 1)))), (7, .long (wo A (gA σ 2 j))), (6, .int (nI j)), (5, .int (nI k)), (0, .ref (a 0)), (1, .int (nI d))]) dX12_byAll_182 rfl (ltn hn (by decide)) rfl ?_
              refine V.goto X 249 dX12_byAll_183 (by decide) ?_
              have hst : vTk A d (k + 1) = wo A (gA σ 2 j) := by rw [hvs, s97]; simp [wUp, c170]
              refine V.eql (lv' := [(2, .long (vTk A d (k + 1))), (4, .int (bI (lkT A d (k + 1)))), (7, .long (wo A (gA σ 2 j))), (6, .int (nI j)), (5, .int (nI k)), (0, .ref (a 0)), (1, .int (nI d))]) (by rw [hst]) ?_
              refine V.iinc X (v := nI (k + 1)) (lv' := [(5, .int (nI (k + 1))), (2, .long (vTk A d (k + 1))), (4, .int (bI (lkT A d (k + 1)))), (7, .long (wo A (gA σ 2 j))), (6, .int (nI j)), (0, .ref (a 0)), (1, .int (nI d))]) (k0 := 4) dX12_byAll_249 rfl (inc_1 _) (ltn hn (by decide)) rfl ?_
              refine V.aload_n X 5 dX12_byAll_252 rfl rfl ?_
              refine Vg_r_0_nextPart X tw_836 dX12_byAll_253 ?_
              refine V.iload X 4 dX12_byAll_256 rfl ?_
              refine Va_r_nextPart (x := gP σ 2 j) X (by omega) dX12_byAll_258 rfl ?_
              refine V.topi (y := oI (ix d)[k + 1]?) (by rw [w5]) ?_
              refine V.istore X (lv' := [(6, .int (oI ((ix d)[k + 1]?))), (5, .int (nI (k + 1))), (2, .long (vTk A d (k + 1))), (4, .int (bI (lkT A d (k + 1)))), (7, .long (wo A (gA σ 2 j))), (0, .ref (a 0)), (1, .int (nI d))]) dX12_byAll_259 (ltn hn (by decide)) rfl ?_
              refine V.goto X 37 dX12_byAll_261 (by decide) ?_
              exact V.sub [0, 1, 3, 2, 5, 6] rfl (ih (k + 1) (by omega))
          · refine V.topi (y := nI 4) (by rw [s97]) (V.tableIn X 186 dX12_byAll_97 (by decide) (by decide) rfl (by decide) ?_)
            refine V.lload X 1 dX12_byAll_186 rfl ?_
            refine V.lload_n X 4 dX12_byAll_188 rfl rfl ?_
            refine V.lif_le X 198 dX12_byAll_189 dX12_byAll_190 (by decide) (fun c189 => ?_) (fun c189 => ?_)
            · refine V.lload_n X 4 dX12_byAll_198 rfl rfl ?_
              refine V.lstore_n X (lv' := [(2, .long (vTk A d k)), (4, .int (bI (lkT A d (k + 1)))), (7, .long (wo A (gA σ 2 j))), (6, .int (nI j)), (5, .int (nI k)), (0, .ref (a 0)), (1, .int (nI d))]) dX12_byAll_199 rfl (ltn hn (by decide)) rfl ?_
              refine V.goto X 249 dX12_byAll_200 (by decide) ?_
              have hst : vTk A d (k + 1) = vTk A d k := by rw [hvs, s97]; simp only [wUp]; rw [if_neg (by decide), if_neg (by decide), if_neg (by decide), if_pos trivial, if_neg (Int64.not_lt.mpr c189)]
              refine V.eql (lv' := [(2, .long (vTk A d (k + 1))), (4, .int (bI (lkT A d (k + 1)))), (7, .long (wo A (gA σ 2 j))), (6, .int (nI j)), (5, .int (nI k)), (0, .ref (a 0)), (1, .int (nI d))]) (by rw [hst]) ?_
              refine V.iinc X (v := nI (k + 1)) (lv' := [(5, .int (nI (k + 1))), (2, .long (vTk A d (k + 1))), (4, .int (bI (lkT A d (k + 1)))), (7, .long (wo A (gA σ 2 j))), (6, .int (nI j)), (0, .ref (a 0)), (1, .int (nI d))]) (k0 := 4) dX12_byAll_249 rfl (inc_1 _) (ltn hn (by decide)) rfl ?_
              refine V.aload_n X 5 dX12_byAll_252 rfl rfl ?_
              refine Vg_r_0_nextPart X tw_836 dX12_byAll_253 ?_
              refine V.iload X 4 dX12_byAll_256 rfl ?_
              refine Va_r_nextPart (x := gP σ 2 j) X (by omega) dX12_byAll_258 rfl ?_
              refine V.topi (y := oI (ix d)[k + 1]?) (by rw [w5]) ?_
              refine V.istore X (lv' := [(6, .int (oI ((ix d)[k + 1]?))), (5, .int (nI (k + 1))), (2, .long (vTk A d (k + 1))), (4, .int (bI (lkT A d (k + 1)))), (7, .long (wo A (gA σ 2 j))), (0, .ref (a 0)), (1, .int (nI d))]) dX12_byAll_259 (ltn hn (by decide)) rfl ?_
              refine V.goto X 37 dX12_byAll_261 (by decide) ?_
              exact V.sub [0, 1, 3, 2, 5, 6] rfl (ih (k + 1) (by omega))
            · refine V.lload X 1 dX12_byAll_193 rfl ?_
              refine V.goto X 199 dX12_byAll_195 (by decide) ?_
              refine V.lstore_n X (lv' := [(2, .long (wo A (gA σ 2 j))), (4, .int (bI (lkT A d (k + 1)))), (7, .long (wo A (gA σ 2 j))), (6, .int (nI j)), (5, .int (nI k)), (0, .ref (a 0)), (1, .int (nI d))]) dX12_byAll_199 rfl (ltn hn (by decide)) rfl ?_
              refine V.goto X 249 dX12_byAll_200 (by decide) ?_
              have hst : vTk A d (k + 1) = wo A (gA σ 2 j) := by rw [hvs, s97]; simp only [wUp]; rw [if_neg (by decide), if_neg (by decide), if_neg (by decide), if_pos trivial, if_pos (Int64.not_le.mp c189)]
              refine V.eql (lv' := [(2, .long (vTk A d (k + 1))), (4, .int (bI (lkT A d (k + 1)))), (7, .long (wo A (gA σ 2 j))), (6, .int (nI j)), (5, .int (nI k)), (0, .ref (a 0)), (1, .int (nI d))]) (by rw [hst]) ?_
              refine V.iinc X (v := nI (k + 1)) (lv' := [(5, .int (nI (k + 1))), (2, .long (vTk A d (k + 1))), (4, .int (bI (lkT A d (k + 1)))), (7, .long (wo A (gA σ 2 j))), (6, .int (nI j)), (0, .ref (a 0)), (1, .int (nI d))]) (k0 := 4) dX12_byAll_249 rfl (inc_1 _) (ltn hn (by decide)) rfl ?_
              refine V.aload_n X 5 dX12_byAll_252 rfl rfl ?_
              refine Vg_r_0_nextPart X tw_836 dX12_byAll_253 ?_
              refine V.iload X 4 dX12_byAll_256 rfl ?_
              refine Va_r_nextPart (x := gP σ 2 j) X (by omega) dX12_byAll_258 rfl ?_
              refine V.topi (y := oI (ix d)[k + 1]?) (by rw [w5]) ?_
              refine V.istore X (lv' := [(6, .int (oI ((ix d)[k + 1]?))), (5, .int (nI (k + 1))), (2, .long (vTk A d (k + 1))), (4, .int (bI (lkT A d (k + 1)))), (7, .long (wo A (gA σ 2 j))), (0, .ref (a 0)), (1, .int (nI d))]) dX12_byAll_259 (ltn hn (by decide)) rfl ?_
              refine V.goto X 37 dX12_byAll_261 (by decide) ?_
              exact V.sub [0, 1, 3, 2, 5, 6] rfl (ih (k + 1) (by omega))
          · refine V.topi (y := nI 5) (by rw [s97]) (V.tableIn X 203 dX12_byAll_97 (by decide) (by decide) rfl (by decide) ?_)
            refine V.lload X 1 dX12_byAll_203 rfl ?_
            refine V.lload_n X 4 dX12_byAll_205 rfl rfl ?_
            refine V.lif_ge X 215 dX12_byAll_206 dX12_byAll_207 (by decide) (fun c206 => ?_) (fun c206 => ?_)
            · refine V.lload_n X 4 dX12_byAll_215 rfl rfl ?_
              refine V.lstore_n X (lv' := [(2, .long (vTk A d k)), (4, .int (bI (lkT A d (k + 1)))), (7, .long (wo A (gA σ 2 j))), (6, .int (nI j)), (5, .int (nI k)), (0, .ref (a 0)), (1, .int (nI d))]) dX12_byAll_216 rfl (ltn hn (by decide)) rfl ?_
              refine V.goto X 249 dX12_byAll_217 (by decide) ?_
              have hst : vTk A d (k + 1) = vTk A d k := by rw [hvs, s97]; simp only [wUp]; rw [if_neg (by decide), if_neg (by decide), if_neg (by decide), if_neg (by decide), if_pos trivial, if_neg (Int64.not_lt.mpr c206)]
              refine V.eql (lv' := [(2, .long (vTk A d (k + 1))), (4, .int (bI (lkT A d (k + 1)))), (7, .long (wo A (gA σ 2 j))), (6, .int (nI j)), (5, .int (nI k)), (0, .ref (a 0)), (1, .int (nI d))]) (by rw [hst]) ?_
              refine V.iinc X (v := nI (k + 1)) (lv' := [(5, .int (nI (k + 1))), (2, .long (vTk A d (k + 1))), (4, .int (bI (lkT A d (k + 1)))), (7, .long (wo A (gA σ 2 j))), (6, .int (nI j)), (0, .ref (a 0)), (1, .int (nI d))]) (k0 := 4) dX12_byAll_249 rfl (inc_1 _) (ltn hn (by decide)) rfl ?_
              refine V.aload_n X 5 dX12_byAll_252 rfl rfl ?_
              refine Vg_r_0_nextPart X tw_836 dX12_byAll_253 ?_
              refine V.iload X 4 dX12_byAll_256 rfl ?_
              refine Va_r_nextPart (x := gP σ 2 j) X (by omega) dX12_byAll_258 rfl ?_
              refine V.topi (y := oI (ix d)[k + 1]?) (by rw [w5]) ?_
              refine V.istore X (lv' := [(6, .int (oI ((ix d)[k + 1]?))), (5, .int (nI (k + 1))), (2, .long (vTk A d (k + 1))), (4, .int (bI (lkT A d (k + 1)))), (7, .long (wo A (gA σ 2 j))), (0, .ref (a 0)), (1, .int (nI d))]) dX12_byAll_259 (ltn hn (by decide)) rfl ?_
              refine V.goto X 37 dX12_byAll_261 (by decide) ?_
              exact V.sub [0, 1, 3, 2, 5, 6] rfl (ih (k + 1) (by omega))
            · refine V.lload X 1 dX12_byAll_210 rfl ?_
              refine V.goto X 216 dX12_byAll_212 (by decide) ?_
              refine V.lstore_n X (lv' := [(2, .long (wo A (gA σ 2 j))), (4, .int (bI (lkT A d (k + 1)))), (7, .long (wo A (gA σ 2 j))), (6, .int (nI j)), (5, .int (nI k)), (0, .ref (a 0)), (1, .int (nI d))]) dX12_byAll_216 rfl (ltn hn (by decide)) rfl ?_
              refine V.goto X 249 dX12_byAll_217 (by decide) ?_
              have hst : vTk A d (k + 1) = wo A (gA σ 2 j) := by rw [hvs, s97]; simp only [wUp]; rw [if_neg (by decide), if_neg (by decide), if_neg (by decide), if_neg (by decide), if_pos trivial, if_pos (Int64.not_le.mp c206)]
              refine V.eql (lv' := [(2, .long (vTk A d (k + 1))), (4, .int (bI (lkT A d (k + 1)))), (7, .long (wo A (gA σ 2 j))), (6, .int (nI j)), (5, .int (nI k)), (0, .ref (a 0)), (1, .int (nI d))]) (by rw [hst]) ?_
              refine V.iinc X (v := nI (k + 1)) (lv' := [(5, .int (nI (k + 1))), (2, .long (vTk A d (k + 1))), (4, .int (bI (lkT A d (k + 1)))), (7, .long (wo A (gA σ 2 j))), (6, .int (nI j)), (0, .ref (a 0)), (1, .int (nI d))]) (k0 := 4) dX12_byAll_249 rfl (inc_1 _) (ltn hn (by decide)) rfl ?_
              refine V.aload_n X 5 dX12_byAll_252 rfl rfl ?_
              refine Vg_r_0_nextPart X tw_836 dX12_byAll_253 ?_
              refine V.iload X 4 dX12_byAll_256 rfl ?_
              refine Va_r_nextPart (x := gP σ 2 j) X (by omega) dX12_byAll_258 rfl ?_
              refine V.topi (y := oI (ix d)[k + 1]?) (by rw [w5]) ?_
              refine V.istore X (lv' := [(6, .int (oI ((ix d)[k + 1]?))), (5, .int (nI (k + 1))), (2, .long (vTk A d (k + 1))), (4, .int (bI (lkT A d (k + 1)))), (7, .long (wo A (gA σ 2 j))), (0, .ref (a 0)), (1, .int (nI d))]) dX12_byAll_259 (ltn hn (by decide)) rfl ?_
              refine V.goto X 37 dX12_byAll_261 (by decide) ?_
              exact V.sub [0, 1, 3, 2, 5, 6] rfl (ih (k + 1) (by omega))
          · refine V.topi (y := nI 6) (by rw [s97]) (V.tableIn X 220 dX12_byAll_97 (by decide) (by decide) rfl (by decide) ?_)
            refine V.lload_n X 4 dX12_byAll_220 rfl rfl ?_
            refine V.aload_n X 5 dX12_byAll_221 rfl rfl ?_
            refine Vg_r_0_number X tw_830 dX12_byAll_222 ?_
            refine V.iload_n X 6 dX12_byAll_225 rfl rfl ?_
            refine Va_r_number (x := gJ σ 0 d) X (by omega) dX12_byAll_226 rfl ?_
            refine V.i2l X dX12_byAll_227 rfl ?_
            refine V.lmul X dX12_byAll_228 ?_
            refine V.lload X 1 dX12_byAll_229 rfl ?_
            refine V.ladd X dX12_byAll_231 ?_
            refine V.lstore_n X (lv' := [(2, .long (((vTk A d k) * (Int32.toInt64 (gJ σ 0 d))) + (wo A (gA σ 2 j)))), (4, .int (bI (lkT A d (k + 1)))), (7, .long (wo A (gA σ 2 j))), (6, .int (nI j)), (5, .int (nI k)), (0, .ref (a 0)), (1, .int (nI d))]) dX12_byAll_232 rfl (ltn hn (by decide)) rfl ?_
            refine V.goto X 249 dX12_byAll_233 (by decide) ?_
            have hst : vTk A d (k + 1) = ((vTk A d k) * (Int32.toInt64 (gJ σ 0 d))) + (wo A (gA σ 2 j)) := by rw [hvs, s97]; simp [wUp, q2]
            refine V.eql (lv' := [(2, .long (vTk A d (k + 1))), (4, .int (bI (lkT A d (k + 1)))), (7, .long (wo A (gA σ 2 j))), (6, .int (nI j)), (5, .int (nI k)), (0, .ref (a 0)), (1, .int (nI d))]) (by rw [hst]) ?_
            refine V.iinc X (v := nI (k + 1)) (lv' := [(5, .int (nI (k + 1))), (2, .long (vTk A d (k + 1))), (4, .int (bI (lkT A d (k + 1)))), (7, .long (wo A (gA σ 2 j))), (6, .int (nI j)), (0, .ref (a 0)), (1, .int (nI d))]) (k0 := 4) dX12_byAll_249 rfl (inc_1 _) (ltn hn (by decide)) rfl ?_
            refine V.aload_n X 5 dX12_byAll_252 rfl rfl ?_
            refine Vg_r_0_nextPart X tw_836 dX12_byAll_253 ?_
            refine V.iload X 4 dX12_byAll_256 rfl ?_
            refine Va_r_nextPart (x := gP σ 2 j) X (by omega) dX12_byAll_258 rfl ?_
            refine V.topi (y := oI (ix d)[k + 1]?) (by rw [w5]) ?_
            refine V.istore X (lv' := [(6, .int (oI ((ix d)[k + 1]?))), (5, .int (nI (k + 1))), (2, .long (vTk A d (k + 1))), (4, .int (bI (lkT A d (k + 1)))), (7, .long (wo A (gA σ 2 j))), (0, .ref (a 0)), (1, .int (nI d))]) dX12_byAll_259 (ltn hn (by decide)) rfl ?_
            refine V.goto X 37 dX12_byAll_261 (by decide) ?_
            exact V.sub [0, 1, 3, 2, 5, 6] rfl (ih (k + 1) (by omega))
          · refine V.topi (y := nI 7) (by rw [s97]) (V.tableIn X 249 dX12_byAll_97 (by decide) (by decide) rfl (by decide) ?_)
            exact absurd (q1.symm.trans s97) hk7
          · refine V.topi (y := nI 8) (by rw [s97]) (V.tableIn X 249 dX12_byAll_97 (by decide) (by decide) rfl (by decide) ?_)
            exact absurd (q1.symm.trans s97) hk8
          · refine V.topi (y := nI 9) (by rw [s97]) (V.tableIn X 249 dX12_byAll_97 (by decide) (by decide) rfl (by decide) ?_)
            have hst : vTk A d (k + 1) = vTk A d k := by rw [hvs, s97]; simp [wUp, q2]
            refine V.eql (lv' := [(4, .int (bI (lkT A d (k + 1)))), (7, .long (wo A (gA σ 2 j))), (6, .int (nI j)), (5, .int (nI k)), (2, .long (vTk A d (k + 1))), (0, .ref (a 0)), (1, .int (nI d))]) (by rw [hst]) ?_
            refine V.iinc X (v := nI (k + 1)) (lv' := [(5, .int (nI (k + 1))), (4, .int (bI (lkT A d (k + 1)))), (7, .long (wo A (gA σ 2 j))), (6, .int (nI j)), (2, .long (vTk A d (k + 1))), (0, .ref (a 0)), (1, .int (nI d))]) (k0 := 3) dX12_byAll_249 rfl (inc_1 _) (ltn hn (by decide)) rfl ?_
            refine V.aload_n X 5 dX12_byAll_252 rfl rfl ?_
            refine Vg_r_0_nextPart X tw_836 dX12_byAll_253 ?_
            refine V.iload X 3 dX12_byAll_256 rfl ?_
            refine Va_r_nextPart (x := gP σ 2 j) X (by omega) dX12_byAll_258 rfl ?_
            refine V.topi (y := oI (ix d)[k + 1]?) (by rw [w5]) ?_
            refine V.istore X (lv' := [(6, .int (oI ((ix d)[k + 1]?))), (5, .int (nI (k + 1))), (4, .int (bI (lkT A d (k + 1)))), (7, .long (wo A (gA σ 2 j))), (2, .long (vTk A d (k + 1))), (0, .ref (a 0)), (1, .int (nI d))]) dX12_byAll_259 (ltn hn (by decide)) rfl ?_
            refine V.goto X 37 dX12_byAll_261 (by decide) ?_
            exact V.sub [0, 1, 2, 4, 5, 6] rfl (ih (k + 1) (by omega))
          · refine V.topi (y := nI 10) (by rw [s97]) (V.tableIn X 236 dX12_byAll_97 (by decide) (by decide) rfl (by decide) ?_)
            refine V.lload_n X 4 dX12_byAll_236 rfl rfl ?_
            refine V.lload X 1 dX12_byAll_237 rfl ?_
            refine V.iload X 3 dX12_byAll_239 rfl ?_
            refine V.callS X rfl (k_turned (zl Z) (zG Z) (rw (zG Z) a σ) (wo A (gA σ 2 j)) k (by omega)) cs_X12_118 rfl (len hRf (by decide)) (len hRl (by decide)) hk0 ht0 [.long (vTk A d k)] rfl (Nat.le_of_ble_eq_true rfl) dX12_byAll_241 ?_
            rintro _ _ ⟨rfl, rfl⟩
            refine V.eqs (st' := [.long (rotL (wo A (gA σ 2 j)) (k % 64)), .long (vTk A d k)]) rfl ?_
            refine V.lxor X dX12_byAll_244 ?_
            refine V.lstore_n X (lv' := [(2, .long ((vTk A d k) ^^^ (rotL (wo A (gA σ 2 j)) (k % 64)))), (4, .int (bI (lkT A d (k + 1)))), (7, .long (wo A (gA σ 2 j))), (6, .int (nI j)), (5, .int (nI k)), (0, .ref (a 0)), (1, .int (nI d))]) dX12_byAll_245 rfl (ltn hn (by decide)) rfl ?_
            refine V.goto X 249 dX12_byAll_246 (by decide) ?_
            have hst : vTk A d (k + 1) = (vTk A d k) ^^^ (rotL (wo A (gA σ 2 j)) (k % 64)) := by rw [hvs, s97]; simp [wUp, q2]
            refine V.eql (lv' := [(2, .long (vTk A d (k + 1))), (4, .int (bI (lkT A d (k + 1)))), (7, .long (wo A (gA σ 2 j))), (6, .int (nI j)), (5, .int (nI k)), (0, .ref (a 0)), (1, .int (nI d))]) (by rw [hst]) ?_
            refine V.iinc X (v := nI (k + 1)) (lv' := [(5, .int (nI (k + 1))), (2, .long (vTk A d (k + 1))), (4, .int (bI (lkT A d (k + 1)))), (7, .long (wo A (gA σ 2 j))), (6, .int (nI j)), (0, .ref (a 0)), (1, .int (nI d))]) (k0 := 4) dX12_byAll_249 rfl (inc_1 _) (ltn hn (by decide)) rfl ?_
            refine V.aload_n X 5 dX12_byAll_252 rfl rfl ?_
            refine Vg_r_0_nextPart X tw_836 dX12_byAll_253 ?_
            refine V.iload X 4 dX12_byAll_256 rfl ?_
            refine Va_r_nextPart (x := gP σ 2 j) X (by omega) dX12_byAll_258 rfl ?_
            refine V.topi (y := oI (ix d)[k + 1]?) (by rw [w5]) ?_
            refine V.istore X (lv' := [(6, .int (oI ((ix d)[k + 1]?))), (5, .int (nI (k + 1))), (2, .long (vTk A d (k + 1))), (4, .int (bI (lkT A d (k + 1)))), (7, .long (wo A (gA σ 2 j))), (0, .ref (a 0)), (1, .int (nI d))]) dX12_byAll_259 (ltn hn (by decide)) rfl ?_
            refine V.goto X 37 dX12_byAll_261 (by decide) ?_
            exact V.sub [0, 1, 3, 2, 5, 6] rfl (ih (k + 1) (by omega))
          · refine V.tabOutN X 249 dX12_byAll_97 (by omega) (by omega) (by decide) ?_
            have hst : vTk A d (k + 1) = vTk A d k := by rw [hvs]; simp only [wUp]; rw [if_neg (by omega), if_neg (by omega), if_neg (by omega), if_neg (by omega), if_neg (by omega), if_neg (by omega), if_neg (by omega), if_neg (by omega), if_neg (by omega)]
            refine V.eql (lv' := [(4, .int (bI (lkT A d (k + 1)))), (7, .long (wo A (gA σ 2 j))), (6, .int (nI j)), (5, .int (nI k)), (2, .long (vTk A d (k + 1))), (0, .ref (a 0)), (1, .int (nI d))]) (by rw [hst]) ?_
            refine V.iinc X (v := nI (k + 1)) (lv' := [(5, .int (nI (k + 1))), (4, .int (bI (lkT A d (k + 1)))), (7, .long (wo A (gA σ 2 j))), (6, .int (nI j)), (2, .long (vTk A d (k + 1))), (0, .ref (a 0)), (1, .int (nI d))]) (k0 := 3) dX12_byAll_249 rfl (inc_1 _) (ltn hn (by decide)) rfl ?_
            refine V.aload_n X 5 dX12_byAll_252 rfl rfl ?_
            refine Vg_r_0_nextPart X tw_836 dX12_byAll_253 ?_
            refine V.iload X 3 dX12_byAll_256 rfl ?_
            refine Va_r_nextPart (x := gP σ 2 j) X (by omega) dX12_byAll_258 rfl ?_
            refine V.topi (y := oI (ix d)[k + 1]?) (by rw [w5]) ?_
            refine V.istore X (lv' := [(6, .int (oI ((ix d)[k + 1]?))), (5, .int (nI (k + 1))), (4, .int (bI (lkT A d (k + 1)))), (7, .long (wo A (gA σ 2 j))), (2, .long (vTk A d (k + 1))), (0, .ref (a 0)), (1, .int (nI d))]) dX12_byAll_259 (ltn hn (by decide)) rfl ?_
            refine V.goto X 37 dX12_byAll_261 (by decide) ?_
            exact V.sub [0, 1, 2, 4, 5, 6] rfl (ih (k + 1) (by omega))
        · refine V.iconst X (v := nI 1) dX12_byAll_84 (by decide) ?_
          refine V.goto X 89 dX12_byAll_85 (by decide) ?_
          refine V.topi (y := bI (lkT A d (k + 1))) (by rw [hls, c59, decide_eq_true (show wo A (gA σ 2 j) = wo A ((aP A d).getD 0 0) from c80)]; rfl) ?_
          refine V.istore X (lv' := [(4, .int (bI (lkT A d (k + 1)))), (7, .long (wo A (gA σ 2 j))), (6, .int (nI j)), (5, .int (nI k)), (2, .long (vTk A d k)), (0, .ref (a 0)), (1, .int (nI d))]) dX12_byAll_89 (ltn hn (by decide)) rfl ?_
          refine V.aload_n X 5 dX12_byAll_91 rfl rfl ?_
          refine Vg_r_0_kind X tw_829 dX12_byAll_92 ?_
          refine V.iload_n X 6 dX12_byAll_95 rfl rfl ?_
          refine Va_r_kind (x := gA σ 0 d) X (by omega) dX12_byAll_96 rfl ?_
          rcases (show (gA σ 0 d) = 1 ∨ (gA σ 0 d) = 2 ∨ (gA σ 0 d) = 3 ∨ (gA σ 0 d) = 4 ∨ (gA σ 0 d) = 5 ∨ (gA σ 0 d) = 6 ∨ (gA σ 0 d) = 7 ∨ (gA σ 0 d) = 8 ∨ (gA σ 0 d) = 9 ∨ (gA σ 0 d) = 10 ∨ ((gA σ 0 d) ≠ 1 ∧ (gA σ 0 d) ≠ 2 ∧ (gA σ 0 d) ≠ 3 ∧ (gA σ 0 d) ≠ 4 ∧ (gA σ 0 d) ≠ 5 ∧ (gA σ 0 d) ≠ 6 ∧ (gA σ 0 d) ≠ 7 ∧ (gA σ 0 d) ≠ 8 ∧ (gA σ 0 d) ≠ 9 ∧ (gA σ 0 d) ≠ 10) by omega) with s97 | s97 | s97 | s97 | s97 | s97 | s97 | s97 | s97 | s97 | s97
          · refine V.topi (y := nI 1) (by rw [s97]) (V.tableIn X 152 dX12_byAll_97 (by decide) (by decide) rfl (by decide) ?_)
            refine V.lload_n X 4 dX12_byAll_152 rfl rfl ?_
            refine V.lload X 1 dX12_byAll_153 rfl ?_
            refine V.ladd X dX12_byAll_155 ?_
            refine V.lstore_n X (lv' := [(2, .long ((vTk A d k) + (wo A (gA σ 2 j)))), (4, .int (bI (lkT A d (k + 1)))), (7, .long (wo A (gA σ 2 j))), (6, .int (nI j)), (5, .int (nI k)), (0, .ref (a 0)), (1, .int (nI d))]) dX12_byAll_156 rfl (ltn hn (by decide)) rfl ?_
            refine V.goto X 249 dX12_byAll_157 (by decide) ?_
            have hst : vTk A d (k + 1) = (vTk A d k) + (wo A (gA σ 2 j)) := by rw [hvs, s97]; simp [wUp, q2]
            refine V.eql (lv' := [(2, .long (vTk A d (k + 1))), (4, .int (bI (lkT A d (k + 1)))), (7, .long (wo A (gA σ 2 j))), (6, .int (nI j)), (5, .int (nI k)), (0, .ref (a 0)), (1, .int (nI d))]) (by rw [hst]) ?_
            refine V.iinc X (v := nI (k + 1)) (lv' := [(5, .int (nI (k + 1))), (2, .long (vTk A d (k + 1))), (4, .int (bI (lkT A d (k + 1)))), (7, .long (wo A (gA σ 2 j))), (6, .int (nI j)), (0, .ref (a 0)), (1, .int (nI d))]) (k0 := 4) dX12_byAll_249 rfl (inc_1 _) (ltn hn (by decide)) rfl ?_
            refine V.aload_n X 5 dX12_byAll_252 rfl rfl ?_
            refine Vg_r_0_nextPart X tw_836 dX12_byAll_253 ?_
            refine V.iload X 4 dX12_byAll_256 rfl ?_
            refine Va_r_nextPart (x := gP σ 2 j) X (by omega) dX12_byAll_258 rfl ?_
            refine V.topi (y := oI (ix d)[k + 1]?) (by rw [w5]) ?_
            refine V.istore X (lv' := [(6, .int (oI ((ix d)[k + 1]?))), (5, .int (nI (k + 1))), (2, .long (vTk A d (k + 1))), (4, .int (bI (lkT A d (k + 1)))), (7, .long (wo A (gA σ 2 j))), (0, .ref (a 0)), (1, .int (nI d))]) dX12_byAll_259 (ltn hn (by decide)) rfl ?_
            refine V.goto X 37 dX12_byAll_261 (by decide) ?_
            exact V.sub [0, 1, 3, 2, 5, 6] rfl (ih (k + 1) (by omega))
          · refine V.topi (y := nI 2) (by rw [s97]) (V.tableIn X 160 dX12_byAll_97 (by decide) (by decide) rfl (by decide) ?_)
            refine V.lload_n X 4 dX12_byAll_160 rfl rfl ?_
            refine V.lload X 1 dX12_byAll_161 rfl ?_
            refine V.lmul X dX12_byAll_163 ?_
            refine V.lstore_n X (lv' := [(2, .long ((vTk A d k) * (wo A (gA σ 2 j)))), (4, .int (bI (lkT A d (k + 1)))), (7, .long (wo A (gA σ 2 j))), (6, .int (nI j)), (5, .int (nI k)), (0, .ref (a 0)), (1, .int (nI d))]) dX12_byAll_164 rfl (ltn hn (by decide)) rfl ?_
            refine V.goto X 249 dX12_byAll_165 (by decide) ?_
            have hst : vTk A d (k + 1) = (vTk A d k) * (wo A (gA σ 2 j)) := by rw [hvs, s97]; simp [wUp, q2]
            refine V.eql (lv' := [(2, .long (vTk A d (k + 1))), (4, .int (bI (lkT A d (k + 1)))), (7, .long (wo A (gA σ 2 j))), (6, .int (nI j)), (5, .int (nI k)), (0, .ref (a 0)), (1, .int (nI d))]) (by rw [hst]) ?_
            refine V.iinc X (v := nI (k + 1)) (lv' := [(5, .int (nI (k + 1))), (2, .long (vTk A d (k + 1))), (4, .int (bI (lkT A d (k + 1)))), (7, .long (wo A (gA σ 2 j))), (6, .int (nI j)), (0, .ref (a 0)), (1, .int (nI d))]) (k0 := 4) dX12_byAll_249 rfl (inc_1 _) (ltn hn (by decide)) rfl ?_
            refine V.aload_n X 5 dX12_byAll_252 rfl rfl ?_
            refine Vg_r_0_nextPart X tw_836 dX12_byAll_253 ?_
            refine V.iload X 4 dX12_byAll_256 rfl ?_
            refine Va_r_nextPart (x := gP σ 2 j) X (by omega) dX12_byAll_258 rfl ?_
            refine V.topi (y := oI (ix d)[k + 1]?) (by rw [w5]) ?_
            refine V.istore X (lv' := [(6, .int (oI ((ix d)[k + 1]?))), (5, .int (nI (k + 1))), (2, .long (vTk A d (k + 1))), (4, .int (bI (lkT A d (k + 1)))), (7, .long (wo A (gA σ 2 j))), (0, .ref (a 0)), (1, .int (nI d))]) dX12_byAll_259 (ltn hn (by decide)) rfl ?_
            refine V.goto X 37 dX12_byAll_261 (by decide) ?_
            exact V.sub [0, 1, 3, 2, 5, 6] rfl (ih (k + 1) (by omega))
          · refine V.topi (y := nI 3) (by rw [s97]) (V.tableIn X 168 dX12_byAll_97 (by decide) (by decide) rfl (by decide) ?_)
            refine V.iload X 3 dX12_byAll_168 rfl ?_
            refine V.if_neN X 178 dX12_byAll_170 (by decide) (by omega) (fun c170 => ?_) (fun c170 => ?_)
            · refine V.lload_n X 4 dX12_byAll_178 rfl rfl ?_
              refine V.lload X 1 dX12_byAll_179 rfl ?_
              refine V.lsub X dX12_byAll_181 ?_
              refine V.lstore_n X (lv' := [(2, .long ((vTk A d k) - (wo A (gA σ 2 j)))), (4, .int (bI (lkT A d (k + 1)))), (7, .long (wo A (gA σ 2 j))), (6, .int (nI j)), (5, .int (nI k)), (0, .ref (a 0)), (1, .int (nI d))]) dX12_byAll_182 rfl (ltn hn (by decide)) rfl ?_
              refine V.goto X 249 dX12_byAll_183 (by decide) ?_
              have hst : vTk A d (k + 1) = (vTk A d k) - (wo A (gA σ 2 j)) := by rw [hvs, s97]; simp [wUp, c170]
              refine V.eql (lv' := [(2, .long (vTk A d (k + 1))), (4, .int (bI (lkT A d (k + 1)))), (7, .long (wo A (gA σ 2 j))), (6, .int (nI j)), (5, .int (nI k)), (0, .ref (a 0)), (1, .int (nI d))]) (by rw [hst]) ?_
              refine V.iinc X (v := nI (k + 1)) (lv' := [(5, .int (nI (k + 1))), (2, .long (vTk A d (k + 1))), (4, .int (bI (lkT A d (k + 1)))), (7, .long (wo A (gA σ 2 j))), (6, .int (nI j)), (0, .ref (a 0)), (1, .int (nI d))]) (k0 := 4) dX12_byAll_249 rfl (inc_1 _) (ltn hn (by decide)) rfl ?_
              refine V.aload_n X 5 dX12_byAll_252 rfl rfl ?_
              refine Vg_r_0_nextPart X tw_836 dX12_byAll_253 ?_
              refine V.iload X 4 dX12_byAll_256 rfl ?_
              refine Va_r_nextPart (x := gP σ 2 j) X (by omega) dX12_byAll_258 rfl ?_
              refine V.topi (y := oI (ix d)[k + 1]?) (by rw [w5]) ?_
              refine V.istore X (lv' := [(6, .int (oI ((ix d)[k + 1]?))), (5, .int (nI (k + 1))), (2, .long (vTk A d (k + 1))), (4, .int (bI (lkT A d (k + 1)))), (7, .long (wo A (gA σ 2 j))), (0, .ref (a 0)), (1, .int (nI d))]) dX12_byAll_259 (ltn hn (by decide)) rfl ?_
              refine V.goto X 37 dX12_byAll_261 (by decide) ?_
              exact V.sub [0, 1, 3, 2, 5, 6] rfl (ih (k + 1) (by omega))
            · refine V.lload X 1 dX12_byAll_173 rfl ?_
              refine V.goto X 182 dX12_byAll_175 (by decide) ?_
              refine V.lstore_n X (lv' := [(2, .long (wo A (gA σ 2 j))), (4, .int (bI (lkT A d (k + 1)))), (7, .long (wo A (gA σ 2 j))), (6, .int (nI j)), (5, .int (nI k)), (0, .ref (a 0)), (1, .int (nI d))]) dX12_byAll_182 rfl (ltn hn (by decide)) rfl ?_
              refine V.goto X 249 dX12_byAll_183 (by decide) ?_
              have hst : vTk A d (k + 1) = wo A (gA σ 2 j) := by rw [hvs, s97]; simp [wUp, c170]
              refine V.eql (lv' := [(2, .long (vTk A d (k + 1))), (4, .int (bI (lkT A d (k + 1)))), (7, .long (wo A (gA σ 2 j))), (6, .int (nI j)), (5, .int (nI k)), (0, .ref (a 0)), (1, .int (nI d))]) (by rw [hst]) ?_
              refine V.iinc X (v := nI (k + 1)) (lv' := [(5, .int (nI (k + 1))), (2, .long (vTk A d (k + 1))), (4, .int (bI (lkT A d (k + 1)))), (7, .long (wo A (gA σ 2 j))), (6, .int (nI j)), (0, .ref (a 0)), (1, .int (nI d))]) (k0 := 4) dX12_byAll_249 rfl (inc_1 _) (ltn hn (by decide)) rfl ?_
              refine V.aload_n X 5 dX12_byAll_252 rfl rfl ?_
              refine Vg_r_0_nextPart X tw_836 dX12_byAll_253 ?_
              refine V.iload X 4 dX12_byAll_256 rfl ?_
              refine Va_r_nextPart (x := gP σ 2 j) X (by omega) dX12_byAll_258 rfl ?_
              refine V.topi (y := oI (ix d)[k + 1]?) (by rw [w5]) ?_
              refine V.istore X (lv' := [(6, .int (oI ((ix d)[k + 1]?))), (5, .int (nI (k + 1))), (2, .long (vTk A d (k + 1))), (4, .int (bI (lkT A d (k + 1)))), (7, .long (wo A (gA σ 2 j))), (0, .ref (a 0)), (1, .int (nI d))]) dX12_byAll_259 (ltn hn (by decide)) rfl ?_
              refine V.goto X 37 dX12_byAll_261 (by decide) ?_
              exact V.sub [0, 1, 3, 2, 5, 6] rfl (ih (k + 1) (by omega))
          · refine V.topi (y := nI 4) (by rw [s97]) (V.tableIn X 186 dX12_byAll_97 (by decide) (by decide) rfl (by decide) ?_)
            refine V.lload X 1 dX12_byAll_186 rfl ?_
            refine V.lload_n X 4 dX12_byAll_188 rfl rfl ?_
            refine V.lif_le X 198 dX12_byAll_189 dX12_byAll_190 (by decide) (fun c189 => ?_) (fun c189 => ?_)
            · refine V.lload_n X 4 dX12_byAll_198 rfl rfl ?_
              refine V.lstore_n X (lv' := [(2, .long (vTk A d k)), (4, .int (bI (lkT A d (k + 1)))), (7, .long (wo A (gA σ 2 j))), (6, .int (nI j)), (5, .int (nI k)), (0, .ref (a 0)), (1, .int (nI d))]) dX12_byAll_199 rfl (ltn hn (by decide)) rfl ?_
              refine V.goto X 249 dX12_byAll_200 (by decide) ?_
              have hst : vTk A d (k + 1) = vTk A d k := by rw [hvs, s97]; simp only [wUp]; rw [if_neg (by decide), if_neg (by decide), if_neg (by decide), if_pos trivial, if_neg (Int64.not_lt.mpr c189)]
              refine V.eql (lv' := [(2, .long (vTk A d (k + 1))), (4, .int (bI (lkT A d (k + 1)))), (7, .long (wo A (gA σ 2 j))), (6, .int (nI j)), (5, .int (nI k)), (0, .ref (a 0)), (1, .int (nI d))]) (by rw [hst]) ?_
              refine V.iinc X (v := nI (k + 1)) (lv' := [(5, .int (nI (k + 1))), (2, .long (vTk A d (k + 1))), (4, .int (bI (lkT A d (k + 1)))), (7, .long (wo A (gA σ 2 j))), (6, .int (nI j)), (0, .ref (a 0)), (1, .int (nI d))]) (k0 := 4) dX12_byAll_249 rfl (inc_1 _) (ltn hn (by decide)) rfl ?_
              refine V.aload_n X 5 dX12_byAll_252 rfl rfl ?_
              refine Vg_r_0_nextPart X tw_836 dX12_byAll_253 ?_
              refine V.iload X 4 dX12_byAll_256 rfl ?_
              refine Va_r_nextPart (x := gP σ 2 j) X (by omega) dX12_byAll_258 rfl ?_
              refine V.topi (y := oI (ix d)[k + 1]?) (by rw [w5]) ?_
              refine V.istore X (lv' := [(6, .int (oI ((ix d)[k + 1]?))), (5, .int (nI (k + 1))), (2, .long (vTk A d (k + 1))), (4, .int (bI (lkT A d (k + 1)))), (7, .long (wo A (gA σ 2 j))), (0, .ref (a 0)), (1, .int (nI d))]) dX12_byAll_259 (ltn hn (by decide)) rfl ?_
              refine V.goto X 37 dX12_byAll_261 (by decide) ?_
              exact V.sub [0, 1, 3, 2, 5, 6] rfl (ih (k + 1) (by omega))
            · refine V.lload X 1 dX12_byAll_193 rfl ?_
              refine V.goto X 199 dX12_byAll_195 (by decide) ?_
              refine V.lstore_n X (lv' := [(2, .long (wo A (gA σ 2 j))), (4, .int (bI (lkT A d (k + 1)))), (7, .long (wo A (gA σ 2 j))), (6, .int (nI j)), (5, .int (nI k)), (0, .ref (a 0)), (1, .int (nI d))]) dX12_byAll_199 rfl (ltn hn (by decide)) rfl ?_
              refine V.goto X 249 dX12_byAll_200 (by decide) ?_
              have hst : vTk A d (k + 1) = wo A (gA σ 2 j) := by rw [hvs, s97]; simp only [wUp]; rw [if_neg (by decide), if_neg (by decide), if_neg (by decide), if_pos trivial, if_pos (Int64.not_le.mp c189)]
              refine V.eql (lv' := [(2, .long (vTk A d (k + 1))), (4, .int (bI (lkT A d (k + 1)))), (7, .long (wo A (gA σ 2 j))), (6, .int (nI j)), (5, .int (nI k)), (0, .ref (a 0)), (1, .int (nI d))]) (by rw [hst]) ?_
              refine V.iinc X (v := nI (k + 1)) (lv' := [(5, .int (nI (k + 1))), (2, .long (vTk A d (k + 1))), (4, .int (bI (lkT A d (k + 1)))), (7, .long (wo A (gA σ 2 j))), (6, .int (nI j)), (0, .ref (a 0)), (1, .int (nI d))]) (k0 := 4) dX12_byAll_249 rfl (inc_1 _) (ltn hn (by decide)) rfl ?_
              refine V.aload_n X 5 dX12_byAll_252 rfl rfl ?_
              refine Vg_r_0_nextPart X tw_836 dX12_byAll_253 ?_
              refine V.iload X 4 dX12_byAll_256 rfl ?_
              refine Va_r_nextPart (x := gP σ 2 j) X (by omega) dX12_byAll_258 rfl ?_
              refine V.topi (y := oI (ix d)[k + 1]?) (by rw [w5]) ?_
              refine V.istore X (lv' := [(6, .int (oI ((ix d)[k + 1]?))), (5, .int (nI (k + 1))), (2, .long (vTk A d (k + 1))), (4, .int (bI (lkT A d (k + 1)))), (7, .long (wo A (gA σ 2 j))), (0, .ref (a 0)), (1, .int (nI d))]) dX12_byAll_259 (ltn hn (by decide)) rfl ?_
              refine V.goto X 37 dX12_byAll_261 (by decide) ?_
              exact V.sub [0, 1, 3, 2, 5, 6] rfl (ih (k + 1) (by omega))
          · refine V.topi (y := nI 5) (by rw [s97]) (V.tableIn X 203 dX12_byAll_97 (by decide) (by decide) rfl (by decide) ?_)
            refine V.lload X 1 dX12_byAll_203 rfl ?_
            refine V.lload_n X 4 dX12_byAll_205 rfl rfl ?_
            refine V.lif_ge X 215 dX12_byAll_206 dX12_byAll_207 (by decide) (fun c206 => ?_) (fun c206 => ?_)
            · refine V.lload_n X 4 dX12_byAll_215 rfl rfl ?_
              refine V.lstore_n X (lv' := [(2, .long (vTk A d k)), (4, .int (bI (lkT A d (k + 1)))), (7, .long (wo A (gA σ 2 j))), (6, .int (nI j)), (5, .int (nI k)), (0, .ref (a 0)), (1, .int (nI d))]) dX12_byAll_216 rfl (ltn hn (by decide)) rfl ?_
              refine V.goto X 249 dX12_byAll_217 (by decide) ?_
              have hst : vTk A d (k + 1) = vTk A d k := by rw [hvs, s97]; simp only [wUp]; rw [if_neg (by decide), if_neg (by decide), if_neg (by decide), if_neg (by decide), if_pos trivial, if_neg (Int64.not_lt.mpr c206)]
              refine V.eql (lv' := [(2, .long (vTk A d (k + 1))), (4, .int (bI (lkT A d (k + 1)))), (7, .long (wo A (gA σ 2 j))), (6, .int (nI j)), (5, .int (nI k)), (0, .ref (a 0)), (1, .int (nI d))]) (by rw [hst]) ?_
              refine V.iinc X (v := nI (k + 1)) (lv' := [(5, .int (nI (k + 1))), (2, .long (vTk A d (k + 1))), (4, .int (bI (lkT A d (k + 1)))), (7, .long (wo A (gA σ 2 j))), (6, .int (nI j)), (0, .ref (a 0)), (1, .int (nI d))]) (k0 := 4) dX12_byAll_249 rfl (inc_1 _) (ltn hn (by decide)) rfl ?_
              refine V.aload_n X 5 dX12_byAll_252 rfl rfl ?_
              refine Vg_r_0_nextPart X tw_836 dX12_byAll_253 ?_
              refine V.iload X 4 dX12_byAll_256 rfl ?_
              refine Va_r_nextPart (x := gP σ 2 j) X (by omega) dX12_byAll_258 rfl ?_
              refine V.topi (y := oI (ix d)[k + 1]?) (by rw [w5]) ?_
              refine V.istore X (lv' := [(6, .int (oI ((ix d)[k + 1]?))), (5, .int (nI (k + 1))), (2, .long (vTk A d (k + 1))), (4, .int (bI (lkT A d (k + 1)))), (7, .long (wo A (gA σ 2 j))), (0, .ref (a 0)), (1, .int (nI d))]) dX12_byAll_259 (ltn hn (by decide)) rfl ?_
              refine V.goto X 37 dX12_byAll_261 (by decide) ?_
              exact V.sub [0, 1, 3, 2, 5, 6] rfl (ih (k + 1) (by omega))
            · refine V.lload X 1 dX12_byAll_210 rfl ?_
              refine V.goto X 216 dX12_byAll_212 (by decide) ?_
              refine V.lstore_n X (lv' := [(2, .long (wo A (gA σ 2 j))), (4, .int (bI (lkT A d (k + 1)))), (7, .long (wo A (gA σ 2 j))), (6, .int (nI j)), (5, .int (nI k)), (0, .ref (a 0)), (1, .int (nI d))]) dX12_byAll_216 rfl (ltn hn (by decide)) rfl ?_
              refine V.goto X 249 dX12_byAll_217 (by decide) ?_
              have hst : vTk A d (k + 1) = wo A (gA σ 2 j) := by rw [hvs, s97]; simp only [wUp]; rw [if_neg (by decide), if_neg (by decide), if_neg (by decide), if_neg (by decide), if_pos trivial, if_pos (Int64.not_le.mp c206)]
              refine V.eql (lv' := [(2, .long (vTk A d (k + 1))), (4, .int (bI (lkT A d (k + 1)))), (7, .long (wo A (gA σ 2 j))), (6, .int (nI j)), (5, .int (nI k)), (0, .ref (a 0)), (1, .int (nI d))]) (by rw [hst]) ?_
              refine V.iinc X (v := nI (k + 1)) (lv' := [(5, .int (nI (k + 1))), (2, .long (vTk A d (k + 1))), (4, .int (bI (lkT A d (k + 1)))), (7, .long (wo A (gA σ 2 j))), (6, .int (nI j)), (0, .ref (a 0)), (1, .int (nI d))]) (k0 := 4) dX12_byAll_249 rfl (inc_1 _) (ltn hn (by decide)) rfl ?_
              refine V.aload_n X 5 dX12_byAll_252 rfl rfl ?_
              refine Vg_r_0_nextPart X tw_836 dX12_byAll_253 ?_
              refine V.iload X 4 dX12_byAll_256 rfl ?_
              refine Va_r_nextPart (x := gP σ 2 j) X (by omega) dX12_byAll_258 rfl ?_
              refine V.topi (y := oI (ix d)[k + 1]?) (by rw [w5]) ?_
              refine V.istore X (lv' := [(6, .int (oI ((ix d)[k + 1]?))), (5, .int (nI (k + 1))), (2, .long (vTk A d (k + 1))), (4, .int (bI (lkT A d (k + 1)))), (7, .long (wo A (gA σ 2 j))), (0, .ref (a 0)), (1, .int (nI d))]) dX12_byAll_259 (ltn hn (by decide)) rfl ?_
              refine V.goto X 37 dX12_byAll_261 (by decide) ?_
              exact V.sub [0, 1, 3, 2, 5, 6] rfl (ih (k + 1) (by omega))
          · refine V.topi (y := nI 6) (by rw [s97]) (V.tableIn X 220 dX12_byAll_97 (by decide) (by decide) rfl (by decide) ?_)
            refine V.lload_n X 4 dX12_byAll_220 rfl rfl ?_
            refine V.aload_n X 5 dX12_byAll_221 rfl rfl ?_
            refine Vg_r_0_number X tw_830 dX12_byAll_222 ?_
            refine V.iload_n X 6 dX12_byAll_225 rfl rfl ?_
            refine Va_r_number (x := gJ σ 0 d) X (by omega) dX12_byAll_226 rfl ?_
            refine V.i2l X dX12_byAll_227 rfl ?_
            refine V.lmul X dX12_byAll_228 ?_
            refine V.lload X 1 dX12_byAll_229 rfl ?_
            refine V.ladd X dX12_byAll_231 ?_
            refine V.lstore_n X (lv' := [(2, .long (((vTk A d k) * (Int32.toInt64 (gJ σ 0 d))) + (wo A (gA σ 2 j)))), (4, .int (bI (lkT A d (k + 1)))), (7, .long (wo A (gA σ 2 j))), (6, .int (nI j)), (5, .int (nI k)), (0, .ref (a 0)), (1, .int (nI d))]) dX12_byAll_232 rfl (ltn hn (by decide)) rfl ?_
            refine V.goto X 249 dX12_byAll_233 (by decide) ?_
            have hst : vTk A d (k + 1) = ((vTk A d k) * (Int32.toInt64 (gJ σ 0 d))) + (wo A (gA σ 2 j)) := by rw [hvs, s97]; simp [wUp, q2]
            refine V.eql (lv' := [(2, .long (vTk A d (k + 1))), (4, .int (bI (lkT A d (k + 1)))), (7, .long (wo A (gA σ 2 j))), (6, .int (nI j)), (5, .int (nI k)), (0, .ref (a 0)), (1, .int (nI d))]) (by rw [hst]) ?_
            refine V.iinc X (v := nI (k + 1)) (lv' := [(5, .int (nI (k + 1))), (2, .long (vTk A d (k + 1))), (4, .int (bI (lkT A d (k + 1)))), (7, .long (wo A (gA σ 2 j))), (6, .int (nI j)), (0, .ref (a 0)), (1, .int (nI d))]) (k0 := 4) dX12_byAll_249 rfl (inc_1 _) (ltn hn (by decide)) rfl ?_
            refine V.aload_n X 5 dX12_byAll_252 rfl rfl ?_
            refine Vg_r_0_nextPart X tw_836 dX12_byAll_253 ?_
            refine V.iload X 4 dX12_byAll_256 rfl ?_
            refine Va_r_nextPart (x := gP σ 2 j) X (by omega) dX12_byAll_258 rfl ?_
            refine V.topi (y := oI (ix d)[k + 1]?) (by rw [w5]) ?_
            refine V.istore X (lv' := [(6, .int (oI ((ix d)[k + 1]?))), (5, .int (nI (k + 1))), (2, .long (vTk A d (k + 1))), (4, .int (bI (lkT A d (k + 1)))), (7, .long (wo A (gA σ 2 j))), (0, .ref (a 0)), (1, .int (nI d))]) dX12_byAll_259 (ltn hn (by decide)) rfl ?_
            refine V.goto X 37 dX12_byAll_261 (by decide) ?_
            exact V.sub [0, 1, 3, 2, 5, 6] rfl (ih (k + 1) (by omega))
          · refine V.topi (y := nI 7) (by rw [s97]) (V.tableIn X 249 dX12_byAll_97 (by decide) (by decide) rfl (by decide) ?_)
            exact absurd (q1.symm.trans s97) hk7
          · refine V.topi (y := nI 8) (by rw [s97]) (V.tableIn X 249 dX12_byAll_97 (by decide) (by decide) rfl (by decide) ?_)
            exact absurd (q1.symm.trans s97) hk8
          · refine V.topi (y := nI 9) (by rw [s97]) (V.tableIn X 249 dX12_byAll_97 (by decide) (by decide) rfl (by decide) ?_)
            have hst : vTk A d (k + 1) = vTk A d k := by rw [hvs, s97]; simp [wUp, q2]
            refine V.eql (lv' := [(4, .int (bI (lkT A d (k + 1)))), (7, .long (wo A (gA σ 2 j))), (6, .int (nI j)), (5, .int (nI k)), (2, .long (vTk A d (k + 1))), (0, .ref (a 0)), (1, .int (nI d))]) (by rw [hst]) ?_
            refine V.iinc X (v := nI (k + 1)) (lv' := [(5, .int (nI (k + 1))), (4, .int (bI (lkT A d (k + 1)))), (7, .long (wo A (gA σ 2 j))), (6, .int (nI j)), (2, .long (vTk A d (k + 1))), (0, .ref (a 0)), (1, .int (nI d))]) (k0 := 3) dX12_byAll_249 rfl (inc_1 _) (ltn hn (by decide)) rfl ?_
            refine V.aload_n X 5 dX12_byAll_252 rfl rfl ?_
            refine Vg_r_0_nextPart X tw_836 dX12_byAll_253 ?_
            refine V.iload X 3 dX12_byAll_256 rfl ?_
            refine Va_r_nextPart (x := gP σ 2 j) X (by omega) dX12_byAll_258 rfl ?_
            refine V.topi (y := oI (ix d)[k + 1]?) (by rw [w5]) ?_
            refine V.istore X (lv' := [(6, .int (oI ((ix d)[k + 1]?))), (5, .int (nI (k + 1))), (4, .int (bI (lkT A d (k + 1)))), (7, .long (wo A (gA σ 2 j))), (2, .long (vTk A d (k + 1))), (0, .ref (a 0)), (1, .int (nI d))]) dX12_byAll_259 (ltn hn (by decide)) rfl ?_
            refine V.goto X 37 dX12_byAll_261 (by decide) ?_
            exact V.sub [0, 1, 2, 4, 5, 6] rfl (ih (k + 1) (by omega))
          · refine V.topi (y := nI 10) (by rw [s97]) (V.tableIn X 236 dX12_byAll_97 (by decide) (by decide) rfl (by decide) ?_)
            refine V.lload_n X 4 dX12_byAll_236 rfl rfl ?_
            refine V.lload X 1 dX12_byAll_237 rfl ?_
            refine V.iload X 3 dX12_byAll_239 rfl ?_
            refine V.callS X rfl (k_turned (zl Z) (zG Z) (rw (zG Z) a σ) (wo A (gA σ 2 j)) k (by omega)) cs_X12_118 rfl (len hRf (by decide)) (len hRl (by decide)) hk0 ht0 [.long (vTk A d k)] rfl (Nat.le_of_ble_eq_true rfl) dX12_byAll_241 ?_
            rintro _ _ ⟨rfl, rfl⟩
            refine V.eqs (st' := [.long (rotL (wo A (gA σ 2 j)) (k % 64)), .long (vTk A d k)]) rfl ?_
            refine V.lxor X dX12_byAll_244 ?_
            refine V.lstore_n X (lv' := [(2, .long ((vTk A d k) ^^^ (rotL (wo A (gA σ 2 j)) (k % 64)))), (4, .int (bI (lkT A d (k + 1)))), (7, .long (wo A (gA σ 2 j))), (6, .int (nI j)), (5, .int (nI k)), (0, .ref (a 0)), (1, .int (nI d))]) dX12_byAll_245 rfl (ltn hn (by decide)) rfl ?_
            refine V.goto X 249 dX12_byAll_246 (by decide) ?_
            have hst : vTk A d (k + 1) = (vTk A d k) ^^^ (rotL (wo A (gA σ 2 j)) (k % 64)) := by rw [hvs, s97]; simp [wUp, q2]
            refine V.eql (lv' := [(2, .long (vTk A d (k + 1))), (4, .int (bI (lkT A d (k + 1)))), (7, .long (wo A (gA σ 2 j))), (6, .int (nI j)), (5, .int (nI k)), (0, .ref (a 0)), (1, .int (nI d))]) (by rw [hst]) ?_
            refine V.iinc X (v := nI (k + 1)) (lv' := [(5, .int (nI (k + 1))), (2, .long (vTk A d (k + 1))), (4, .int (bI (lkT A d (k + 1)))), (7, .long (wo A (gA σ 2 j))), (6, .int (nI j)), (0, .ref (a 0)), (1, .int (nI d))]) (k0 := 4) dX12_byAll_249 rfl (inc_1 _) (ltn hn (by decide)) rfl ?_
            refine V.aload_n X 5 dX12_byAll_252 rfl rfl ?_
            refine Vg_r_0_nextPart X tw_836 dX12_byAll_253 ?_
            refine V.iload X 4 dX12_byAll_256 rfl ?_
            refine Va_r_nextPart (x := gP σ 2 j) X (by omega) dX12_byAll_258 rfl ?_
            refine V.topi (y := oI (ix d)[k + 1]?) (by rw [w5]) ?_
            refine V.istore X (lv' := [(6, .int (oI ((ix d)[k + 1]?))), (5, .int (nI (k + 1))), (2, .long (vTk A d (k + 1))), (4, .int (bI (lkT A d (k + 1)))), (7, .long (wo A (gA σ 2 j))), (0, .ref (a 0)), (1, .int (nI d))]) dX12_byAll_259 (ltn hn (by decide)) rfl ?_
            refine V.goto X 37 dX12_byAll_261 (by decide) ?_
            exact V.sub [0, 1, 3, 2, 5, 6] rfl (ih (k + 1) (by omega))
          · refine V.tabOutN X 249 dX12_byAll_97 (by omega) (by omega) (by decide) ?_
            have hst : vTk A d (k + 1) = vTk A d k := by rw [hvs]; simp only [wUp]; rw [if_neg (by omega), if_neg (by omega), if_neg (by omega), if_neg (by omega), if_neg (by omega), if_neg (by omega), if_neg (by omega), if_neg (by omega), if_neg (by omega)]
            refine V.eql (lv' := [(4, .int (bI (lkT A d (k + 1)))), (7, .long (wo A (gA σ 2 j))), (6, .int (nI j)), (5, .int (nI k)), (2, .long (vTk A d (k + 1))), (0, .ref (a 0)), (1, .int (nI d))]) (by rw [hst]) ?_
            refine V.iinc X (v := nI (k + 1)) (lv' := [(5, .int (nI (k + 1))), (4, .int (bI (lkT A d (k + 1)))), (7, .long (wo A (gA σ 2 j))), (6, .int (nI j)), (2, .long (vTk A d (k + 1))), (0, .ref (a 0)), (1, .int (nI d))]) (k0 := 3) dX12_byAll_249 rfl (inc_1 _) (ltn hn (by decide)) rfl ?_
            refine V.aload_n X 5 dX12_byAll_252 rfl rfl ?_
            refine Vg_r_0_nextPart X tw_836 dX12_byAll_253 ?_
            refine V.iload X 3 dX12_byAll_256 rfl ?_
            refine Va_r_nextPart (x := gP σ 2 j) X (by omega) dX12_byAll_258 rfl ?_
            refine V.topi (y := oI (ix d)[k + 1]?) (by rw [w5]) ?_
            refine V.istore X (lv' := [(6, .int (oI ((ix d)[k + 1]?))), (5, .int (nI (k + 1))), (4, .int (bI (lkT A d (k + 1)))), (7, .long (wo A (gA σ 2 j))), (2, .long (vTk A d (k + 1))), (0, .ref (a 0)), (1, .int (nI d))]) dX12_byAll_259 (ltn hn (by decide)) rfl ?_
            refine V.goto X 37 dX12_byAll_261 (by decide) ?_
            exact V.sub [0, 1, 2, 4, 5, 6] rfl (ih (k + 1) (by omega))
  refine V.aload_n X 0 dX12_byAll_0 rfl rfl ?_
  refine Vg_r_0_kind X tw_829 dX12_byAll_1 ?_
  refine V.iload_n X 1 dX12_byAll_4 rfl rfl ?_
  refine Va_r_kind (x := gA σ 0 d) X (by omega) dX12_byAll_5 rfl ?_
  refine V.bipush X (v := nI 6) dX12_byAll_6 (by decide) ?_
  refine V.icmp_neN X 15 dX12_byAll_8 (by decide) (by omega) (by decide) (fun c8 => ?_) (fun c8 => ?_)
  · refine V.aload_n X 0 dX12_byAll_15 rfl rfl ?_
    refine Vg_r_0_number X tw_830 dX12_byAll_16 ?_
    refine V.iload_n X 1 dX12_byAll_19 rfl rfl ?_
    refine Va_r_number (x := gJ σ 0 d) X (by omega) dX12_byAll_20 rfl ?_
    refine V.i2l X dX12_byAll_21 rfl ?_
    refine V.lstore_n X (lv' := [(2, .long (Int32.toInt64 (gJ σ 0 d))), (0, .ref (a 0)), (1, .int (nI d))]) dX12_byAll_22 rfl (ltn hn (by decide)) rfl ?_
    refine V.eql (lv' := [(2, .long (vTk A d 0)), (0, .ref (a 0)), (1, .int (nI d))]) (by rw [vTk_0, if_neg (by omega), q2]) ?_
    refine V.iconst X (v := nI 1) dX12_byAll_23 (by decide) ?_
    refine V.istore X (lv' := [(4, .int (nI 1)), (2, .long (vTk A d 0)), (0, .ref (a 0)), (1, .int (nI d))]) dX12_byAll_24 (ltn hn (by decide)) rfl ?_
    refine V.eql (lv' := [(4, .int (bI (lkT A d 0))), (2, .long (vTk A d 0)), (0, .ref (a 0)), (1, .int (nI d))]) rfl ?_
    refine V.iconst X (v := nI 0) dX12_byAll_26 (by decide) ?_
    refine V.istore X (lv' := [(5, .int (nI 0)), (4, .int (bI (lkT A d 0))), (2, .long (vTk A d 0)), (0, .ref (a 0)), (1, .int (nI d))]) dX12_byAll_27 (ltn hn (by decide)) rfl ?_
    refine V.aload_n X 3 dX12_byAll_29 rfl rfl ?_
    refine Vg_r_0_firstPart X tw_832 dX12_byAll_30 ?_
    refine V.iload_n X 4 dX12_byAll_33 rfl rfl ?_
    refine Va_r_firstPart (x := gP σ 0 d) X (by omega) dX12_byAll_34 rfl ?_
    refine V.topi (y := oI (ix d)[0]?) (by rw [q5]) ?_
    refine V.istore X (lv' := [(6, .int (oI ((ix d)[0]?))), (5, .int (nI 0)), (4, .int (bI (lkT A d 0))), (2, .long (vTk A d 0)), (0, .ref (a 0)), (1, .int (nI d))]) dX12_byAll_35 (ltn hn (by decide)) rfl ?_
    exact V.sub [0, 1, 2, 3, 4, 5] rfl (LP (aP A d).length 0 (by omega))
  · refine V.lconst X (v := lN 0) dX12_byAll_11 (by decide) ?_
    refine V.goto X 22 dX12_byAll_12 (by decide) ?_
    refine V.lstore_n X (lv' := [(2, .long (lN 0)), (0, .ref (a 0)), (1, .int (nI d))]) dX12_byAll_22 rfl (ltn hn (by decide)) rfl ?_
    refine V.eql (lv' := [(2, .long (vTk A d 0)), (0, .ref (a 0)), (1, .int (nI d))]) (by rw [vTk_0, if_pos (by omega)]) ?_
    refine V.iconst X (v := nI 1) dX12_byAll_23 (by decide) ?_
    refine V.istore X (lv' := [(4, .int (nI 1)), (2, .long (vTk A d 0)), (0, .ref (a 0)), (1, .int (nI d))]) dX12_byAll_24 (ltn hn (by decide)) rfl ?_
    refine V.eql (lv' := [(4, .int (bI (lkT A d 0))), (2, .long (vTk A d 0)), (0, .ref (a 0)), (1, .int (nI d))]) rfl ?_
    refine V.iconst X (v := nI 0) dX12_byAll_26 (by decide) ?_
    refine V.istore X (lv' := [(5, .int (nI 0)), (4, .int (bI (lkT A d 0))), (2, .long (vTk A d 0)), (0, .ref (a 0)), (1, .int (nI d))]) dX12_byAll_27 (ltn hn (by decide)) rfl ?_
    refine V.aload_n X 3 dX12_byAll_29 rfl rfl ?_
    refine Vg_r_0_firstPart X tw_832 dX12_byAll_30 ?_
    refine V.iload_n X 4 dX12_byAll_33 rfl rfl ?_
    refine Va_r_firstPart (x := gP σ 0 d) X (by omega) dX12_byAll_34 rfl ?_
    refine V.topi (y := oI (ix d)[0]?) (by rw [q5]) ?_
    refine V.istore X (lv' := [(6, .int (oI ((ix d)[0]?))), (5, .int (nI 0)), (4, .int (bI (lkT A d 0))), (2, .long (vTk A d 0)), (0, .ref (a 0)), (1, .int (nI d))]) dX12_byAll_35 (ltn hn (by decide)) rfl ?_
    exact V.sub [0, 1, 2, 3, 4, 5] rfl (LP (aP A d).length 0 (by omega))

