theorem kq_bind (σ : St) (k : Nat) (v : Int32) (n : Nat) : kq (dBind σ k v n) = kq σ := rfl
theorem CI.bind {M : Mx} {K : St} {r : Nat} {B : Ar × List Nat} {σ : St} (h : CI M true K r B σ) {x n : Nat} (hr : r < aN M.1) (hx : x ≤ r) (hn : n ≤ B.2.length) (h1 : aN B.1 < 1500) (h2 : tot (aP B.1) (aN B.1) + n ≤ 4000) : CI M true K r (bnd B (aK M.1 x, aV M.1 x, n)) (dBind σ (gA σ 0 x) (gJ σ 0 x) n) := by
  obtain ⟨c1, c2, c3⟩ := h.cell hr hx
  have hk : aK M.1 x < 12 := by
    obtain ⟨q1, q2, q3, q4, q5, q6, q7, q8, q9, q10⟩ := h
    rw [← (q8.2 x (by omega)).1]; exact q5.2.2.1 x (by have := q8.1; omega)
  rw [c1, c2]
  obtain ⟨q1, q2, q3, q4, q5, q6, q7, q8, q9, q10⟩ := h
  obtain ⟨r1, r2⟩ := q4.bind (S := B.2) q6 (k := aK M.1 x) (v := aV M.1 x) hn
  refine ⟨q1, q2, q3, r1, ?_, r2, ?_, q8.ad _ _ _, q9, q10⟩
  · refine q5.ad h1 ?_ hk (fun p hp => q7 p (List.mem_of_mem_drop hp))
    show tot (aP B.1) (aN B.1) + (B.2.drop (B.2.length - n)).length ≤ 4000
    rw [List.length_drop]; omega
  · intro s hs
    have hs : s ∈ B.2.take (B.2.length - n) ++ [aN B.1] := hs
    show s < aN B.1 + 1
    rcases List.mem_append.mp hs with hs | hs
    · have := q7 s (List.mem_of_mem_take hs); omega
    · rw [List.mem_singleton] at hs; omega
theorem bnd_len {B : Ar × List Nat} {op : Op} (h : op.2.2 ≤ B.2.length) : (bnd B op).2.length + op.2.2 = B.2.length + 1 := by
  show (B.2.take (B.2.length - op.2.2) ++ [aN B.1]).length + _ = _
  simp; omega
theorem bnd_tot {B : Ar × List Nat} {op : Op} (h : op.2.2 ≤ B.2.length) : tot (aP (bnd B op).1) (aN (bnd B op).1) = tot (aP B.1) (aN B.1) + op.2.2 := by
  show tot (aP (adA B.1 op.1 op.2.1 _)) (aN (adA B.1 op.1 op.2.1 _)) = _
  rw [tot_ad, List.length_drop]; omega
theorem mo_t (ops : List Op) : mo true ops = ops := rfl
theorem mo_f (ops : List Op) : mo false ops = [] := rfl
set_option maxHeartbeats 2000000 in
theorem tkr_28 {M : Mx} {mk : Bool} {K : St} {r n0 : Nat} {BL : List Op} (hA : WA M.1) (hr : r < aN M.1) (hroom : mk = true → aN M.1 + BL.length ≤ 1500 ∧ tot (aP M.1) (aN M.1) + (BL.length - 1) ≤ 4000) :
    TKR id (fun x => x ≤ r) (nA M.1) (cho M) (fun _ => false) 28 (eX8 M mk K r n0 BL) (eL8 M mk K r n0 BL) (eH8 M mk K r) := by
  have hE := hA.eld
  have hr15 : r < 1500 := by have := hA.1; omega
  refine ⟨fun c s σ h => h.2.1.dv hr, fun x c s σ h => h.2.1.dv hr, fun σ ⟨ops, h⟩ => h.dv hr, ?_, ?_, ?_, ?_⟩
  · intro σ w h12 ⟨ops, h⟩
    have g3 : gB (halt σ w) 3 = gB σ 3 := by show (if 3 = gN σ 12 then true else gB σ 3) = _; rw [if_neg (by omega)]
    have g4 : gB (halt σ w) 4 = gB σ 4 := by show (if 4 = gN σ 12 then true else gB σ 4) = _; rw [if_neg (by omega)]
    refine ⟨ops, h.up ?_ (fun ho => (h.2.2.2.2.2.2.2.2.2 ho).2)⟩
    simp only [ckk, g3, g4]
    rfl
  · intro x t c s σ h12 hU hk ⟨e1, e2, e3, e4, e5, e6⟩ hn
    have hU : x ≤ r := hU
    have hl : (cho M x).length ≤ t := by rw [cho_len]; simp only [nA] at hn; omega
    have hg3 : gB σ 3 = mk := e2.1
    have hgz : gZ σ 0 (c.length + 1) = fl M ((x, 0) :: c) := e3.1
    have ega : fl M ((x, 0) :: c) = true → gA σ 10 (c.length + 1) = (kcx M x).length := by
      intro hf
      rw [e3.2.1 hf, Nat.sub_zero, List.take_of_length_le hl]; rfl
    have hod : OKd σ x := (e2.dv hr x hU).1
    have hprep : mk = true → fl M ((x, 0) :: c) = true → (kcx M x).length ≤ (bns (dn M 0 ((x, t) :: c)) (M.1, [])).2.length ∧ aN (bns (dn M 0 ((x, t) :: c)) (M.1, [])).1 < 1500 ∧ tot (aP (bns (dn M 0 ((x, t) :: c)) (M.1, [])).1) (aN (bns (dn M 0 ((x, t) :: c)) (M.1, [])).1) + (kcx M x).length ≤ 4000 ∧ (bns (dn M 0 ((x, t) :: c)) (M.1, [])).2.length < 1500 := by
      intro hmk hf
      obtain ⟨f1, f2⟩ := e4 hmk
      obtain ⟨g1, g2⟩ := hroom hmk
      rw [ln_leave hl, if_pos hf] at f1
      rw [rO_leave hl, if_pos hf] at e6
      have hlen : (dn M 0 ((x, t) :: c)).length + 1 ≤ BL.length := by rw [← e6]; simp
      have hN := bns_N (dn M 0 ((x, t) :: c)) (M.1, [])
      have e2' := e2
      rw [hmk, mo_t] at e2'
      have ht := e2'.2.2.2.2.2.2.2.1.tot
      have hN : aN (bns (dn M 0 ((x, t) :: c)) (M.1, [])).1 = aN M.1 + (dn M 0 ((x, t) :: c)).length := hN
      exact ⟨by omega, by omega, by omega, by omega⟩
    refine ⟨hl, ⟨hk, hod, fun h => by omega, fun _ hb hz => ?_⟩, ?_⟩
    · have hmk : mk = true := by rw [← hg3]; exact hb
      have hf : fl M ((x, 0) :: c) = true := by rw [← hgz]; exact hz
      obtain ⟨p1, p2, p3, p4⟩ := hprep hmk hf
      have e2' := e2
      rw [hmk, mo_t] at e2'
      obtain ⟨c1, c2, c3, c4, c5, c6, c7, c8, c9, c10⟩ := e2'
      have c41 := c4.1
      have c61 := c6.1
      rw [ega hf]
      refine ⟨by omega, by omega, by omega, by omega, ?_⟩
      rw [c41, c4.2.2.1 _ (Nat.le_refl _)]; omega
    · rw [tLeave_28 h12, tL28]
      show eL8 M mk K r n0 BL x c s (if gB σ 3 = true ∧ gZ σ 0 (c.length + 1) = true then dBind σ (gA σ 0 x) (gJ σ 0 x) (gA σ 10 (c.length + 1)) else σ)
      rw [hg3, hgz]
      have hops := dn_leave hE hl (c := c)
      by_cases hb : mk = true ∧ fl M ((x, 0) :: c) = true
      · rw [if_pos hb]
        obtain ⟨hmk, hf⟩ := hb
        obtain ⟨p1, p2, p3, p4⟩ := hprep hmk hf
        rw [if_pos hf] at hops
        have hO : oL8 M x c = dn M 0 ((x, t) :: c) ++ [opx M x] := hops.symm
        subst hmk
        rw [ega hf]
        rw [mo_t] at e2
        have hB : bns (oL8 M x c) (M.1, []) = bnd (bns (dn M 0 ((x, t) :: c)) (M.1, [])) (opx M x) := by rw [hO, bns_snoc]
        have b1 := bnd_len (B := bns (dn M 0 ((x, t) :: c)) (M.1, [])) (op := opx M x) p1
        have b2 := bnd_tot (B := bns (dn M 0 ((x, t) :: c)) (M.1, [])) (op := opx M x) p1
        have b3 : (opx M x).2.2 = (kcx M x).length := rfl
        obtain ⟨f1, f2⟩ := e4 rfl
        refine ⟨e1.2, ?_, ?_, fun _ => ⟨?_, ?_⟩, ?_, ?_, ?_⟩
        · rw [mo_t, hB]; exact e2.bind hr hU p1 p2 p3
        · exact e3.2.2.2.up e1.2 (fun j hj => ⟨rfl, rfl⟩) (fun _ _ _ h => h)
        · rw [hB, if_pos hf]; rw [ln_leave hl, if_pos hf] at f1; omega
        · rw [hB, b2, hO, List.length_append, List.length_singleton]; omega
        · show gN σ 15 = _
          rw [e5, hO, kf, fl_t M x t 0, if_pos hf, List.length_append, List.length_singleton]; omega
        · rw [hO, ← e6, rO_leave hl, if_pos hf]; simp
        · show gZ σ 0 (c.length + 1) = _
          exact hgz
      · rw [if_neg hb]
        rcases hmk : mk with _ | _
        · -- only counted
          rw [hmk] at e2 e4
          refine ⟨e1.2, e2, e3.2.2.2, fun h => (by cases h), ?_, ?_, hgz⟩
          · rw [e5, kf, fl_t M x t 0, oL8, ← hops, List.length_append]
            cases fl M ((x, 0) :: c) <;> simp <;> omega
          · rw [oL8, ← hops, ← e6, rO_leave hl, List.append_assoc]
        · have hf : fl M ((x, 0) :: c) = false := by
            cases hz : fl M ((x, 0) :: c)
            · rfl
            · exact absurd ⟨hmk, hz⟩ hb
          rw [hf] at hops
          have hops : dn M 0 ((x, t) :: c) = oL8 M x c := by rw [oL8, hf, ← hops]; simp
          rw [hmk] at e2 e4
          refine ⟨e1.2, by rw [← hops]; exact e2, e3.2.2.2, fun h => ⟨?_, ?_⟩, ?_, ?_, hgz⟩
          · rw [← hops, (e4 h).1, ln_leave hl, hf]; simp
          · rw [← hops]; exact (e4 h).2
          · rw [e5, kf, fl_t M x t 0, hf, hops]; simp
          · rw [← hops, ← e6, rO_leave hl, hf]; simp
  · intro x t c s σ h12 hU hk ⟨e1, e2, e3, e4, e5, e6⟩ hn
    have hU : x ≤ r := hU
    have hn : t < (aP M.1 x).length := hn
    have n12 : gN (nxt1 σ (c.length + 1) t) 12 = 28 := h12
    have eN : CI M mk K r (bns (mo mk (dn M 0 ((x, t) :: c))) (M.1, [])) (nxt1 σ (c.length + 1) t) := e2
    obtain ⟨p, hp⟩ : ∃ p, (cho M x)[t]? = some p := ⟨_, List.getElem?_eq_getElem (by rw [cho_len]; exact hn)⟩
    have hod : OKd (nxt1 σ (c.length + 1) t) x := (eN.dv hr x hU).1
    have hnp : npt (nxt1 σ (c.length + 1) t) x = (aP M.1 x).length := (eN.dv hr x hU).2
    rw [tChS_no (by omega) (by omega), hp]
    refine ⟨pC_of (by omega) (by omega) hk hod (by show t < npt (nxt1 σ (c.length + 1) t) x; omega), ?_, rfl, fun h => (by cases h), ?_⟩
    · have eR : tChR (nxt1 σ (c.length + 1) t) (c.length + 1) (id x) t = tC28 (nxt1 σ (c.length + 1) t) x t := by simp [tChR, n12]
      rw [eR, tC28, show gB (nxt1 σ (c.length + 1) t) 4 = M.2.2 from e2.2.1]
      by_cases ho : M.2.2 = true
      · rw [if_pos ho, (eN.cell hr hU).2.2]
        have := e3.2.2.1 ho t (by rw [cho_len]; exact hn)
        rw [show gA (nxt1 σ (c.length + 1) t) 11 (tot (aP M.1) x + t) = (cho M x).getD t 0 from this, List.getD_eq_getElem?_getD, hp]; rfl
      · rw [if_neg ho, eN.pr hr hU, ← hp, cho, if_neg ho]; cases (aP M.1 x)[t]? <;> rfl
    · intro p' hp' hUp
      have hpp : p' = p := (Option.some.inj hp').symm
      subst hpp
      have hUp : p' ≤ r := hUp
      have hlt : p' < x := hA.lt (cho_mem (List.mem_of_getElem? hp))
      have hd1 := e1.1
      simp only [id] at hd1
      have v12 : gN (visPre (nxt1 σ (c.length + 1) t) (c.length + 2) p') 12 = 28 := h12
      have eV : CI M mk K r (bns (mo mk (dn M 0 ((x, t) :: c))) (M.1, [])) (visPre (nxt1 σ (c.length + 1) t) (c.length + 2) p') := e2
      have hodp := eV.dv hr p' hUp
      obtain ⟨w1, w2, w3⟩ := eV.cell hr hUp
      have hnpp : npt (visPre (nxt1 σ (c.length + 1) t) (c.length + 2) p') p' = (aP M.1 p').length := hodp.2
      have hkp : kpt (visPre (nxt1 σ (c.length + 1) t) (c.length + 2) p') (c.length + 2) p' = fl M ((p', 0) :: (x, t + 1) :: c) := by
        rw [kpt, fl_p, lfo, w1, w2, show gI (visPre (nxt1 σ (c.length + 1) t) (c.length + 2) p') 6 = M.2.1 from e2.2.2.1, show gZ (visPre (nxt1 σ (c.length + 1) t) (c.length + 2) p') 0 (c.length + 2 - 1) = fl M ((x, 0) :: c) from e3.1, show decide (c.length + 2 = 1) = false by simp]; rfl
      have hent : tEnter (visPre (nxt1 σ (c.length + 1) t) (c.length + 2) p') (c.length + 2) p' = tE28 (visPre (nxt1 σ (c.length + 1) t) (c.length + 2) p') (c.length + 2) p' := tEnter_28 v12 _ _
      have g11 : gA (tE28 (visPre (nxt1 σ (c.length + 1) t) (c.length + 2) p') (c.length + 2) p') 11 = if gB σ 4 = true then srtA (gL σ 2) (gA σ 11) (gA σ 1 p') (npt σ p') else gA σ 11 := rfl
      have hsort : M.2.2 = true → RNG M.1 (tE28 (visPre (nxt1 σ (c.length + 1) t) (c.length + 2) p') (c.length + 2) p') p' (cho M p') ∧ (∀ d l, ¬ d = p' → l.length = (aP M.1 d).length → RNG M.1 σ d l → RNG M.1 (tE28 (visPre (nxt1 σ (c.length + 1) t) (c.length + 2) p') (c.length + 2) p') d l) := by
        intro ho
        refine RNG.sort ho hE hUp (e2.2.2.2.2.2.2.2.2.2 ho).1 ((e2.2.2.2.2.2.2.2.2.2 ho).2 p' hUp) ?_
        rw [g11, e2.2.1, if_pos ho, (e2.cell hr hUp).2.2, show npt σ p' = (aP M.1 p').length from (e2.dv hr p' hUp).2]
      have hnos : ¬ M.2.2 = true → gA (tE28 (visPre (nxt1 σ (c.length + 1) t) (c.length + 2) p') (c.length + 2) p') 11 = gA σ 11 := fun ho => by rw [g11, e2.2.1, if_neg ho]
      have eT : CI M mk K r (bns (mo mk (dn M 0 ((x, t) :: c))) (M.1, [])) (tE28 (visPre (nxt1 σ (c.length + 1) t) (c.length + 2) p') (c.length + 2) p') := by
        refine e2.up rfl (fun ho d hd => ?_)
        by_cases hdp : d = p'
        · rw [hdp]; exact Or.inr (hsort ho).1
        · rcases (e2.2.2.2.2.2.2.2.2.2 ho).2 d hd with q | q
          · exact Or.inl ((hsort ho).2 d _ hdp rfl q)
          · exact Or.inr ((hsort ho).2 d _ hdp (cho_len M d) q)
      refine ⟨⟨_, e2⟩, ?_, fun h => ?_, fun h => (by cases h), fun _ => ?_⟩
      · refine ⟨by omega, hodp.1, fun h => absurd (v12.symm.trans h) (by decide), fun h => absurd (v12.symm.trans h) (by decide), fun _ => ⟨by omega, fun hb j hj1 hj2 => ?_⟩⟩
        have ho : M.2.2 = true := by rw [← e2.2.1]; exact hb
        have hj1 : tot (aP M.1) p' ≤ j := by rw [← w3]; exact hj1
        have hj2 : j < tot (aP M.1) p' + (aP M.1 p').length := by
          have q : gA (visPre (nxt1 σ (c.length + 1) t) (c.length + 2) p') 1 (p' + 1) - gA (visPre (nxt1 σ (c.length + 1) t) (c.length + 2) p') 1 p' = (aP M.1 p').length := hnpp
          have hj2 : j < gA (visPre (nxt1 σ (c.length + 1) t) (c.length + 2) p') 1 (p' + 1) := hj2
          omega
        have hin : ∀ l : List Nat, l.length = (aP M.1 p').length → (∀ q ∈ l, q ∈ aP M.1 p') → RNG M.1 σ p' l → gA σ 11 j < 1500 := by
          intro l hl hm hR
          have := hR (j - tot (aP M.1) p') (by omega)
          rw [show tot (aP M.1) p' + (j - tot (aP M.1) p') = j by omega] at this
          rw [this, List.getD_eq_getElem?_getD, List.getElem?_eq_getElem (by omega)]
          have hq := hA.lt (hm _ (List.getElem_mem (show j - tot (aP M.1) p' < l.length by omega)))
          show l[j - tot (aP M.1) p'] < 1500
          omega
        show gA σ 11 j < 1500
        rcases (e2.2.2.2.2.2.2.2.2.2 ho).2 p' hUp with q | q
        · exact hin _ rfl (fun q h => h) q
        · exact hin _ (cho_len M p') (fun q h => cho_mem h) q
      · show ovr (tEnter (visPre (nxt1 σ (c.length + 1) t) (c.length + 2) p') (c.length + 2) p') = false
        rw [hent]
        have o12 : gN (tE28 (visPre (nxt1 σ (c.length + 1) t) (c.length + 2) p') (c.length + 2) p') 12 = 28 := h12
        rw [ovr, o12]
        rw [ovr, h12] at h
        exact h
      · show eX8 M mk K r n0 BL ((p', 0) :: (x, t + 1) :: c) _ (tEnter (visPre (nxt1 σ (c.length + 1) t) (c.length + 2) p') (c.length + 2) p')
        rw [hent]
        refine ⟨⟨by simp only [id, List.length_cons]; omega, ⟨by simp only [id]; omega, e1.2⟩⟩, by rw [dn_enter]; exact eT, ⟨?_, fun _ => ?_, fun ho => (hsort ho).1, ?_⟩, fun h => by rw [dn_enter, ln_enter]; exact e4 h, ?_, by rw [dn_enter, rO_enter hE hp]; exact e6⟩
        · show (if c.length + 2 = c.length + 2 then kpt (visPre (nxt1 σ (c.length + 1) t) (c.length + 2) p') (c.length + 2) p' else gZ σ 0 (c.length + 2)) = _
          rw [if_pos rfl]; exact hkp
        · show (if c.length + 2 = c.length + 2 then 0 else gA σ 10 (c.length + 2)) = _
          rw [if_pos rfl]; rfl
        · refine FI.up (σ := σ) (r := r) (c := (x, t + 1) :: c) (u := 1) ⟨e3.1, e3.2.1, e3.2.2.1, e3.2.2.2⟩ ⟨by simp only [id]; omega, e1.2⟩ (fun j hj => ⟨?_, ?_⟩) (fun ho d hd hR => ?_)
          · show (if j = c.length + 2 then _ else gZ σ 0 j) = gZ σ 0 j
            rw [if_neg (by simp only [List.length_cons] at hj; omega)]
          · show (if j = c.length + 2 then _ else gA σ 10 j) = gA σ 10 j
            rw [if_neg (by simp only [List.length_cons] at hj; omega)]
          · by_cases hdp : d = p'
            · rw [hdp]; exact (hsort ho).1
            · exact (hsort ho).2 d _ hdp (cho_len M d) hR
        · show gN σ 15 + (if kpt (visPre (nxt1 σ (c.length + 1) t) (c.length + 2) p') (c.length + 2) p' = true then 1 else 0) = _
          rw [hkp, dn_enter, kf, show kf M ((x, t + 1) :: c) = kf M ((x, t) :: c) from rfl, e5]; omega
  · intro x t c s σ p h12 hU hUp hk hn hp ⟨e1, e2, e3, e4, e5, e6, e7⟩
    have hO : oL8 M p ((x, t + 1) :: c) = dn M 0 ((x, t + 1) :: c) := dn_take hp
    rw [hO] at e2 e4 e5 e6
    rw [tTake_28 h12]
    have eg : gZ σ 0 (c.length + 1 + 1) = (fl M ((x, 0) :: c) && !lo M p) := e7
    refine ⟨e1, e2.up rfl (fun ho => (e2.2.2.2.2.2.2.2.2.2 ho).2), ⟨e3.1, fun hf => ?_, e3.2.2.1, ?_⟩, fun h => ?_, e5, e6⟩
    · show (if c.length + 1 = c.length + 1 then gA σ 10 (c.length + 1) + (if gZ σ 0 (c.length + 1 + 1) = true then 1 else 0) else gA σ 10 (c.length + 1)) = _
      have hf : fl M ((x, 0) :: c) = true := hf
      rw [if_pos rfl, e3.2.1 hf, eg, hf, Nat.add_sub_cancel, Nat.sub_zero, List.take_succ, hp, Option.toList, kpl_snoc]
      cases lo M p <;> simp
    · refine e3.2.2.2.up e1.2 (fun j hj => ⟨rfl, ?_⟩) (fun _ _ _ h => h)
      show (if j = c.length + 1 then _ else gA σ 10 j) = gA σ 10 j
      rw [if_neg (by omega)]
    · obtain ⟨f1, f2⟩ := e4 h
      exact ⟨by rw [f1]; exact ln_take hp, f2⟩
