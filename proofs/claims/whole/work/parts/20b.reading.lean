def ky (σ : St) : Nat × Nat × Nat × (Nat → Nat) × Int32 × Nat × Nat × (Nat → Nat) := (gN σ 7, gN σ 8, gN σ 2, gA σ 12, gI σ 2, gN σ 9, gN σ 11, gA σ 8)
def ARCH (mk : Bool) (A : Ar) (K : St) (ops : List Op) (σ : St) : Prop :=
  RCd (bns (mo mk ops) (A, [])).1 σ ∧ WA (bns (mo mk ops) (A, [])).1 ∧ LSE (bns (mo mk ops) (A, [])).2 σ ∧ (∀ s ∈ (bns (mo mk ops) (A, [])).2, s < aN (bns (mo mk ops) (A, [])).1) ∧ EXT A (bns (mo mk ops) (A, [])).1 ∧ ky σ = ky K
theorem ARCH.bind {A : Ar} {K : St} {ops : List Op} {σ : St} (h : ARCH true A K ops σ) {k n : Nat} {v : Int32} (hk : k < 12) (hn : n ≤ (bns ops (A, [])).2.length) (h1 : aN (bns ops (A, [])).1 < 1500) (h2 : tot (aP (bns ops (A, [])).1) (aN (bns ops (A, [])).1) + n ≤ 4000) : ARCH true A K (ops ++ [(k, v, n)]) (dBind σ k v n) := by
  obtain ⟨q4, q5, q6, q7, q8, q9⟩ := h
  rw [mo_t] at q4 q5 q6 q7 q8
  obtain ⟨r1, r2⟩ := q4.bind (S := (bns ops (A, [])).2) q6 (k := k) (v := v) hn
  rw [ARCH, mo_t, bns_snoc]
  refine ⟨r1, ?_, r2, ?_, q8.ad _ _ _, q9⟩
  · refine q5.ad h1 ?_ hk (fun p hp => q7 p (List.mem_of_mem_drop hp))
    show tot (aP (bns ops (A, [])).1) (aN (bns ops (A, [])).1) + ((bns ops (A, [])).2.drop ((bns ops (A, [])).2.length - n)).length ≤ 4000
    rw [List.length_drop]; omega
  · intro s hs
    have hs : s ∈ (bns ops (A, [])).2.take ((bns ops (A, [])).2.length - n) ++ [aN (bns ops (A, [])).1] := hs
    show s < aN (bns ops (A, [])).1 + 1
    rcases List.mem_append.mp hs with hs | hs
    · have := q7 s (List.mem_of_mem_take hs); omega
    · rw [List.mem_singleton] at hs; omega
def OPN : Opn → St → Prop
  | [], _ => True
  | (k, v, n) :: O, σ => gA σ 4 O.length = k ∧ gJ σ 1 O.length = v ∧ gA σ 5 O.length = n ∧ k < 12 ∧ OPN O σ
theorem OPN.up {σ τ : St} : ∀ {O : Opn}, OPN O σ → (∀ j, j < O.length → gA τ 4 j = gA σ 4 j ∧ gJ τ 1 j = gJ σ 1 j ∧ gA τ 5 j = gA σ 5 j) → OPN O τ
  | [], _, _ => trivial
  | (k, v, n) :: O, h, e => by
    obtain ⟨h1, h2, h3, h4, h5⟩ := h
    obtain ⟨e1, e2, e3⟩ := e O.length (by simp)
    exact ⟨e1.trans h1, e2.trans h2, e3.trans h3, h4, h5.up (fun j hj => e j (by simp; omega))⟩
def RB (mk : Bool) (A : Ar) (K : St) (at_ : Nat) (O : Opn) (ops : List Op) (sz : Nat) (σ : St) : Prop :=
  gN σ 5 = at_ ∧ gN σ 4 = O.length ∧ OPN O σ ∧ gN σ 6 = ops.length ∧ gB σ 2 = mk ∧ ARCH mk A K ops σ ∧
  (mk = true → (bns ops (A, [])).2.length = sz ∧ tot (aP (bns ops (A, [])).1) (aN (bns ops (A, [])).1) + sz = tot (aP A) (aN A) + ops.length)
theorem OPN.inc {O : Opn} {σ : St} (h : OPN O σ) (h4 : gN σ 4 = O.length) : OPN (incT O) (fd1 σ) := by
  rcases O with _ | ⟨⟨k, v, n⟩, O⟩
  · trivial
  · obtain ⟨h1, h2, h3, h5, h6⟩ := h
    simp only [List.length_cons] at h4
    have e5 : ∀ j, gA (fd1 σ) 5 j = if j = gN σ 4 - 1 then gA σ 5 (gN σ 4 - 1) + 1 else gA σ 5 j := by
      intro j
      show (if 0 < gN σ 4 then va_up (gA σ 5) (gN σ 4 - 1) (gA σ 5 (gN σ 4 - 1) + 1) else gA σ 5) j = _
      rw [if_pos (by omega)]; rfl
    refine ⟨h1, h2, ?_, h5, h6.up (fun j hj => ⟨rfl, rfl, ?_⟩)⟩
    · rw [e5, if_pos (by omega), show gN σ 4 - 1 = O.length by omega, h3]
    · rw [e5, if_neg (by omega)]
theorem fin_spec {mk : Bool} {A : Ar} {K : St} {at_ : Nat} {O : Opn} {ops : List Op} {sz : Nat} {σ : St} (h : RB mk A K at_ O ops sz σ) {k n : Nat} {v : Int32} (hk : k < 12) (hn : n ≤ sz) (hO : O.length ≤ 2001) (h6 : ops.length < 2 ^ 30)
    (hroom : mk = true → aN A + ops.length < 1500 ∧ tot (aP A) (aN A) + ops.length ≤ 4000) : fdP σ n ∧ RB mk A K at_ (incT O) (ops ++ [(k, v, n)]) (sz - n + 1) (fdS σ k v n) := by
  obtain ⟨q1, q2, q3, q4, q5, q6, q7⟩ := h
  cases mk with
  | false =>
    have e : fdS σ k v n = fd1 σ := by rw [fdS, if_neg (by rw [q5]; decide)]
    refine ⟨⟨by omega, by omega, fun hb => by rw [q5] at hb; cases hb⟩, ?_⟩
    rw [e]
    refine ⟨q1, by rw [inc_len]; exact q2, q3.inc q2, ?_, q5, q6, fun hb => by cases hb⟩
    show gN σ 6 + 1 = _
    rw [q4]; simp
  | true =>
    obtain ⟨s1, s2⟩ := q7 rfl
    obtain ⟨r1, r2⟩ := hroom rfl
    have hN : aN (bns ops (A, [])).1 = aN A + ops.length := bns_N ops (A, [])
    obtain ⟨a1, a2, a3, a4, a5, a6⟩ := q6
    rw [mo_t] at a1 a2 a3 a4 a5
    have ht := a5.tot
    have e : fdS σ k v n = dBind (fd1 σ) k v n := by rw [fdS, if_pos q5]
    refine ⟨⟨by omega, by omega, fun _ => ⟨by rw [a1.1]; omega, by rw [a3.1]; omega, by rw [a3.1]; omega, by rw [a3.1]; omega, by rw [a1.1, a1.2.2.1 _ (Nat.le_refl _)]; omega⟩⟩, ?_⟩
    rw [e]
    have hA : ARCH true A K ops (fd1 σ) := ⟨a1, a2, a3, a4, a5, a6⟩
    refine ⟨q1, by rw [inc_len]; exact q2, (q3.inc q2).up (fun _ _ => ⟨rfl, rfl, rfl⟩), ?_, q5, hA.bind hk (by omega) (by omega) (by omega), fun _ => ?_⟩
    · show gN σ 6 + 1 = _
      rw [q4]; simp
    · rw [bns_snoc]
      have b1 := bnd_len (B := bns ops (A, [])) (op := (k, v, n)) (by show n ≤ _; omega)
      have b2 := bnd_tot (B := bns ops (A, [])) (op := (k, v, n)) (by show n ≤ _; omega)
      have b1 : (bnd (bns ops (A, [])) (k, v, n)).2.length + n = (bns ops (A, [])).2.length + 1 := b1
      have b2 : tot (aP (bnd (bns ops (A, [])) (k, v, n)).1) (aN (bnd (bns ops (A, [])) (k, v, n)).1) = tot (aP (bns ops (A, [])).1) (aN (bns ops (A, [])).1) + n := b2
      rw [List.length_append, List.length_singleton]
      exact ⟨by omega, by omega⟩
def RRm (mk : Bool) (A : Ar) (R : Option Nat × List Op) : Prop := mk = true → aN A + R.2.length ≤ 1500 ∧ tot (aP A) (aN A) + (R.2.length - 1) ≤ 4000
theorem RRm.pre {mk : Bool} {A : Ar} {R : Option Nat × List Op} (h : RRm mk A R) {ops : List Op} {op : Op} {P : List Nat} {F at_ : Nat} {md : Option (Option (Nat × Int32))} {O : Opn} (e : prs P F md at_ O (ops ++ [op]) = R) : mk = true → aN A + ops.length < 1500 ∧ tot (aP A) (aN A) + ops.length ≤ 4000 := by
  intro hm
  obtain ⟨t, ht⟩ := prs_ext P F md at_ O (ops ++ [op])
  have hl : R.2.length = ops.length + 1 + t.length := by rw [← e, ht]; simp; omega
  have := h hm
  omega
theorem cl_spec {P : List Nat} {mk : Bool} {A : Ar} {K : St} {R : Option Nat × List Op} (hP : P.length ≤ 6000) (hb : ∀ b ∈ P, b < 256) (hK : ∀ τ, ky τ = ky K → PAT P τ) (hroom : RRm mk A R) :
    ∀ (n : Nat) (O : Opn) (at_ : Nat) (ops : List Op) (σ : St) (F : Nat), O.length = n → RB mk A K at_ O ops (szC O) σ → at_ ≤ P.length → ops.length + O.length ≤ at_ → 3 * O.length ≤ at_ → 4 * (P.length - at_) + 2 ≤ F → prs P F (some none) at_ O ops = R →
      clP n σ ∧ ∃ at2 O2 ops2 F2, RB mk A K at2 O2 ops2 (szC O2) (clS n σ) ∧ at_ ≤ at2 ∧ at2 ≤ P.length ∧ ops2.length + O2.length ≤ at2 ∧ 3 * O2.length ≤ at2 ∧ 4 * (P.length - at2) + 2 ≤ F2 ∧ prs P F2 (some none) at2 O2 ops2 = R ∧ (O2 = [] ∨ ¬ P[at2]? = some 41) := by
  have hrd : ∀ τ, ky τ = ky K → gN τ 5 ≤ 6001 → rdOK τ := by
    intro τ e h5
    have hp := hK τ e
    refine ⟨by rw [hp.1]; exact hP, fun j hj => ?_, h5⟩
    rw [hp.1] at hj
    rw [hp.2 j hj, List.getD_eq_getElem?_getD, List.getElem?_eq_getElem hj]
    exact hb _ (List.getElem_mem hj)
  intro n
  induction n with
  | zero =>
    intro O at_ ops σ F hn h h1 h2 h3 h4 h5
    have : O = [] := List.length_eq_zero_iff.mp hn
    subst this
    exact ⟨⟨hrd σ h.2.2.2.2.2.1.2.2.2.2.2 (by rw [h.1]; omega), h.2.1⟩, at_, [], ops, F, h, Nat.le_refl _, h1, h2, h3, h4, h5, Or.inl rfl⟩
  | succ n ih =>
    intro O at_ ops σ F hn h h1 h2 h3 h4 h5
    rcases O with _ | ⟨⟨k, v, m⟩, O⟩
    · cases hn
    · simp only [List.length_cons] at hn h2 h3
      have hpat : patA σ (gN σ 5) = P[at_]? := by rw [h.1]; exact (hK σ h.2.2.2.2.2.1.2.2.2.2.2).at at_
      have h4n : gN σ 4 = n + 1 := by rw [h.2.1]; exact hn ▸ rfl
      have hOl : O.length = n := by omega
      by_cases q : P[at_]? = some 41
      · cases F with
        | zero => omega
        | succ F =>
          rw [prs, if_pos q] at h5
          have hlt : at_ < P.length := (List.getElem?_eq_some_iff.mp q).1
          obtain ⟨g1, g2, g3, g4, g5, g6, g7⟩ := h
          obtain ⟨o1, o2, o3, o4, o5⟩ := g3
          have hτ : RB mk A K at_ O ops (szC ((k, v, m) :: O)) (sN σ 4 (gN σ 4 - 1)) := by
            refine ⟨g1, ?_, o5.up (fun _ _ => ⟨rfl, rfl, rfl⟩), g4, g5, g6, g7⟩
            show gN σ 4 - 1 = _
            omega
          rw [szC_cons] at hτ
          obtain ⟨f1, f2⟩ := fin_spec hτ (k := k) (v := v) (n := m) o4 (by simp [szO]) (by omega) (by omega) (hroom.pre h5)
          have esz : szO ((k, v, m) :: O) - m + 1 = szC (incT O) := by rw [szC_inc]; simp [szO]
          rw [esz] at f2
          have ec : clN σ = sN (fdS (sN σ 4 (gN σ 4 - 1)) k v m) 5 (at_ + 1) := by
            rw [clN, g1, show gN σ 4 - 1 = O.length by omega, o1, o2, o3]
          have hcN : RB mk A K (at_ + 1) (incT O) (ops ++ [(k, v, m)]) (szC (incT O)) (clN σ) := by
            rw [ec]
            obtain ⟨u1, u2, u3, u4, u5, u6, u7⟩ := f2
            exact ⟨rfl, u2, u3.up (fun _ _ => ⟨rfl, rfl, rfl⟩), u4, u5, u6, u7⟩
          obtain ⟨i1, at2, O2, ops2, F2, i2, i3, i4, i5, i6, i7, i8, i9⟩ := ih (incT O) (at_ + 1) (ops ++ [(k, v, m)]) (clN σ) F (by rw [inc_len]; exact hOl) hcN (by omega) (by rw [inc_len]; simp; omega) (by rw [inc_len]; omega) (by omega) h5
          refine ⟨⟨hrd σ g6.2.2.2.2.2 (by omega), h4n, by omega, fun _ => ⟨?_, i1⟩⟩, at2, O2, ops2, F2, ?_, by omega, i4, i5, i6, i7, i8, i9⟩
          · rw [show gN σ 4 - 1 = O.length by omega, o3]
            rw [show gN σ 4 - 1 = O.length by omega] at f1
            exact f1
          · rw [clS, if_pos ⟨by omega, by rw [hpat]; exact q⟩]; exact i2
      · refine ⟨⟨hrd σ h.2.2.2.2.2.1.2.2.2.2.2 (by rw [h.1]; omega), h4n, by omega, fun hc => ?_⟩, at_, (k, v, m) :: O, ops, F, ?_, Nat.le_refl _, h1, by simp; omega, by simp; omega, h4, h5, Or.inr q⟩
        · rw [clC, hpat] at hc; exact absurd hc.2 q
        · rw [clS, if_neg (fun z => q (by rw [← hpat]; exact z.2))]; exact h
def EDR (mk : Bool) (A : Ar) (K : St) (R : Option Nat × List Op) (σ : St) : Prop := gN σ 5 ≤ 6001 ∧ (∃ ops, ARCH mk A K ops σ) ∧ (R.1 = none → ARCH mk A K R.2 σ ∧ gN σ 6 = R.2.length ∧ (mk = true → (bns R.2 (A, [])).2.length = 1))
set_option maxHeartbeats 1000000 in
theorem scn_spec {P : List Nat} {mk : Bool} {A : Ar} {K : St} {R : Option Nat × List Op} (hP : P.length ≤ 6000) (hb : ∀ b ∈ P, b < 256) (hK : ∀ τ, ky τ = ky K → PAT P τ) (hroom : RRm mk A R) :
    ∀ (f F at_ : Nat) (O : Opn) (ops : List Op) (σ : St), RB mk A K at_ O ops (szO O) σ → at_ ≤ P.length → ops.length + O.length ≤ at_ → 3 * O.length ≤ at_ → 6001 ≤ f + at_ → 4 * (P.length - at_) + 4 ≤ F → prs P F none at_ O ops = R → scP f σ ∧ (scn f σ).2 = R.1 ∧ EDR mk A K R (scn f σ).1 := by
  have hrd : ∀ τ, ky τ = ky K → gN τ 5 ≤ 6001 → rdOK τ := by
    intro τ e h5
    have hp := hK τ e
    refine ⟨by rw [hp.1]; exact hP, fun j hj => ?_, h5⟩
    rw [hp.1] at hj
    rw [hp.2 j hj, List.getD_eq_getElem?_getD, List.getElem?_eq_getElem hj]
    exact hb _ (List.getElem_mem hj)
  intro f
  induction f with
  | zero => intro F at_ O ops σ h h1 h2 h3 h4; omega
  | succ f ih =>
    intro F at_ O ops σ h h1 h2 h3 h4 h5 h6
    obtain ⟨g1, g2, g3, g4, g5, g6, g7⟩ := h
    have gk := g6.2.2.2.2.2
    have hpt := hK σ gk
    obtain ⟨k1, k2⟩ := pat_K hpt hb
    rw [g1] at k1 k2
    cases F with
    | zero => omega
    | succ F =>
      rw [prs] at h6
      rcases hk : pKd P at_ with _ | k
      · rw [hk] at k1 h6
        have k1 : skB σ = false := k1
        have hs : skS σ = sI σ 0 (skV σ) := by rw [skS, if_neg (by rw [k1]; decide)]
        have h6 : (some at_, ops) = R := h6
        subst h6
        refine ⟨⟨hrd σ gk (by omega), by omega, fun z => by rw [k1] at z; cases z⟩, ?_, ?_⟩
        · rw [scn, if_pos k1, hs]; show some (gN σ 5) = _; rw [g1]
        · rw [scn, if_pos k1, hs]
          exact ⟨by show gN σ 5 ≤ 6001; omega, ⟨ops, g6⟩, fun z => by cases z⟩
      · rw [hk] at k1 h6
        obtain ⟨v1, v2, v3⟩ := k2 k hk
        have k1 : skB σ = true := k1
        have hs : skS σ = sN (sI σ 0 (skV σ)) 5 (at_ + 1) := by rw [skS, if_pos k1, g1]
        have e15 : gN (skS σ) 5 = at_ + 1 := by rw [hs]; rfl
        have ek1 : ky (skS σ) = ky K := by rw [hs]; exact gk
        have hpt1 := hK _ ek1
        have eOK : snOK (skS σ) = pGood P (at_ + 1) := by rw [pat_OK hpt1 (by omega), e15]
        obtain ⟨s1, s2⟩ := pat_S hpt1 (by omega)
        rw [e15] at s1 s2
        have s1 : gN (sc1 σ) 5 = pNe P (at_ + 1) := s1
        have hsc1 : ∀ (i : Nat), gA (sc1 σ) i = gA σ i := fun i => by rw [sc1, hs]; rfl
        have eksc : ky (sc1 σ) = ky K := by
          have : ky (sc1 σ) = ky (skS σ) := rfl
          rw [this]; exact ek1
        have hAR : ARCH mk A K ops (sc1 σ) := by
          rw [sc1, hs]; exact g6
        have hne := pNe_le (P := P) (i := at_ + 1) (by omega)
        by_cases hg : pGood P (at_ + 1) = true
        · have h6 : prs P F (some (some (k, pNv P (at_ + 1)))) (pNe P (at_ + 1)) O ops = R := by simpa [hg] using h6
          have eOK : snOK (skS σ) = true := by rw [eOK]; exact hg
          obtain ⟨p1, p2⟩ := pGood_pos (P := P) (i := at_ + 1) (by omega) hg
          have s2 : gI (sc1 σ) 1 = pNv P (at_ + 1) := s2 hg
          have s0 : gI (sc1 σ) 0 = nI k := by
            have : gI (sc1 σ) 0 = skV σ := by rw [sc1, hs]; rfl
            rw [this, v1]
          have sK : kI (sc1 σ) = k := by rw [kI, s0, nI_clamp (by omega)]
          have s4 : gN (sc1 σ) 4 = O.length := by
            have : gN (sc1 σ) 4 = gN σ 4 := by rw [sc1, hs]; rfl
            rw [this, g2]
          have hRB1 : RB mk A K (pNe P (at_ + 1)) O ops (szO O) (sc1 σ) := by
            refine ⟨s1, s4, ?_, ?_, ?_, hAR, g7⟩
            · rw [sc1, hs]; exact g3.up (fun _ _ => ⟨rfl, rfl, rfl⟩)
            · rw [sc1, hs]; exact g4
            · rw [sc1, hs]; exact g5
          have hrd1 := hrd (skS σ) ek1 (by omega)
          have hrdc := hrd (sc1 σ) eksc (by omega)
          have hpc : patA (sc1 σ) (gN (sc1 σ) 5) = P[pNe P (at_ + 1)]? := by rw [s1]; exact (hK _ eksc).at _
          cases F with
          | zero => omega
          | succ F =>
            rw [prs] at h6
            by_cases q : P[pNe P (at_ + 1)]? = some 40
            · rw [if_pos q] at h6
              have hlt : pNe P (at_ + 1) < P.length := (List.getElem?_eq_some_iff.mp q).1
              have hcnd : patA (sc1 σ) (gN (sc1 σ) 5) = some 40 ∧ gN (sc1 σ) 4 < 2001 := ⟨by rw [hpc]; exact q, by omega⟩
              have hRB2 : RB mk A K (pNe P (at_ + 1) + 1) ((k, pNv P (at_ + 1), 0) :: O) ops (szO ((k, pNv P (at_ + 1), 0) :: O)) (odS (sc1 σ)) := by
                obtain ⟨u1, u2, u3, u4, u5, u6, u7⟩ := hRB1
                refine ⟨?_, ?_, ⟨?_, ?_, ?_, v2, u3.up (fun j hj => ⟨?_, ?_, ?_⟩)⟩, u4, u5, u6, ?_⟩
                · show gN (sc1 σ) 5 + 1 = _; rw [u1]
                · show gN (sc1 σ) 4 + 1 = _; rw [u2]; rfl
                · show (if O.length = gN (sc1 σ) 4 then kI (sc1 σ) else gA (sc1 σ) 4 O.length) = _
                  rw [if_pos u2.symm, sK]
                · show (if O.length = gN (sc1 σ) 4 then gI (sc1 σ) 1 else gJ (sc1 σ) 1 O.length) = _
                  rw [if_pos u2.symm, s2]
                · show (if O.length = gN (sc1 σ) 4 then 0 else gA (sc1 σ) 5 O.length) = _
                  rw [if_pos u2.symm]
                · show (if j = gN (sc1 σ) 4 then kI (sc1 σ) else gA (sc1 σ) 4 j) = _
                  rw [if_neg (by omega)]
                · show (if j = gN (sc1 σ) 4 then gI (sc1 σ) 1 else gJ (sc1 σ) 1 j) = _
                  rw [if_neg (by omega)]
                · show (if j = gN (sc1 σ) 4 then 0 else gA (sc1 σ) 5 j) = _
                  rw [if_neg (by omega)]
                · simp only [szO, Nat.zero_add]; exact u7
              obtain ⟨i1, i2, i3⟩ := ih F (pNe P (at_ + 1) + 1) ((k, pNv P (at_ + 1), 0) :: O) ops (odS (sc1 σ)) hRB2 (by omega) (by simp; omega) (by simp; omega) (by omega) (by omega) h6
              have hsn : scn (f + 1) σ = scn f (odS (sc1 σ)) := by
                rw [scn, if_neg (by rw [k1]; decide), if_neg (by rw [eOK]; decide), if_pos hcnd]
              rw [hsn]
              refine ⟨⟨hrd σ gk (by omega), by omega, fun _ => ⟨hrd1, by omega, fun _ => ⟨hrdc, by omega, by rw [s0, sK], fun _ => i1, fun z => absurd hcnd z⟩⟩⟩, i2, i3⟩
            · rw [if_neg q] at h6
              have hncnd : ¬ (patA (sc1 σ) (gN (sc1 σ) 5) = some 40 ∧ gN (sc1 σ) 4 < 2001) := fun z => q (by rw [← hpc]; exact z.1)
              obtain ⟨f1, f2⟩ := fin_spec hRB1 (k := k) (v := pNv P (at_ + 1)) (n := 0) v2 (Nat.zero_le _) (by omega) (by omega) (hroom.pre h6)
              have e2 : sc2 σ = fdS (sc1 σ) k (pNv P (at_ + 1)) 0 := by rw [sc2, sK, s2]
              rw [Nat.sub_zero, ← szC_inc, ← e2] at f2
              have e24 : gN (sc2 σ) 4 = O.length := by rw [f2.2.1, inc_len]
              obtain ⟨c1, at2, O2, ops2, F2, c2, c3, c4, c5, c6, c7, c8, c9⟩ := cl_spec hP hb hK hroom O.length (incT O) (pNe P (at_ + 1)) (ops ++ [(k, pNv P (at_ + 1), 0)]) (sc2 σ) F (inc_len O) f2 p2 (by rw [inc_len]; simp; omega) (by rw [inc_len]; omega) (by omega) h6
              have e3 : sc3 σ = clS O.length (sc2 σ) := by rw [sc3, e24]
              rw [← e3] at c2
              obtain ⟨d1, d2, d3, d4, d5, d6, d7⟩ := c2
              have dk := d6.2.2.2.2.2
              have hp3 : patA (sc3 σ) (gN (sc3 σ) 5) = P[at2]? := by rw [d1]; exact (hK _ dk).at _
              have e32 : gN (sc3 σ) 2 = P.length := (hK _ dk).1
              cases F2 with
              | zero => omega
              | succ F2 =>
                rcases O2 with _ | ⟨q2, O2⟩
                · rw [prs] at c8
                  have h40 : gN (sc3 σ) 4 = 0 := d2
                  have hsn : scn (f + 1) σ = (sc3 σ, if gN (sc3 σ) 5 = gN (sc3 σ) 2 then none else some (gN (sc3 σ) 5)) := by
                    rw [scn, if_neg (by rw [k1]; decide), if_neg (by rw [eOK]; decide), if_neg hncnd, if_pos h40]
                  rw [hsn]
                  have hR1 : R.1 = if at2 = P.length then none else some at2 := by rw [← c8]
                  have hR2 : R.2 = ops2 := by rw [← c8]
                  refine ⟨⟨hrd σ gk (by omega), by omega, fun _ => ⟨hrd1, by omega, fun _ => ⟨hrdc, by omega, by rw [s0, sK], fun z => absurd z hncnd, fun _ => ⟨f1, by rw [e24]; exact c1, hrd _ dk (by omega), by omega, fun z => absurd h40 z⟩⟩⟩⟩, ?_, ?_, ⟨ops2, d6⟩, fun _ => ?_⟩
                  · rw [hR1]; show (if gN (sc3 σ) 5 = gN (sc3 σ) 2 then none else some (gN (sc3 σ) 5)) = _
                    rw [d1, e32]
                  · show gN (sc3 σ) 5 ≤ 6001; omega
                  · rw [hR2]
                    exact ⟨d6, d4, fun hm => (d7 hm).1⟩
                · have h40 : ¬ gN (sc3 σ) 4 = 0 := by rw [d2]; simp
                  have hn41 : ¬ P[at2]? = some 41 := by
                    rcases c9 with c9 | c9
                    · cases c9
                    · exact c9
                  rw [prs, if_neg hn41] at c8
                  by_cases q44 : P[at2]? = some 44
                  · rw [if_pos q44] at c8
                    have hlt : at2 < P.length := (List.getElem?_eq_some_iff.mp q44).1
                    have hRB4 : RB mk A K (at2 + 1) (q2 :: O2) ops2 (szO (q2 :: O2)) (sN (sc3 σ) 5 (gN (sc3 σ) 5 + 1)) := by
                      rw [szC_cons] at d7
                      refine ⟨?_, d2, d3.up (fun _ _ => ⟨rfl, rfl, rfl⟩), d4, d5, d6, d7⟩
                      show gN (sc3 σ) 5 + 1 = _; rw [d1]
                    obtain ⟨i1, i2, i3⟩ := ih F2 (at2 + 1) (q2 :: O2) ops2 _ hRB4 (by omega) (by omega) (by omega) (by omega) (by omega) c8
                    have hsn : scn (f + 1) σ = scn f (sN (sc3 σ) 5 (gN (sc3 σ) 5 + 1)) := by
                      rw [scn, if_neg (by rw [k1]; decide), if_neg (by rw [eOK]; decide), if_neg hncnd, if_neg h40, if_pos (by rw [hp3]; exact q44)]
                    rw [hsn]
                    have hl2 : (q2 :: O2).length ≤ 2000 := by omega
                    exact ⟨⟨hrd σ gk (by omega), by omega, fun _ => ⟨hrd1, by omega, fun _ => ⟨hrdc, by omega, by rw [s0, sK], fun z => absurd z hncnd, fun _ => ⟨f1, by rw [e24]; exact c1, hrd _ dk (by omega), by omega, fun _ _ => i1⟩⟩⟩⟩, i2, i3⟩
                  · rw [if_neg q44] at c8
                    have hsn : scn (f + 1) σ = (sc3 σ, some (gN (sc3 σ) 5)) := by
                      rw [scn, if_neg (by rw [k1]; decide), if_neg (by rw [eOK]; decide), if_neg hncnd, if_neg h40, if_neg (by rw [hp3]; exact q44)]
                    rw [hsn]
                    subst c8
                    refine ⟨⟨hrd σ gk (by omega), by omega, fun _ => ⟨hrd1, by omega, fun _ => ⟨hrdc, by omega, by rw [s0, sK], fun z => absurd z hncnd, fun _ => ⟨f1, by rw [e24]; exact c1, hrd _ dk (by omega), by omega, fun _ z => ?_⟩⟩⟩⟩, ?_, ?_, ⟨ops2, d6⟩, fun z => by cases z⟩
                    · rw [hp3] at z; exact absurd z q44
                    · show some (gN (sc3 σ) 5) = some at2; rw [d1]
                    · show gN (sc3 σ) 5 ≤ 6001; omega
        · have h6 : (some (pNe P (at_ + 1)), ops) = R := by simpa [hg] using h6
          have eOK : snOK (skS σ) = false := by rw [eOK]; simpa using hg
          have hsn : scn (f + 1) σ = (sc1 σ, some (gN (sc1 σ) 5)) := by rw [scn, if_neg (by rw [k1]; decide), if_pos eOK]
          rw [hsn]
          subst h6
          refine ⟨⟨hrd σ gk (by omega), by omega, fun _ => ⟨hrd (skS σ) ek1 (by omega), by omega, fun z => by rw [eOK] at z; cases z⟩⟩, ?_, ?_, ⟨ops, hAR⟩, fun z => by cases z⟩
          · show some (gN (sc1 σ) 5) = some _; rw [s1]
          · show gN (sc1 σ) 5 ≤ 6001; omega
