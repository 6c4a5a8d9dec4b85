def rdX (S : AS) : Option Nat × List Op := prs (yP S) 30000 none 0 [] []
def sp_read (S : AS) : Int32 × AS := if (rdX S).1 = none then (if aN (yA S) + (rdX S).2.length ≤ 1500 ∧ tot (aP (yA S)) (aN (yA S)) + ((rdX S).2.length - 1) ≤ 4000 then (nI (aN (yA S) + (rdX S).2.length - 1), stA S (bns (rdX S).2 (yA S, [])).1) else (-4, S)) else (-10 - nI ((rdX S).1.getD 0), S)
theorem prs_len (P : List Nat) : ∀ (f : Nat) (md : Option (Option (Nat × Int32))) (at_ : Nat) (O : Opn) (ops : List Op), (prs P f md at_ O ops).2.length ≤ ops.length + f
  | 0, _, _, _, ops => by simp [prs]
  | f + 1, none, at_, O, ops => by
    simp only [prs]
    split
    · simp
    · next k hk =>
      split
      · have := prs_len P f (some (some (k, pNv P (at_ + 1)))) (pNe P (at_ + 1)) O ops; omega
      · simp
  | f + 1, some (some kv), at_, O, ops => by
    simp only [prs]
    split
    · have := prs_len P f none (at_ + 1) ((kv.1, kv.2, 0) :: O) ops; omega
    · have := prs_len P f (some none) at_ (incT O) (ops ++ [(kv.1, kv.2, 0)]); simp only [List.length_append, List.length_singleton] at this; omega
  | f + 1, some none, at_, [], ops => by simp [prs]
  | f + 1, some none, at_, q :: O, ops => by
    simp only [prs]
    split
    · have := prs_len P f (some none) (at_ + 1) (incT O) (ops ++ [q]); simp only [List.length_append, List.length_singleton] at this; omega
    · split
      · have := prs_len P f none (at_ + 1) (q :: O) ops; omega
      · simp
theorem last_bns {A : Ar} {ops : List Op} (h : (bns ops (A, [])).2.length = 1) : (bns ops (A, [])).2 = [aN A + ops.length - 1] ∧ 1 ≤ ops.length := by
  rcases List.eq_nil_or_concat ops with rfl | ⟨l, op, rfl⟩
  · simp [bns] at h
  · rw [List.concat_eq_append] at h ⊢
    rw [bns_snoc] at h ⊢
    have e : (bnd (bns l (A, [])) op).2 = (bns l (A, [])).2.take ((bns l (A, [])).2.length - op.2.2) ++ [aN (bns l (A, [])).1] := rfl
    rw [e] at h ⊢
    rw [List.length_append, List.length_singleton] at h
    have h0 : ((bns l (A, [])).2.take ((bns l (A, [])).2.length - op.2.2)).length = 0 := by omega
    rw [List.length_eq_zero_iff.mp h0, bns_N, List.length_append, List.length_singleton]
    simp
theorem prs_ne (P : List Nat) : ∀ (f : Nat) (md : Option (Option (Nat × Int32))) (at_ : Nat) (O : Opn) (ops : List Op), (md = some none → ops ≠ []) → (prs P f md at_ O ops).1 = none → (prs P f md at_ O ops).2 ≠ []
  | 0, _, _, _, ops, _, h => by simp [prs] at h
  | f + 1, none, at_, O, ops, h, h0 => by
    simp only [prs] at h0 ⊢
    split at h0
    · cases h0
    · split at h0
      · next hg => rw [if_pos hg]; exact prs_ne P f _ _ _ _ (fun z => by cases z) h0
      · cases h0
  | f + 1, some (some kv), at_, O, ops, h, h0 => by
    simp only [prs] at h0 ⊢
    split at h0
    · next hg => rw [if_pos hg]; exact prs_ne P f _ _ _ _ (fun z => by cases z) h0
    · next hg => rw [if_neg hg]; exact prs_ne P f _ _ _ _ (fun _ => by simp) h0
  | f + 1, some none, at_, [], ops, h, h0 => h rfl
  | f + 1, some none, at_, q :: O, ops, h, h0 => by
    simp only [prs] at h0 ⊢
    split at h0
    · next hg => rw [if_pos hg]; exact prs_ne P f _ _ _ _ (fun _ => by simp) h0
    · next hg =>
      rw [if_neg hg]
      split at h0
      · next hg2 => rw [if_pos hg2]; exact prs_ne P f _ _ _ _ (fun z => by cases z) h0
      · cases h0
theorem prs_pos (P : List Nat) : ∀ (f : Nat) (md : Option (Option (Nat × Int32))) (at_ : Nat) (O : Opn) (ops : List Op), at_ ≤ P.length → ∀ p, (prs P f md at_ O ops).1 = some p → p ≤ P.length
  | 0, _, at_, _, ops, h, p, hp => by
    have hp : some at_ = some p := hp
    have := Option.some.inj hp
    omega
  | f + 1, none, at_, O, ops, h, p, hp => by
    simp only [prs] at hp
    split at hp
    · have := Option.some.inj hp
      omega
    · next k hk =>
      have hlt : at_ < P.length := by
        by_cases z : at_ < P.length
        · exact z
        · rw [pKd, List.getElem?_eq_none (by omega)] at hk; cases hk
      split at hp
      · next hg => exact prs_pos P f _ _ _ _ (pNe_le (by omega)) p hp
      · have := Option.some.inj hp
        have := pNe_le (P := P) (i := at_ + 1) (by omega)
        omega
  | f + 1, some (some kv), at_, O, ops, h, p, hp => by
    simp only [prs] at hp
    split at hp
    · next hg => exact prs_pos P f _ _ _ _ (by have := (List.getElem?_eq_some_iff.mp hg).1; omega) p hp
    · exact prs_pos P f _ _ _ _ h p hp
  | f + 1, some none, at_, [], ops, h, p, hp => by
    simp only [prs] at hp
    split at hp
    · cases hp
    · have := Option.some.inj hp
      omega
  | f + 1, some none, at_, q :: O, ops, h, p, hp => by
    simp only [prs] at hp
    split at hp
    · next hg => exact prs_pos P f _ _ _ _ (by have := (List.getElem?_eq_some_iff.mp hg).1; omega) p hp
    · split at hp
      · next hg => exact prs_pos P f _ _ _ _ (by have := (List.getElem?_eq_some_iff.mp hg).1; omega) p hp
      · have := Option.some.inj hp
        omega
theorem RC.ofky {S : AS} {σ τ : St} {A : Ar} (h : RC S σ) (hA : WA A) (hR : RCd A τ) (h0 : gN τ 0 = 0) (e : ky τ = ky σ) : RC (stA S A) τ := by
  obtain ⟨⟨o1, o2⟩, h1, h2, h3, h4, h5, h6, h7, h8, h9, h10⟩ := h
  simp only [ky, Prod.mk.injEq] at e
  obtain ⟨e2, e3, e4, e5, e6, e7, e8, e9⟩ := e
  exact ⟨⟨hA, o2⟩, hR, h0, e2.trans h3, e3.trans h4, e4.trans h5, fun i hi => (congrFun e5 i).trans (h6 i hi), e6.trans h7, e7.trans h8, e8.trans h9, fun k => by rw [e9]; exact h10 k⟩
theorem cl_read (l : Launch) (G : Gx) (a : Nat → Nat) {S : AS} {σ : St} (h : RC S σ) : MM l G ⟨"NestedDeeds", "read", "()I"⟩ prog_1_method_25_code 2 (some .int) 5 150 [.ref (a 0)] (cw G a σ) (PC G a (sp_read S).2 (.int (sp_read S).1)) := by
  have h0 := h
  obtain ⟨⟨o1, o2, o3, o4, o5, o6, o7⟩, h1, h2, h3, h4, h5, h6, h7⟩ := h
  have hK : ∀ τ, ky τ = ky σ → PAT (yP S) τ := by
    intro τ e
    simp only [ky, Prod.mk.injEq] at e
    obtain ⟨e2, e3, e4, e5, e6, e7, e8, e9⟩ := e
    exact ⟨e4.trans h5, fun i hi => (congrFun e5 i).trans (h6 i hi)⟩
  have hRB : ∀ (mk : Bool) (τ : St), RCd (yA S) τ → gN τ 0 = 0 → ky τ = ky σ → RB mk (yA S) σ 0 [] [] 0 (scI τ mk) := by
    intro mk τ t1 t2 t3
    have hB : bns (mo mk []) (yA S, []) = (yA S, []) := by cases mk <;> rfl
    refine ⟨rfl, rfl, trivial, rfl, rfl, ?_, fun _ => ⟨rfl, rfl⟩⟩
    rw [ARCH, hB]
    exact ⟨t1, o1, ⟨t2, fun i hi => by simp at hi⟩, fun s hs => by simp at hs, EXT.rfl' _, t3⟩
  have hR : prs (yP S) 30000 none 0 [] [] = rdX S := rfl
  have hl30 := prs_len (yP S) 30000 none 0 [] []
  rw [hR] at hl30
  obtain ⟨s1, s2, s3, ⟨ops0, s4⟩, s5⟩ := scn_spec (A := yA S) (R := rdX S) o5 o6 hK (fun z => by cases z) 6001 30000 0 [] [] (scI σ false) (hRB false σ h1 h2 rfl) (Nat.zero_le _) (by simp) (by simp) (by omega) (by omega) hR
  have s3 : gN (rdS σ) 5 ≤ 6001 := s3
  have s4 : ARCH false (yA S) σ ops0 (rdS σ) := s4
  obtain ⟨a1, a2, a3, a4, a5, a6⟩ := s4
  have hRCS : RC S (rdS σ) := h0.ofky o1 a1 a3.1 a6
  have hset : ∀ (A : Ar) (τ : St), WA A → RCd A τ → ky τ = ky σ → RC (stA S A) (sN τ 0 0) := fun A τ q1 q2 q3 => h0.ofky q1 q2 rfl q3
  have hn1 : gN (rdS σ) 1 = aN (yA S) := hRCS.n1
  have hto : gA (rdS σ) 1 (gN (rdS σ) 1) = tot (aP (yA S)) (aN (yA S)) := hRCS.tot
  have hne : (rdX S).1 = none → 1 ≤ (rdX S).2.length := fun hz => by
    have := prs_ne (yP S) 30000 none 0 [] [] (fun z => by cases z) hz
    have := List.length_pos_iff.mpr this
    exact this
  have h6 : (rdX S).1 = none → gN (rdS σ) 6 = (rdX S).2.length := fun hz => (s5 hz).2.1
  have hmake : (rdX S).1 = none → aN (yA S) + (rdX S).2.length ≤ 1500 ∧ tot (aP (yA S)) (aN (yA S)) + ((rdX S).2.length - 1) ≤ 4000 → scP 6001 (scI (rdS σ) true) ∧ ARCH true (yA S) σ (rdX S).2 (rdM σ) ∧ (bns (rdX S).2 (yA S, [])).2.length = 1 := by
    intro hz hr
    obtain ⟨t1, t2, t3, t4, t5⟩ := scn_spec (mk := true) (A := yA S) (R := rdX S) o5 o6 hK (fun _ => hr) 6001 30000 0 [] [] (scI (rdS σ) true) (hRB true (rdS σ) a1 a3.1 a6) (Nat.zero_le _) (by simp) (by simp) (by omega) (by omega) hR
    exact ⟨t1, (t5 hz).1, (t5 hz).2.2 rfl⟩
  refine (n_read l G a σ ⟨s1, by omega, fun hz => ?_⟩ (fun p hp => ?_)).mono ?_
  · rw [s2] at hz
    have e6 := h6 hz
    have e1 := hne hz
    simp only [List.length_nil] at hl30
    refine ⟨hRCS.dok, by omega, by omega, fun hr => (hmake hz ?_).1⟩
    rw [hto, hn1, e6] at hr
    exact hr
  · rw [s2] at hp
    have hp : (rdX S).1 = some p := hp
    have := prs_pos (yP S) 30000 none 0 [] [] (Nat.zero_le _) p hp
    omega
  · intro rv w ⟨hr, hw⟩
    rw [sp_read]
    by_cases hz : (rdX S).1 = none
    · rw [if_pos hz]
      obtain ⟨r1, r2⟩ := rd_none (s2.trans hz)
      rw [hto, hn1, h6 hz] at r1 r2
      rw [r1] at hr
      rw [r2] at hw
      by_cases q : aN (yA S) + (rdX S).2.length ≤ 1500 ∧ tot (aP (yA S)) (aN (yA S)) + ((rdX S).2.length - 1) ≤ 4000
      · rw [if_pos q] at hr hw ⊢
        obtain ⟨_, m1, m2⟩ := hmake hz q
        obtain ⟨b1, b2, b3, b4, b5, b6⟩ := m1
        rw [mo_t] at b1 b2 b3
        have hl := (last_bns m2).1
        refine ⟨?_, _, hw, hset _ _ b2 b1 b6⟩
        rw [hr, b3.2 0 (by omega), hl]; rfl
      · rw [if_neg q] at hr hw ⊢
        exact ⟨hr, _, hw, hRCS⟩
    · rw [if_neg hz]
      obtain ⟨p, hp⟩ := Option.ne_none_iff_exists'.mp hz
      obtain ⟨r1, r2⟩ := rd_some (s2.trans hp)
      rw [r1] at hr
      rw [r2] at hw
      refine ⟨by rw [hr, hp]; rfl, _, hw, hRCS⟩
