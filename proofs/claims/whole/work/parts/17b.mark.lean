theorem foldl_cong {α β : Type} {f g : β → α → β} : ∀ {l : List α} {b : β}, (∀ b x, x ∈ l → f b x = g b x) → l.foldl f b = l.foldl g b
  | [], _, _ => rfl
  | x :: l, b, h => by
    rw [List.foldl_cons, List.foldl_cons, h b x (List.mem_cons_self ..)]
    exact foldl_cong (fun b y hy => h b y (List.mem_cons_of_mem _ hy))
theorem runW_ans {X : Type} {bot : Nat} : ∀ (L : List (X × Nat)) {s : List (X × Nat) × Int32 × Bool}, (s.2.1 = 0 ↔ s.2.2 = false) → ((runW bot (fun _ => false) L s).2.1 = 0 ↔ (runW bot (fun _ => false) L s).2.2 = false)
  | [], _, h => h
  | x :: L, s, h => by
    rw [runW_cons]
    refine runW_ans L ?_
    rw [stp]
    split
    · exact h
    · next h0 =>
      split
      · simp
      · split
        · simp
        · simp only [iff_true]; exact h.mpr (by simpa using h0)
/-- MARK -/
def mrF (A : Ar) : Nat → Nat → Int64
  | 0, _ => 0
  | f + 1, d => endedL ((aP A d).foldl (fun h p => withL h (mrF A f p)) (begunL (aK A d) (aV A d)))
def mrk (A : Ar) (d : Nat) : Int64 := mrF A (d + 1) d
theorem mrF_st {A : Ar} (hE : ELD (aP A) id) : ∀ (f d : Nat), d < f → mrF A f d = mrk A d := by
  have main : ∀ (f g d : Nat), d < f → d < g → mrF A f d = mrF A g d := by
    intro f
    induction f with
    | zero => intro g d h; omega
    | succ f ih =>
      intro g d h1 h2
      cases g with
      | zero => omega
      | succ g =>
        simp only [mrF]
        rw [foldl_cong (fun b p hp => by rw [ih g p (by have := hE d p hp; simp only [id] at this; omega) (by have := hE d p hp; simp only [id] at this; omega)])]
  exact fun f d h => main f (d + 1) d h (Nat.lt_succ_self _)
theorem mrk_eq {A : Ar} (hE : ELD (aP A) id) (d : Nat) : mrk A d = endedL ((aP A d).foldl (fun h p => withL h (mrk A p)) (begunL (aK A d) (aV A d))) := by
  rw [mrk, mrF, foldl_cong (fun b p hp => by rw [mrF_st hE d p (by have := hE d p hp; simpa using this)])]
def mAc (A : Ar) (d t : Nat) : Int64 := ((aP A d).take t).foldl (fun h p => withL h (mrk A p)) (begunL (aK A d) (aV A d))
theorem mAc_succ {A : Ar} {d t p : Nat} (h : (aP A d)[t]? = some p) : mAc A d (t + 1) = withL (mAc A d t) (mrk A p) := by
  simp only [mAc, List.take_succ, h, List.foldl_append, Option.toList]; rfl
theorem mAc_end {A : Ar} (hE : ELD (aP A) id) {d t : Nat} (h : (aP A d).length ≤ t) : endedL (mAc A d t) = mrk A d := by
  rw [mrk_eq hE, mAc, List.take_of_length_le h]
theorem go_23 {A : Ar} {σ : St} {d : Nat} (hG : RG A σ) (hd : d < aN A) : preG σ 23 d ∧ RW (runW (goB σ) (fun _ => false) (vis (aP A) id d 1) ([], 0, false)) (goW σ 23 d) ∧ kp (goW σ 23 d) = kp σ ∧ ((runW (goB σ) (fun _ => false) (vis (aP A) id d 1) ([], 0, false)).2.1 = 0 → gL (goW σ 23 d) 0 1 = mrk A d) := by
  have hA := hG.2.1
  have hR : ∀ ρ, kp ρ = kp σ → RCd A ρ := fun ρ e => hG.1.ofk e
  have hT : TB id (UA A) (nA A) (aP A) (fun _ => false) 23 (fun ρ => kp ρ = kp σ) (fun ρ x t k => gL ρ 0 k = mAc A x t) (fun _ _ _ _ => True) (fun ρ x k => gL ρ 0 k = mrk A x) := by
    refine ⟨fun ρ e => (hR ρ e).dv hA, fun ρ w _ e => e, fun x => Nat.le_refl _, ?_, ?_, ?_⟩
    · intro ρ x t k h12 hU hk e hP hl
      rw [tLeave_23 h12]
      refine ⟨pL_of (by omega) (by omega) hk ((hR ρ e).okd hA hU), e, ?_, ?_⟩
      · show (if k = k then endedL (gL ρ 0 k) else gL ρ 0 k) = _
        rw [if_pos rfl, hP]; exact mAc_end hA.eld hl
      · intro y u j hj hQ
        show (if j = k then endedL (gL ρ 0 k) else gL ρ 0 j) = _
        rw [if_neg (by omega)]; exact hQ
    · intro ρ x t k h12 hU hk e hP _ hn
      have n12 : gN (nxt1 ρ k t) 12 = 23 := h12
      have en : kp (nxt1 ρ k t) = kp σ := e
      rw [tChS_no (by omega) (by omega), tChR_no (by omega) (by omega) (by omega) (by omega)]
      refine ⟨pC_of (by omega) (by omega) hk ((hR _ en).okd hA hU) (by rw [show npt (nxt1 ρ k t) (id x) = (aP A x).length from (hR _ en).np hU]; exact hn), by rw [show prt (nxt1 ρ k t) (id x) t = (aP A x)[t]? from (hR _ en).pr hU t]; simp, rfl, en, fun _ _ _ _ h => h, ?_⟩
      intro p hp hUp hk1
      have v12 : gN (visPre (nxt1 ρ k t) (k + 1) (id p)) 12 = 23 := h12
      rw [tEnter_23 v12]
      refine ⟨pE_of (by omega) (by omega) (by omega) hk1 ((hR _ e).okd hA hUp), fun h => h, e, fun _ => ⟨?_, trivial⟩, ?_⟩
      · show (if k + 1 = k + 1 then begunL (gA ρ 0 p) (gJ ρ 0 p) else gL ρ 0 (k + 1)) = _
        rw [if_pos rfl, ((hR ρ e).2.1 p hUp).1, ((hR ρ e).2.1 p hUp).2]; rfl
      · intro y u j hj hQ
        show (if j = k + 1 then begunL (gA ρ 0 p) (gJ ρ 0 p) else gL ρ 0 j) = _
        rw [if_neg (by omega)]; exact hQ
    · intro ρ x t k p h12 hU hUp hk hn e hL hP hp
      rw [tTake_23 h12]
      refine ⟨e, ?_, trivial, ?_⟩
      · show (if k = k then withL (gL ρ 0 k) (gL ρ 0 (k + 1)) else gL ρ 0 k) = _
        rw [if_pos rfl, hP, hL, mAc_succ hp]
      · intro y u j hj hQ
        show (if j = k then withL (gL ρ 0 k) (gL ρ 0 (k + 1)) else gL ρ 0 j) = _
        rw [if_neg (by omega)]; exact hQ
  have v12 : gN (visPre (goS σ 23) 1 (id d)) 12 = 23 := rfl
  have hx : id d < 1500 := by have := hA.1; simp only [id]; omega
  obtain ⟨r1, r2, _, _, r5, r6⟩ := hT.go (x := d) (by simp [isT]) hA.eld (fun x p hx hp => UA.up hA hx hp) hG hd hx
    (by exact pE_of (by omega) (by omega) (by omega) (by decide) ((hR _ rfl).okd hA hd)) (by rw [tEnter_23 v12]; rfl) (by rw [tEnter_23 v12]; rfl) (fun _ => ⟨by
      rw [tEnter_23 v12]
      show (if 1 = 1 then begunL (gA σ 0 d) (gJ σ 0 d) else gL σ 0 1) = _
      rw [if_pos rfl, (hG.1.2.1 d hd).1, (hG.1.2.1 d hd).2]; rfl, trivial⟩)
  refine ⟨r1, r2, r5, fun h0 => ?_⟩
  obtain ⟨y, y1, y2⟩ := r6 ((runW_ans _ (by simp)).mp h0)
  have y1 : y = d := y1
  rw [y1] at y2
  exact y2
