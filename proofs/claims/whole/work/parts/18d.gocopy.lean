theorem runW_ok {X : Type} {bot : Nat} : ∀ (L vs : List (X × Nat)), vs.length + L.length ≤ 20000 → (∀ x ∈ L, x.2 ≤ bot) → runW bot (fun _ => false) L (vs, 0, false) = (vs ++ L, 0, false)
  | [], vs, _, _ => by simp [runW]
  | x :: L, vs, h1, h2 => by
    have hx := h2 x (List.mem_cons_self ..)
    simp only [List.length_cons] at h1
    rw [runW_cons, stp, if_neg (by simp), if_neg (by show ¬ vs.length = 20000; omega), if_neg (by omega)]
    show runW bot (fun _ => false) L (vs ++ [x], 0, false) = _
    rw [runW_ok L (vs ++ [x]) (by simp; omega) (fun y hy => h2 y (List.mem_cons_of_mem _ hy))]; simp
theorem runW_inv {X : Type} {bot : Nat} : ∀ (L vs : List (X × Nat)), vs.length ≤ 20000 → (runW bot (fun _ => false) L (vs, 0, false)).2.1 = 0 → vs.length + L.length ≤ 20000 ∧ ∀ x ∈ L, x.2 ≤ bot
  | [], vs, h, _ => ⟨h, fun x hx => by cases hx⟩
  | x :: L, vs, h, h0 => by
    rw [runW_cons, stp, if_neg (by simp)] at h0
    by_cases z1 : vs.length = 20000
    · rw [if_pos (show (vs, (0 : Int32), false).1.length = 20000 from z1), runW_over _ rfl] at h0
      exact absurd (show (-5 : Int32) = 0 from h0) (by decide)
    · rw [if_neg (show ¬ (vs, (0 : Int32), false).1.length = 20000 from z1)] at h0
      by_cases z2 : bot < x.2
      · rw [if_pos z2, runW_over _ rfl] at h0
        exact absurd (show (-6 : Int32) = 0 from h0) (by decide)
      · rw [if_neg z2] at h0
        obtain ⟨a, b⟩ := runW_inv L (vs ++ [x]) (by simp; omega) h0
        simp only [List.length_append, List.length_singleton] at a
        refine ⟨by simp only [List.length_cons]; omega, fun y hy => ?_⟩
        rcases List.mem_cons.mp hy with e | hy
        · rw [e]; omega
        · exact b y hy
theorem mxD_ub {X : Type} {n : Nat} : ∀ (l : List (X × Nat)) (m : Nat), m ≤ n → (∀ x ∈ l, x.2 ≤ n) → l.foldl (fun m x => max m x.2) m ≤ n
  | [], _, h, _ => h
  | x :: l, m, h, h' => mxD_ub l (max m x.2) (by have := h' x (List.mem_cons_self ..); omega) (fun y hy => h' y (List.mem_cons_of_mem _ hy))
theorem mxD_perm {X : Type} {l1 l2 : List (X × Nat)} (h : l1.Perm l2) : mxD l1 = mxD l2 :=
  Nat.le_antisymm (mxD_ub l1 0 (Nat.zero_le _) (fun x hx => mxD_le l2 x (h.mem_iff.mp hx))) (mxD_ub l2 0 (Nat.zero_le _) (fun x hx => mxD_le l1 x (h.mem_iff.mpr hx)))
theorem cho_eld {M : Mx} (hA : WA M.1) : ELD (cho M) id := fun _ _ hp => hA.lt (cho_mem hp)
theorem perm_flat {α β : Type} {f g : α → List β} : ∀ (l : List α), (∀ x ∈ l, (f x).Perm (g x)) → (l.flatMap f).Perm (l.flatMap g)
  | [], _ => List.Perm.refl _
  | x :: l, h => by
    rw [List.flatMap_cons, List.flatMap_cons]
    exact (h x (List.mem_cons_self ..)).append (perm_flat l (fun y hy => h y (List.mem_cons_of_mem _ hy)))
theorem vis_perm {M : Mx} (hA : WA M.1) : ∀ (f d k : Nat), d < f → (vis (cho M) id d k).Perm (vis (aP M.1) id d k) := by
  intro f
  induction f with
  | zero => intro d k h; omega
  | succ f ih =>
    intro d k h
    rw [vis_eq (cho_eld hA), vis_eq hA.eld]
    refine List.Perm.cons _ ?_
    refine ((cho_perm M d).flatMap_right _).trans ?_
    exact perm_flat _ (fun p hp => ih p (k + 1) (by have := hA.lt hp; omega))
theorem flen_cong {α β : Type} {f g : α → List β} : ∀ {l : List α}, (∀ x ∈ l, (f x).length = (g x).length) → (l.flatMap f).length = (l.flatMap g).length
  | [], _ => rfl
  | x :: l, h => by
    rw [List.flatMap_cons, List.flatMap_cons, List.length_append, List.length_append, h x (List.mem_cons_self ..), flen_cong (fun y hy => h y (List.mem_cons_of_mem _ hy))]
theorem bl_len {A : Ar} {m : Int32} {o : Bool} (hA : WA A) : ∀ (f d : Nat), d < f → (bl (A, m, o) d).length = (bl (A, m, false) d).length := by
  intro f
  induction f with
  | zero => intro d h; omega
  | succ f ih =>
    intro d h
    rw [bl_eq (M := (A, m, o)) hA.eld, bl_eq (M := (A, m, false)) hA.eld, List.length_append, List.length_append]
    congr 1
    have hp : (kcx (A, m, o) d).Perm (kcx (A, m, false) d) := ((cho_perm (A, m, o) d).trans (cho_perm (A, m, false) d).symm).filter _
    rw [(hp.flatMap_right _).length_eq]
    exact flen_cong (fun p hp => ih p (by have := hA.lt (kcx_mem hp); omega))
theorem bl_pos {M : Mx} (hA : WA M.1) (d : Nat) : 1 ≤ (bl M d).length := by rw [bl_eq hA.eld]; simp
theorem bl_le {M : Mx} (hA : WA M.1) : ∀ (f d k : Nat), d < f → (bl M d).length ≤ (vis (aP M.1) id d k).length := by
  intro f
  induction f with
  | zero => intro d k h; omega
  | succ f ih =>
    intro d k h
    have hsum : ∀ l : List Nat, (∀ p ∈ l, p < f) → ((kpl M l).flatMap (bl M)).length ≤ (l.flatMap (fun p => vis (aP M.1) id p (k + 1))).length := by
      intro l
      induction l with
      | nil => intro _; simp [kpl]
      | cons p l ihl =>
        intro hl
        have h1 := ihl (fun q hq => hl q (List.mem_cons_of_mem _ hq))
        have h2 := ih p (k + 1) (hl p (List.mem_cons_self ..))
        rw [kpl_cons, List.flatMap_append, List.flatMap_cons, List.length_append, List.length_append]
        cases lo M p
        · rw [if_neg (by decide)]; simp only [List.flatMap_cons, List.flatMap_nil, List.append_nil]; omega
        · rw [if_pos rfl]; simp only [List.flatMap_nil, List.length_nil]; omega
    have hv := (vis_perm hA (d + 1) d k (Nat.lt_succ_self _)).length_eq
    rw [← hv, vis_eq (cho_eld hA), bl_eq hA.eld, List.length_append, List.length_singleton, List.length_cons]
    have h3 : ((cho M d).flatMap (fun p => vis (cho M) id p (k + 1))).length = ((cho M d).flatMap (fun p => vis (aP M.1) id p (k + 1))).length := flen_cong (fun p hp => (vis_perm hA (p + 1) p (k + 1) (Nat.lt_succ_self _)).length_eq)
    have h4 := hsum (cho M d) (fun p hp => by have := hA.lt (cho_mem hp); omega)
    rw [h3]
    have h4 : ((kcx M d).flatMap (bl M)).length ≤ _ := h4
    omega
set_option maxHeartbeats 1000000 in
theorem go_28 {M : Mx} {mk : Bool} {σ : St} {d : Nat} (hA : WA M.1) (hd : d < aN M.1) (hC : CI M mk σ d (M.1, []) σ) (h7 : gN σ 7 ≤ 3) (h8a : 1 ≤ gN σ 8) (h8b : gN σ 8 ≤ 300) (hw : ∀ k, gA σ 8 k ≤ 20000) (hroom : mk = true → aN M.1 + (bl M d).length ≤ 1500 ∧ tot (aP M.1) (aN M.1) + ((bl M d).length - 1) ≤ 4000) :
    preG σ 28 d ∧ RW (runW (goB σ) (fun _ => false) (vis (cho M) id d 1) ([], 0, false)) (goW σ 28 d) ∧
      (¬ (runW (goB σ) (fun _ => false) (vis (cho M) id d 1) ([], 0, false)).2.1 = 0 → ∃ ops, CI M mk σ d (bns (mo mk ops) (M.1, [])) (goW σ 28 d)) ∧
      ((runW (goB σ) (fun _ => false) (vis (cho M) id d 1) ([], 0, false)).2.1 = 0 → CI M mk σ d (bns (mo mk (bl M d)) (M.1, [])) (goW σ 28 d) ∧ gN (goW σ 28 d) 15 = gN σ 15 + (bl M d).length ∧ (mk = true → (bns (bl M d) (M.1, [])).2.length = 1)) := by
  have hE := hA.eld
  have hd15 : d < 1500 := by have := hA.1; omega
  have v12 : gN (visPre (goS σ 28) 1 d) 12 = 28 := rfl
  have eV : CI M mk σ d (M.1, []) (visPre (goS σ 28) 1 d) := hC
  obtain ⟨w1, w2, w3⟩ := eV.cell hd (Nat.le_refl d)
  have hodp := eV.dv hd d (Nat.le_refl d)
  have hent : tEnter (visPre (goS σ 28) 1 d) 1 d = tE28 (visPre (goS σ 28) 1 d) 1 d := tEnter_28 v12 _ _
  have g11 : gA (tE28 (visPre (goS σ 28) 1 d) 1 d) 11 = if gB σ 4 = true then srtA (gL σ 2) (gA σ 11) (gA σ 1 d) (npt σ d) else gA σ 11 := rfl
  have hsort : M.2.2 = true → RNG M.1 (tE28 (visPre (goS σ 28) 1 d) 1 d) d (cho M d) ∧ (∀ e l, ¬ e = d → l.length = (aP M.1 e).length → RNG M.1 σ e l → RNG M.1 (tE28 (visPre (goS σ 28) 1 d) 1 d) e l) := by
    intro ho
    refine RNG.sort ho hE (Nat.le_refl d) (hC.2.2.2.2.2.2.2.2.2 ho).1 ((hC.2.2.2.2.2.2.2.2.2 ho).2 d (Nat.le_refl d)) ?_
    rw [g11, hC.2.1, if_pos ho, (hC.cell hd (Nat.le_refl d)).2.2, show npt σ d = (aP M.1 d).length from (hC.dv hd d (Nat.le_refl d)).2]
  have eT : CI M mk σ d (M.1, []) (tE28 (visPre (goS σ 28) 1 d) 1 d) := by
    refine hC.up rfl (fun ho e he => ?_)
    by_cases hdp : e = d
    · rw [hdp]; exact Or.inr (hsort ho).1
    · rcases (hC.2.2.2.2.2.2.2.2.2 ho).2 e he with q | q
      · exact Or.inl ((hsort ho).2 e _ hdp rfl q)
      · exact Or.inr ((hsort ho).2 e _ hdp (cho_len M e) q)
  have hdn : dn M 0 [(d, 0)] = [] := by simp [dn, kpl]
  have hpE : pE (visPre (goS σ 28) 1 d) 1 d := by
    refine ⟨by decide, hodp.1, fun h => absurd (v12.symm.trans h) (by decide), fun h => absurd (v12.symm.trans h) (by decide), fun _ => ⟨by decide, fun hb j hj1 hj2 => ?_⟩⟩
    have ho : M.2.2 = true := by rw [← hC.2.1]; exact hb
    have hj1 : tot (aP M.1) d ≤ j := by rw [← w3]; exact hj1
    have hj2 : j < tot (aP M.1) d + (aP M.1 d).length := by
      have q : gA (visPre (goS σ 28) 1 d) 1 (d + 1) - gA (visPre (goS σ 28) 1 d) 1 d = (aP M.1 d).length := hodp.2
      omega
    have hin : ∀ l : List Nat, l.length = (aP M.1 d).length → (∀ q ∈ l, q ∈ aP M.1 d) → RNG M.1 σ d l → gA σ 11 j < 1500 := by
      intro l hl hm hR
      have := hR (j - tot (aP M.1) d) (by omega)
      rw [show tot (aP M.1) d + (j - tot (aP M.1) d) = j by omega] at this
      rw [this, List.getD_eq_getElem?_getD, List.getElem?_eq_getElem (by omega)]
      have hq := hA.lt (hm _ (List.getElem_mem (show j - tot (aP M.1) d < l.length by omega)))
      show l[j - tot (aP M.1) d] < 1500
      omega
    show gA σ 11 j < 1500
    rcases (hC.2.2.2.2.2.2.2.2.2 ho).2 d (Nat.le_refl d) with q | q
    · exact hin _ rfl (fun q h => h) q
    · exact hin _ (cho_len M d) (fun q h => cho_mem h) q
  have hX : eX8 M mk σ d (gN σ 15) (bl M d) [(d, 0)] ([(d, 1)], 0, false) (tE28 (visPre (goS σ 28) 1 d) 1 d) := by
    have hB : bns (mo mk (dn M 0 [(d, 0)])) (M.1, []) = (M.1, []) := by rw [hdn]; cases mk <;> rfl
    refine ⟨⟨by simp, trivial⟩, by rw [hB]; exact eT, ⟨?_, fun _ => ?_, fun ho => (hsort ho).1, trivial⟩, fun _ => ?_, ?_, ?_⟩
    · show (if 1 = 1 then kpt (visPre (goS σ 28) 1 d) 1 d else gZ σ 0 1) = _
      rw [if_pos rfl, kpt]; simp [fl]
    · show (if 1 = 1 then 0 else gA σ 10 1) = _
      rw [if_pos rfl]; simp [kpl]
    · rw [hdn]
      refine ⟨?_, ?_⟩ <;> simp [ln, kpl, bns]
    · show gN σ 15 + (if kpt (visPre (goS σ 28) 1 d) 1 d = true then 1 else 0) = _
      rw [hdn, kpt]; simp [kf, fl]
    · rw [hdn, bl_eq hE]; simp [rO, fl, kcx]
  obtain ⟨r1, r2, _, _, r5, r6⟩ := (tkr_28 (K := σ) (n0 := gN σ 15) (BL := bl M d) hA hd hroom).go (σ := σ) (x := d) (by simp [isT]) (cho_eld hA) (fun x p hx hp => by have := hA.lt (cho_mem hp); have hx : x ≤ d := hx; show p ≤ d; omega) h7 h8a h8b hw (Nat.le_refl d) hd15 hpE
    (by show ovr (tEnter (visPre (goS σ 28) 1 d) 1 d) = false
        rw [hent]; rfl) (fun h => by cases h) (fun _ => by
        show eX8 M mk σ d (gN σ 15) (bl M d) [(d, 0)] ([(d, 1)], 0, false) (tEnter (visPre (goS σ 28) 1 d) 1 d)
        rw [hent]; exact hX)
  refine ⟨r1, r2, fun h0 => ?_, fun h0 => ?_⟩
  · refine r5 ?_
    cases hz : (runW (goB σ) (fun _ => false) (vis (cho M) id d 1) ([], 0, false)).2.2
    · exact absurd ((runW_ans _ (by simp)).mpr hz) h0
    · rfl
  · obtain ⟨y, y1, y2⟩ := r6 ((runW_ans _ (by simp)).mp h0)
    have y1 : y = d := y1
    rw [y1] at y2
    obtain ⟨_, z2, _, z4, z5, _, _⟩ := y2
    have hO : oL8 M d [] = bl M d := by simp [oL8, dn, bO, fl]
    rw [hO] at z2 z4 z5
    have z5 : gN (goW σ 28 d) 15 = gN σ 15 + (bl M d).length + kf M [] := z5
    refine ⟨z2, ?_, fun h => ?_⟩
    · rw [z5, kf, Nat.add_zero]
    · rw [(z4 h).1]; simp [ln, fl]
