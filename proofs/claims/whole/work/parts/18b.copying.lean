/-- what is remade: an archive, the most of leaves, whether in order -/
abbrev Mx : Type := Ar × Int32 × Bool
def lo (M : Mx) (d : Nat) : Bool := decide (aK M.1 d = 0 ∧ M.2.1 < aV M.1 d)
def cho (M : Mx) (x : Nat) : List Nat := if M.2.2 = true then srt (mrk M.1) (aP M.1 x) else aP M.1 x
theorem cho_perm (M : Mx) (x : Nat) : (cho M x).Perm (aP M.1 x) := by
  simp only [cho]; split
  · exact srt_perm _ _
  · exact List.Perm.refl _
theorem cho_len (M : Mx) (x : Nat) : (cho M x).length = (aP M.1 x).length := (cho_perm M x).length_eq
theorem cho_mem {M : Mx} {x p : Nat} (h : p ∈ cho M x) : p ∈ aP M.1 x := (cho_perm M x).mem_iff.mp h
def kpl (M : Mx) (l : List Nat) : List Nat := l.filter (fun p => !lo M p)
theorem kpl_snoc (M : Mx) (l : List Nat) (p : Nat) : kpl M (l ++ [p]) = kpl M l ++ if lo M p = true then [] else [p] := by
  simp only [kpl, List.filter_append]
  congr 1
  cases h : lo M p <;> simp [h]
theorem kpl_cons (M : Mx) (l : List Nat) (p : Nat) : kpl M (p :: l) = (if lo M p = true then [] else [p]) ++ kpl M l := by
  simp only [kpl]
  cases h : lo M p <;> simp [List.filter_cons, h]
def kcx (M : Mx) (x : Nat) : List Nat := kpl M (cho M x)
theorem kcx_mem {M : Mx} {x p : Nat} (h : p ∈ kcx M x) : p ∈ aP M.1 x := cho_mem (List.mem_filter.mp h).1
def opx (M : Mx) (x : Nat) : Op := (aK M.1 x, aV M.1 x, (kcx M x).length)
def blF (M : Mx) : Nat → Nat → List Op
  | 0, _ => []
  | f + 1, d => (kcx M d).flatMap (blF M f) ++ [opx M d]
def bl (M : Mx) (d : Nat) : List Op := blF M (d + 1) d
theorem blF_st {M : Mx} (hE : ELD (aP M.1) id) : ∀ (f d : Nat), d < f → blF M f d = bl M d := by
  have main : ∀ (f g d : Nat), d < f → d < g → blF M f d = blF M g d := by
    intro f
    induction f with
    | zero => intro g d h; omega
    | succ f ih =>
      intro g d h1 h2
      cases g with
      | zero => omega
      | succ g =>
        simp only [blF]
        rw [flatMap_cong (fun p hp => by
          have h3 := hE d p (kcx_mem hp)
          simp only [id] at h3
          rw [ih g p (by omega) (by omega)])]
  exact fun f d h => main f (d + 1) d h (Nat.lt_succ_self _)
theorem bl_eq {M : Mx} (hE : ELD (aP M.1) id) (d : Nat) : bl M d = (kcx M d).flatMap (bl M) ++ [opx M d] := by
  rw [bl, blF, flatMap_cong (fun p hp => by rw [blF_st hE d p (by have := hE d p (kcx_mem hp); simpa using this)])]
/-- whether the deepest open one is kept -/
def fl (M : Mx) : List (Nat × Nat) → Bool
  | [] => true
  | (x, _) :: c => c.isEmpty || (fl M c && !lo M x)
def dn (M : Mx) : Nat → List (Nat × Nat) → List Op
  | _, [] => []
  | u, (x, t) :: c => dn M 1 c ++ if fl M ((x, t) :: c) = true then (kpl M ((cho M x).take (t - u))).flatMap (bl M) else []
def ln (M : Mx) : Nat → List (Nat × Nat) → Nat
  | _, [] => 0
  | u, (x, t) :: c => ln M 1 c + if fl M ((x, t) :: c) = true then (kpl M ((cho M x).take (t - u))).length else 0
def kf (M : Mx) : List (Nat × Nat) → Nat
  | [] => 0
  | (x, t) :: c => kf M c + if fl M ((x, t) :: c) = true then 1 else 0
def rO (M : Mx) : List (Nat × Nat) → List Op
  | [] => []
  | (x, t) :: c => (if fl M ((x, t) :: c) = true then (kpl M ((cho M x).drop t)).flatMap (bl M) ++ [opx M x] else []) ++ rO M c
def bO (M : Mx) (f : Bool) (x : Nat) : List Op := if f = true then bl M x else []
theorem fl_t (M : Mx) (x t u : Nat) (c : List (Nat × Nat)) : fl M ((x, t) :: c) = fl M ((x, u) :: c) := rfl
theorem fl_p (M : Mx) (p i x t : Nat) (c : List (Nat × Nat)) : fl M ((p, i) :: (x, t) :: c) = (fl M ((x, 0) :: c) && !lo M p) := rfl
theorem dn_enter (M : Mx) (p x t : Nat) (c : List (Nat × Nat)) : dn M 0 ((p, 0) :: (x, t + 1) :: c) = dn M 0 ((x, t) :: c) := by
  rw [dn]
  simp only [Nat.sub_self, List.take_zero, kpl, List.filter_nil, List.flatMap_nil, ite_self, List.append_nil]
  rfl
theorem ln_enter (M : Mx) (p x t : Nat) (c : List (Nat × Nat)) : ln M 0 ((p, 0) :: (x, t + 1) :: c) = ln M 0 ((x, t) :: c) := by
  rw [ln]
  simp only [Nat.sub_self, List.take_zero, kpl, List.filter_nil, List.length_nil, ite_self, Nat.add_zero]
  rfl
theorem rO_enter {M : Mx} (hE : ELD (aP M.1) id) {p x t : Nat} {c : List (Nat × Nat)} (h : (cho M x)[t]? = some p) : rO M ((p, 0) :: (x, t + 1) :: c) = rO M ((x, t) :: c) := by
  obtain ⟨ht, he⟩ := List.getElem?_eq_some_iff.mp h
  rw [rO, rO, rO, fl_p, fl_t M x (t + 1) 0, fl_t M x t 0, List.drop_eq_getElem_cons ht, he, kpl_cons, List.drop_zero]
  rw [show (kpl M (cho M p)).flatMap (bl M) ++ [opx M p] = bl M p from (bl_eq hE p).symm]
  cases fl M ((x, 0) :: c)
  · simp
  · cases lo M p <;> simp
theorem dn_leave {M : Mx} (hE : ELD (aP M.1) id) {x t : Nat} {c : List (Nat × Nat)} (h : (cho M x).length ≤ t) : dn M 0 ((x, t) :: c) ++ (if fl M ((x, 0) :: c) = true then [opx M x] else []) = dn M 1 c ++ bO M (fl M ((x, 0) :: c)) x := by
  rw [dn, fl_t M x t 0, Nat.sub_zero, List.take_of_length_le h, bO, bl_eq hE x]
  cases fl M ((x, 0) :: c)
  · simp
  · simp [kcx]
theorem ln_leave {M : Mx} {x t : Nat} {c : List (Nat × Nat)} (h : (cho M x).length ≤ t) : ln M 0 ((x, t) :: c) = ln M 1 c + if fl M ((x, 0) :: c) = true then (kcx M x).length else 0 := by
  rw [ln, fl_t M x t 0, Nat.sub_zero, List.take_of_length_le h]; rfl
theorem rO_leave {M : Mx} {x t : Nat} {c : List (Nat × Nat)} (h : (cho M x).length ≤ t) : rO M ((x, t) :: c) = (if fl M ((x, 0) :: c) = true then [opx M x] else []) ++ rO M c := by
  rw [rO, fl_t M x t 0, List.drop_eq_nil_of_le h]; rfl
theorem dn_take {M : Mx} {p x t : Nat} {c : List (Nat × Nat)} (h : (cho M x)[t]? = some p) : dn M 1 ((x, t + 1) :: c) ++ bO M (fl M ((p, 0) :: (x, t + 1) :: c)) p = dn M 0 ((x, t + 1) :: c) := by
  rw [dn, dn, fl_t M x (t + 1) 0, fl_p, Nat.sub_zero, Nat.add_sub_cancel, List.take_succ, h, Option.toList, kpl_snoc, bO]
  cases fl M ((x, 0) :: c)
  · simp
  · cases lo M p <;> simp
theorem ln_take {M : Mx} {p x t : Nat} {c : List (Nat × Nat)} (h : (cho M x)[t]? = some p) : ln M 1 ((x, t + 1) :: c) + (if fl M ((p, 0) :: (x, t + 1) :: c) = true then 1 else 0) = ln M 0 ((x, t + 1) :: c) := by
  rw [ln, ln, fl_t M x (t + 1) 0, fl_p, Nat.sub_zero, Nat.add_sub_cancel, List.take_succ, h, Option.toList, kpl_snoc]
  cases fl M ((x, 0) :: c)
  · simp
  · cases lo M p <;> simp <;> omega
def RNG (A : Ar) (σ : St) (d : Nat) (l : List Nat) : Prop := ∀ i, i < l.length → gA σ 11 (tot (aP A) d + i) = l.getD i 0
def kq (σ : St) : Nat × Nat × Nat × (Nat → Nat) := (gN σ 2, gN σ 7, gN σ 8, gA σ 12)
def CI (M : Mx) (mk : Bool) (K : St) (r : Nat) (B : Ar × List Nat) (σ : St) : Prop :=
  gB σ 3 = mk ∧ gB σ 4 = M.2.2 ∧ gI σ 6 = M.2.1 ∧ RCd B.1 σ ∧ WA B.1 ∧ LSE B.2 σ ∧ (∀ s ∈ B.2, s < aN B.1) ∧ EXT M.1 B.1 ∧ kq σ = kq K ∧
  (M.2.2 = true → (∀ p, p ≤ r → gL σ 2 p = mrk M.1 p) ∧ ∀ d, d ≤ r → RNG M.1 σ d (aP M.1 d) ∨ RNG M.1 σ d (cho M d))
def ckk (σ : St) : Bool × Bool × Int32 × (Nat × Nat × Nat × Nat × Nat × (Nat → Nat) × (Nat → Nat) × (Nat → Nat) × (Nat → Nat) × (Nat → Nat) × (Nat → Int32)) × (Nat → Int64) := (gB σ 3, gB σ 4, gI σ 6, kp σ, gL σ 2)
theorem CI.up {M : Mx} {mk : Bool} {K : St} {r : Nat} {B : Ar × List Nat} {σ τ : St} (h : CI M mk K r B σ) (e : ckk τ = ckk σ) (h11 : M.2.2 = true → ∀ d, d ≤ r → RNG M.1 τ d (aP M.1 d) ∨ RNG M.1 τ d (cho M d)) : CI M mk K r B τ := by
  obtain ⟨h1, h2, h3, h4, h5, h6, h7, h8, h9, h10⟩ := h
  simp only [ckk, Prod.mk.injEq] at e
  obtain ⟨e1, e2, e3, e4, e5⟩ := e
  have e4' := e4
  simp only [kp, Prod.mk.injEq] at e4'
  obtain ⟨k0, k1, k2, k3, k4, k5, k6, k7, k8, k9, k10⟩ := e4'
  refine ⟨by rw [e1]; exact h1, by rw [e2]; exact h2, by rw [e3]; exact h3, h4.ofk e4, h5, ⟨by rw [k0]; exact h6.1, fun i hi => by rw [k8]; exact h6.2 i hi⟩, h7, h8, ?_, fun ho => ⟨fun p hp => by rw [e5]; exact (h10 ho).1 p hp, h11 ho⟩⟩
  rw [← h9]; simp only [kq, k2, k3, k4, k9]
theorem CI.dv {M : Mx} {mk : Bool} {K : St} {r : Nat} {B : Ar × List Nat} {σ : St} (h : CI M mk K r B σ) (hr : r < aN M.1) : DV id (fun x => x ≤ r) (nA M.1) σ := by
  obtain ⟨h1, h2, h3, h4, h5, h6, h7, h8, h9, h10⟩ := h
  intro x hx
  have hx : x ≤ r := hx
  have hb : x < aN B.1 := by have := h8.1; omega
  refine ⟨h4.okd h5 hb, ?_⟩
  show npt σ x = _
  rw [h4.np hb, (h8.2 x (by omega)).2.2]; rfl
theorem CI.pr {M : Mx} {mk : Bool} {K : St} {r : Nat} {B : Ar × List Nat} {σ : St} (h : CI M mk K r B σ) (hr : r < aN M.1) {x : Nat} (hx : x ≤ r) (i : Nat) : prt σ x i = (aP M.1 x)[i]? := by
  obtain ⟨h1, h2, h3, h4, h5, h6, h7, h8, h9, h10⟩ := h
  have hb : x < aN B.1 := by have := h8.1; omega
  rw [h4.pr hb, (h8.2 x (by omega)).2.2]
theorem CI.cell {M : Mx} {mk : Bool} {K : St} {r : Nat} {B : Ar × List Nat} {σ : St} (h : CI M mk K r B σ) (hr : r < aN M.1) {x : Nat} (hx : x ≤ r) : gA σ 0 x = aK M.1 x ∧ gJ σ 0 x = aV M.1 x ∧ gA σ 1 x = tot (aP M.1) x := by
  obtain ⟨h1, h2, h3, h4, h5, h6, h7, h8, h9, h10⟩ := h
  have hb : x < aN B.1 := by have := h8.1; omega
  have q := h8.2 x (by omega)
  refine ⟨by rw [(h4.2.1 x hb).1]; exact q.1, by rw [(h4.2.1 x hb).2]; exact q.2.1, ?_⟩
  rw [h4.2.2.1 x (by omega)]
  exact tot_cong (fun d hd => (h8.2 d (by omega)).2.2)
def FI (M : Mx) (σ : St) : Nat → List (Nat × Nat) → Prop
  | _, [] => True
  | u, (x, t) :: c => gZ σ 0 (c.length + 1) = fl M ((x, t) :: c) ∧ (fl M ((x, t) :: c) = true → gA σ 10 (c.length + 1) = (kpl M ((cho M x).take (t - u))).length) ∧ (M.2.2 = true → RNG M.1 σ x (cho M x)) ∧ FI M σ 1 c
theorem FI.up {M : Mx} {σ τ : St} {r : Nat} : ∀ {c : List (Nat × Nat)} {u : Nat}, FI M σ u c → DCh id r c → (∀ j, j ≤ c.length → gZ τ 0 j = gZ σ 0 j ∧ gA τ 10 j = gA σ 10 j) → (M.2.2 = true → ∀ x, x ≤ r → RNG M.1 σ x (cho M x) → RNG M.1 τ x (cho M x)) → FI M τ u c
  | [], _, _, _, _, _ => trivial
  | (x, t) :: c, u, h, hd, e, g => by
    obtain ⟨h1, h2, h3, h4⟩ := h
    have e1 := e (c.length + 1) (by simp)
    refine ⟨by rw [e1.1]; exact h1, fun hf => by rw [e1.2]; exact h2 hf, fun ho => g ho x (by have := hd.1; simp only [id] at this; omega) (h3 ho), h4.up hd.2 (fun j hj => e j (by simp; omega)) g⟩
/-- sorting a deed's parts -/
theorem RNG.sort {M : Mx} {σ τ : St} {r p : Nat} (ho : M.2.2 = true) (hE : ELD (aP M.1) id) (hp : p ≤ r) (hm : ∀ q, q ≤ r → gL σ 2 q = mrk M.1 q) (hR : RNG M.1 σ p (aP M.1 p) ∨ RNG M.1 σ p (cho M p)) (e : gA τ 11 = srtA (gL σ 2) (gA σ 11) (tot (aP M.1) p) (aP M.1 p).length) :
    RNG M.1 τ p (cho M p) ∧ (∀ d l, ¬ d = p → l.length = (aP M.1 d).length → RNG M.1 σ d l → RNG M.1 τ d l) := by
  have hcho : cho M p = srt (mrk M.1) (aP M.1 p) := by rw [cho, if_pos ho]
  have key : ∀ l : List Nat, l.length = (aP M.1 p).length → (∀ q ∈ l, q ∈ aP M.1 p) → srt (mrk M.1) l = cho M p → RNG M.1 σ p l → RNG M.1 τ p (cho M p) ∧ (∀ j, j < tot (aP M.1) p ∨ tot (aP M.1) p + (aP M.1 p).length ≤ j → gA τ 11 j = gA σ 11 j) := by
    intro l hl hmem hs hr
    have hs2 : srt (gL σ 2) l = cho M p := by
      rw [← hs]
      exact srt_cong (fun q hq => hm q (by have := hE p q (hmem q hq); simp only [id] at this; omega))
    obtain ⟨a, b⟩ := srtA_spec (m := gL σ 2) hr l.length (Nat.le_refl _)
    rw [List.take_length, hs2] at a
    rw [hl] at a b
    refine ⟨fun i hi => ?_, fun j hj => ?_⟩
    · rw [e]; exact a i (by rw [cho_len] at hi; exact hi)
    · rw [e]; exact b j hj
  have hk : RNG M.1 τ p (cho M p) ∧ (∀ j, j < tot (aP M.1) p ∨ tot (aP M.1) p + (aP M.1 p).length ≤ j → gA τ 11 j = gA σ 11 j) := by
    rcases hR with hR | hR
    · exact key _ rfl (fun q h => h) hcho.symm hR
    · exact key _ (cho_len M p) (fun q h => cho_mem h) (by rw [hcho]; exact srt_id (srt_srd _ _)) hR
  refine ⟨hk.1, fun d l hd hl hr i hi => ?_⟩
  rw [hk.2, hr i hi]
  rcases Nat.lt_or_gt_of_ne hd with h | h
  · left
    have := tot_mono (ps := aP M.1) (show d + 1 ≤ p by omega)
    simp only [tot] at this; omega
  · right
    have := tot_mono (ps := aP M.1) (show p + 1 ≤ d by omega)
    simp only [tot] at this; omega
def mo (mk : Bool) (ops : List Op) : List Op := if mk = true then ops else []
def eX8 (M : Mx) (mk : Bool) (K : St) (r n0 : Nat) (BL : List Op) (c : List (Nat × Nat)) (_ : List (Nat × Nat) × Int32 × Bool) (σ : St) : Prop :=
  DCh id r c ∧ CI M mk K r (bns (mo mk (dn M 0 c)) (M.1, [])) σ ∧ FI M σ 0 c ∧
  (mk = true → (bns (dn M 0 c) (M.1, [])).2.length = ln M 0 c ∧ tot (aP (bns (dn M 0 c) (M.1, [])).1) (aN (bns (dn M 0 c) (M.1, [])).1) + (bns (dn M 0 c) (M.1, [])).2.length = tot (aP M.1) (aN M.1) + (dn M 0 c).length) ∧
  gN σ 15 = n0 + (dn M 0 c).length + kf M c ∧ dn M 0 c ++ rO M c = BL
def oL8 (M : Mx) (x : Nat) (c : List (Nat × Nat)) : List Op := dn M 1 c ++ bO M (fl M ((x, 0) :: c)) x
def eL8 (M : Mx) (mk : Bool) (K : St) (r n0 : Nat) (BL : List Op) (x : Nat) (c : List (Nat × Nat)) (_ : List (Nat × Nat) × Int32 × Bool) (σ : St) : Prop :=
  DCh id r c ∧ CI M mk K r (bns (mo mk (oL8 M x c)) (M.1, [])) σ ∧ FI M σ 1 c ∧
  (mk = true → (bns (oL8 M x c) (M.1, [])).2.length = ln M 1 c + (if fl M ((x, 0) :: c) = true then 1 else 0) ∧ tot (aP (bns (oL8 M x c) (M.1, [])).1) (aN (bns (oL8 M x c) (M.1, [])).1) + (bns (oL8 M x c) (M.1, [])).2.length = tot (aP M.1) (aN M.1) + (oL8 M x c).length) ∧
  gN σ 15 = n0 + (oL8 M x c).length + kf M c ∧ oL8 M x c ++ rO M c = BL ∧ gZ σ 0 (c.length + 1) = fl M ((x, 0) :: c)
def eH8 (M : Mx) (mk : Bool) (K : St) (r : Nat) (σ : St) : Prop := ∃ ops, CI M mk K r (bns (mo mk ops) (M.1, [])) σ
theorem EXT.tot {A B : Ar} (h : EXT A B) : tot (aP A) (aN A) ≤ tot (aP B) (aN B) := by
  rw [tot_cong (ps := aP A) (qs := aP B) (fun d hd => (h.2 d hd).2.2.symm)]
  exact tot_mono h.1
