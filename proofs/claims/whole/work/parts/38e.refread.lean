set_option maxHeartbeats 4000000 in
set_option maxRecDepth 100000 in
theorem rf_read (l : Launch) (G : Gx) (a : Nat → Nat) (σ : St) {S : AS}  (h : RR S σ) : MM l G ⟨"NestedDeedsModel", "read", "()I"⟩ prog_14_method_53_code 4 (some .int) 4 90 [.ref (a 0)] (rw G a σ) (PR G a (sp_read S).2 (.int (sp_read S).1)) := by
  refine MM.of (lv := [(0, .ref (a 0))]) (by decide +kernel) rfl (Nat.le_of_ble_eq_true rfl) ?_
  intro Z hRf hRl hl hG hn hk ht hA hQ X
  subst hG hl
  have X : XC Z "NestedDeedsModel" prog_14_method_53_code (some .int) := X
  have hk0 : zk Z ≤ (zR Z).cells := hk ▸ Nat.zero_le _
  have ht0 : zt Z ≤ (zR Z).slots := ht ▸ Nat.zero_le _
  have hW := h.1.1
  have hN := hW.1
  have hT := hW.2.1
  have hx := h.2.1
  obtain ⟨ix, hX⟩ := h.2.1
  obtain ⟨g0, g1, g2, g3⟩ := hX
  obtain ⟨o1, o2, o3, o4, o5, o6, o7, o8⟩ := h.1
  have e2 : gN σ 2 = yW S := h.2.2.1
  have e3 : gN σ 3 = yM S := h.2.2.2.1
  obtain ⟨P, hPd⟩ : ∃ P, P = yP S := ⟨_, rfl⟩
  have hP : PTr P σ := by rw [hPd]; exact ⟨h.2.2.2.2.1, h.2.2.2.2.2.1, o5, o6⟩
  have hl6 := hP.2.2.1
  obtain ⟨R, hR⟩ : ∃ R, prs P 30000 none 0 [] [] = R := ⟨_, rfl⟩
  have hRX : rdX S = R := by rw [rdX, ← hPd]; exact hR
  obtain ⟨f0, hf0⟩ : ∃ f0, 30000 = f0 + 3 := ⟨29997, rfl⟩
  rw [hf0] at hR
  have hsE : ∀ (τ : St) (e : Nat), xG τ σ → ars τ = ars σ → R.1 = some e → PR (zG Z) a (sp_read S).2 (.int (sp_read S).1) (some (.int (-10 - nI e))) (rw (zG Z) a τ) := by
    intro τ e e1 e2 e3
    have hsp : sp_read S = (-10 - nI e, S) := by rw [sp_read, hRX, e3, if_neg (by simp)]; rfl
    rw [hsp]
    exact ⟨rfl, τ, rfl, h.grown (A := yA S) hW (hx.ofa e2) e1⟩
  have L197 : ∀ (τ : St) (e : Nat), gO τ 0 = some e → e < 2 ^ 31 → xG τ σ → ars τ = ars σ → R.1 = some e → V Z (rw (zG Z) a τ) [(0, .ref (a 0))] 197 [] := by
    intro τ e b1 b2 b3 b4 b5
    refine V.aload_n X 0 dX12_read_197 rfl rfl ?_
    refine Vg_r_0_wrong (x := gO (τ) 0) X tw_868 dX12_read_198 rfl ?_
    refine V.topi (y := nI e) (by rw [b1]; rfl) ?_
    refine V.iconst X (v := -1) dX12_read_201 (by decide) ?_
    refine V.icmp_eq X 215 dX12_read_202 (by decide) (fun c202 => by exfalso; exact nI_nm1 b2 c202) (fun c202 => ?_)
    refine V.bipush X (v := (-10)) dX12_read_205 (by decide) ?_
    refine V.aload_n X 0 dX12_read_207 rfl rfl ?_
    refine Vg_r_0_wrong (x := gO (τ) 0) X tw_868 dX12_read_208 rfl ?_
    refine V.topi (y := nI e) (by rw [b1]; rfl) ?_
    refine V.isub X dX12_read_211 ?_
    refine V.goto X 219 dX12_read_212 (by decide) ?_
    exact V.iret X rfl hA hk ht hQ rfl dX12_read_219 (hsE τ e b3 b4 b5)
  have L24 : ∀ (τ : St) (e : Nat), gO τ 0 = some e → e < 2 ^ 31 → xG τ σ → ars τ = ars σ → R.1 = some e → V Z (rw (zG Z) a τ) [(0, .ref (a 0))] 24 [] := by
    intro τ e b1 b2 b3 b4 b5
    refine V.aload_n X 0 dX12_read_24 rfl rfl ?_
    refine Vg_r_0_wrong (x := gO (τ) 0) X tw_868 dX12_read_25 rfl ?_
    refine V.topi (y := nI e) (by rw [b1]; rfl) ?_
    refine V.iconst X (v := -1) dX12_read_28 (by decide) ?_
    refine V.icmp_ne X 170 dX12_read_29 (by decide) (fun c29 => ?_) (fun c29 => by exfalso; exact nI_nm1 b2 c29)
    refine V.aload_n X 0 dX12_read_170 rfl rfl ?_
    refine Vg_r_0_wrong (x := gO (τ) 0) X tw_868 dX12_read_171 rfl ?_
    refine V.topi (y := nI e) (by rw [b1]; rfl) ?_
    refine V.iconst X (v := -1) dX12_read_174 (by decide) ?_
    refine V.icmp_ne X 197 dX12_read_175 (by decide) (fun c175 => ?_) (fun c175 => by exfalso; exact nI_nm1 b2 c175)
    exact V.sub [0] rfl (L197 τ e b1 b2 b3 b4 b5)
  have LL : ∀ (f : Nat), (∀ (n : Nat) (cl : Nat → List Nat) (nd : Nat → Nat × Int32) (mN : Nat → Int64) (T : Nat → List Op) (c : List (Nat × Nat)) (x pl : Nat) (ops : List Op) (τ : St), prs P f (some (some (nd x))) pl (fOp nd c) ops = R → 2 * (P.length - pl) + 4 ≤ f → RX P σ τ n cl nd mN pl → PTH n cl c x → x < n → cl x = [] → LST cl c → DN n cl nd T (x :: c.map Prod.fst) → ops = dT cl T c → ops.length + (c.length + 1) = n → V Z (rw (zG Z) a τ) [(2, .int (bI true)), (1, .int (nI x)), (0, .ref (a 0))] 24 []) ∧ (∀ (b : Bool) (n : Nat) (cl : Nat → List Nat) (nd : Nat → Nat × Int32) (mN : Nat → Int64) (T : Nat → List Op) (c : List (Nat × Nat)) (x pl : Nat) (ops : List Op) (τ : St), (b = true → ¬ P[pl]? = some 40) → prs P f (some none) pl (incT (fOp nd c)) ops = R → 2 * (P.length - pl) + 3 ≤ f → RX P σ τ n cl nd mN pl → PTH n cl c x → x < n → LST cl c → DN n cl nd T (c.map Prod.fst) → ops = dT cl T c ++ T x → ops.length + c.length = n → V Z (rw (zG Z) a τ) [(2, .int (bI b)), (1, .int (nI x)), (0, .ref (a 0))] 24 []) := by
    intro f
    induction f using Nat.strongRecOn with
    | _ f ih =>
    refine ⟨?_, ?_⟩
    · intro n cl nd mN T c x pl ops τ hr hf hX hp hxn hcx hls hd hop hlen
      obtain ⟨x1, x2, x3, x4, x5, x6, x7, x8⟩ := hX
      have hPt := hP.xg x4
      by_cases h40 : P[pl]? = some 40
      · obtain ⟨g, rfl⟩ : ∃ g, f = g + 2 := ⟨f - 2, by omega⟩
        have hr : prs P (g + 1 + 1) (some (some (nd x))) pl (fOp nd c) ops = R := hr
        rw [prs_A, if_pos h40] at hr
        have hpl : pl < P.length := (List.getElem?_eq_some_iff.mp h40).1
        have L49 : V Z (rw (zG Z) a τ) [(2, .int (bI true)), (1, .int (nI x)), (0, .ref (a 0))] 49 [] := by
          refine V.iload_n X 0 dX12_read_49 rfl rfl ?_
          refine V.if_eqB X 87 dX12_read_50 (by decide) (fun c50 => by exfalso; cases c50) (fun c50 => ?_)
          refine V.aload_n X 2 dX12_read_53 rfl rfl ?_
          refine V.callV X rfl (rp_now (zl Z) (zG Z) a (τ := τ) hPt (i := pl) x2 (by omega)) cv_X12_239 rfl 0 rfl rfl (len hRf (by decide)) (len hRl (by decide)) hk0 ht0 [] rfl (Nat.le_of_ble_eq_true rfl) dX12_read_54 ?_
          rintro _ _ ⟨rfl, rfl⟩
          refine V.eqs (st' := [.int (oI (P[pl]?))]) rfl ?_
          refine V.bipush X (v := nI 40) dX12_read_57 (by decide) ?_
          refine V.icmp_ne X 87 dX12_read_59 (by decide) (fun c59 => by exfalso; exact c59 ((oI_inj (hP.b31 _) (by decide)).mpr h40)) (fun c59 => ?_)
          refine V.aload_n X 2 dX12_read_62 rfl rfl ?_
          refine V.dup X dX12_read_63 rfl ?_
          refine Vg_r_0_place (x := gN (τ) 12) X tw_867 dX12_read_64 rfl ?_
          refine V.iconst X (v := nI 1) dX12_read_67 (by decide) ?_
          refine V.iaddN X dX12_read_68 ?_
          refine Vp_r_0_place (x := (gN (τ) 12) + 1) X tw_867 dX12_read_69 ?_
          have f1 : gN (sN τ 12 (gN τ 12 + 1)) 12 = pl + 1 := by show gN τ 12 + 1 = _; rw [x2]
          have f2 : xG (sN τ 12 (gN τ 12 + 1)) σ := (xR_12 _ _).xg.tr x4
          have f2a : ars (sN τ 12 (gN τ 12 + 1)) = ars σ := (xR_ars (xR_12 τ (gN τ 12 + 1))).trans x5
          have f3 : gO (sN τ 12 (gN τ 12 + 1)) 0 = none := x3
          have f4 : TR n cl nd mN (sN τ 12 (gN τ 12 + 1)) := x1.xr (xR_12 _ _)
          generalize (sN τ 12 (gN τ 12 + 1)) = τ1 at f1 f2 f2a f3 f4 ⊢
          refine V.iload_n X 1 dX12_read_72 rfl rfl ?_
          refine V.istore_n X (lv' := [(3, .int (nI x)), (2, .int (bI true)), (1, .int (nI x)), (0, .ref (a 0))]) dX12_read_73 rfl (ltn hn (by decide)) rfl ?_
          refine V.aload_n X 3 dX12_read_74 rfl rfl ?_
          refine Vg_r_0_nodes (x := gN (τ1) 11) X tw_858 dX12_read_75 rfl ?_
          refine V.topi (y := nI n) (by rw [f4.1]) ?_
          refine V.istore_n X (lv' := [(1, .int (nI n)), (3, .int (nI x)), (2, .int (bI true)), (0, .ref (a 0))]) dX12_read_78 rfl (ltn hn (by decide)) rfl ?_
          refine V.aload_n X 3 dX12_read_79 rfl rfl ?_
          refine V.iload_n X 1 dX12_read_80 rfl rfl ?_
          refine V.topi (y := oI (some x)) rfl ?_
          refine V.callV X rfl (r_readOne (zl Z) (zG Z) a τ1 (P := P) (some x) (i := pl + 1) (hP.xg f2) f1 (by omega) f3 f4 (by omega) (fun p hp => by have hh := Option.some.inj hp; omega)) cv_X12_254 rfl 0 rfl rfl (len hRf (by decide)) (len hRl (by decide)) hk0 ht0 [] rfl (Nat.le_of_ble_eq_true rfl) dX12_read_81 ?_
          rintro _ _ ⟨rfl, τ3, rfl, y1, y2, y3⟩
          refine V.eqs (st' := []) rfl ?_
          rcases y3 with ⟨e, y4, y5⟩ | ⟨k, y4, y5, y6, y7, y8, y9, y10⟩
          · refine V.goto X 24 dX12_read_84 (by decide) ?_
            exact V.sub [3] rfl (L24 τ3 e y5 (by have := rdE_le y4 hl6 (by omega); omega) (y1.tr f2) (y2.trans f2a) (by rw [← hr]; have hq := prs_err y4 (g - 2) (((nd x).1, (nd x).2, 0) :: fOp nd c) ops; rw [show g - 2 + 3 = g + 1 by omega] at hq; exact hq))
          · obtain ⟨z1, z2, z3⟩ := RX.new x8 (by omega) f2 f2a y1 y2 y4 y5 y6 y7 y8 y9 y10
            obtain ⟨m1, m2, m3, m4, m5, m6⟩ := rd_new (kv := (k, pNv P (pl + 1 + 1))) (m := va_up mN n (lN 0)) f4 hp hxn hls hd
            refine V.goto X 24 dX12_read_84 (by decide) ?_
            exact V.sub [2, 0, 3] rfl ((ih g (by omega)).1 (n + 1) _ _ _ T ((x, (cl x).length) :: c) n _ ops τ3 (by rw [va_up_self, m6, hcx]; rw [(prs_ok y4 y5 g _ _).1] at hr; exact hr) (by omega) z1 m1 (by omega) m2 m3 m4 (by rw [m5, hcx, hop]; simp) (by simp only [List.length_cons]; omega))
        refine V.aload_n X 2 dX12_read_24 rfl rfl ?_
        refine Vg_r_0_wrong (x := gO (τ) 0) X tw_868 dX12_read_25 rfl ?_
        refine V.topi (y := -1) (by rw [x3]; rfl) ?_
        refine V.iconst X (v := -1) dX12_read_28 (by decide) ?_
        refine V.icmp_ne X 170 dX12_read_29 (by decide) (fun c29 => by exfalso; exact c29 rfl) (fun c29 => ?_)
        refine V.iload_n X 1 dX12_read_32 rfl rfl ?_
        refine V.if_neN X 49 dX12_read_33 (by decide) (by omega) (fun c33 => ?_) (fun c33 => ?_)
        · exact V.sub [0, 1, 2] rfl L49
        · refine V.iload_n X 0 dX12_read_36 rfl rfl ?_
          refine V.if_eqB X 170 dX12_read_37 (by decide) (fun c37 => by exfalso; cases c37) (fun c37 => ?_)
          refine V.aload_n X 2 dX12_read_40 rfl rfl ?_
          refine V.callV X rfl (rp_now (zl Z) (zG Z) a (τ := τ) hPt (i := pl) x2 (by omega)) cv_X12_239 rfl 0 rfl rfl (len hRf (by decide)) (len hRl (by decide)) hk0 ht0 [] rfl (Nat.le_of_ble_eq_true rfl) dX12_read_41 ?_
          rintro _ _ ⟨rfl, rfl⟩
          refine V.eqs (st' := [.int (oI (P[pl]?))]) rfl ?_
          refine V.bipush X (v := nI 40) dX12_read_44 (by decide) ?_
          refine V.icmp_ne X 170 dX12_read_46 (by decide) (fun c46 => by exfalso; exact c46 ((oI_inj (hP.b31 _) (by decide)).mpr h40)) (fun c46 => ?_)
          exact V.sub [0, 1, 2] rfl L49
      · obtain ⟨g, rfl⟩ : ∃ g, f = g + 1 := ⟨f - 1, by omega⟩
        rw [prs_A, if_neg h40] at hr
        obtain ⟨r1, r2⟩ := rd_leaf x1 hp hcx hd
        have hox : opn cl nd x = ((nd x).1, (nd x).2, 0) := by rw [opn, hcx]; rfl
        exact (ih g (by omega)).2 true n cl nd mN (va_up T x [opn cl nd x]) c x pl _ τ (fun _ => h40) hr (by omega) ⟨x1, x2, x3, x4, x5, x6, x7, x8⟩ hp hxn hls r1 (by rw [r2, va_up_self, hop, hox]) (by simp only [List.length_append, List.length_singleton]; omega)
    · intro b n cl nd mN T c x pl ops τ hb hr hf hX hp hxn hls hd hop hlen
      obtain ⟨x1, x2, x3, x4, x5, x6, x7, x8⟩ := hX
      have hPt := hP.xg x4
      obtain ⟨g, rfl⟩ : ∃ g, f = g + 1 := ⟨f - 1, by omega⟩
      rcases c with _ | ⟨⟨y, i⟩, c⟩
      · have hx0 : x = 0 := hp
        subst hx0
        have hr : prs P (g + 1) (some none) pl [] ops = R := hr
        rw [prs_C0] at hr
        have hop : ops = T 0 := hop
        have hlen : ops.length = n := hlen
        have hpf : pf n cl nd 0 = ops := by rw [hop]; exact pf_T x1.yng hd n 0 hxn (by omega)
        have L170 : V Z (rw (zG Z) a τ) [(0, .ref (a 0))] 170 [] := by
          refine V.aload_n X 0 dX12_read_170 rfl rfl ?_
          refine Vg_r_0_wrong (x := gO (τ) 0) X tw_868 dX12_read_171 rfl ?_
          refine V.topi (y := -1) (by rw [x3]; rfl) ?_
          refine V.iconst X (v := -1) dX12_read_174 (by decide) ?_
          refine V.icmp_ne X 197 dX12_read_175 (by decide) (fun c175 => by exfalso; exact c175 rfl) (fun c175 => ?_)
          refine V.aload_n X 0 dX12_read_178 rfl rfl ?_
          refine Vg_r_0_place (x := gN (τ) 12) X tw_867 dX12_read_179 rfl ?_
          refine V.topi (y := nI pl) (by rw [x2]) ?_
          refine V.aload_n X 0 dX12_read_182 rfl rfl ?_
          refine Vg_r_0_paperSize (x := gN (τ) 4) X tw_840 dX12_read_183 rfl ?_
          refine V.topi (y := nI P.length) (by rw [hPt.1]) ?_
          refine V.icmp_geN X 197 dX12_read_186 (by decide) (by omega) (by omega) (fun c186 => ?_) (fun c186 => ?_)
          · refine V.aload_n X 0 dX12_read_197 rfl rfl ?_
            refine Vg_r_0_wrong (x := gO (τ) 0) X tw_868 dX12_read_198 rfl ?_
            refine V.topi (y := -1) (by rw [x3]; rfl) ?_
            refine V.iconst X (v := -1) dX12_read_201 (by decide) ?_
            refine V.icmp_eq X 215 dX12_read_202 (by decide) (fun c202 => ?_) (fun c202 => by exfalso; exact c202 rfl)
            refine V.aload_n X 0 dX12_read_215 rfl rfl ?_
            refine V.callV X rfl (r_grow (zl Z) (zG Z) a τ (A := yA S) x1 (hx.ofa x5) hW (by omega) (by omega) x8 (by rw [hpf]; exact hlen)) cv_X12_223 rfl 0 rfl rfl (len hRf (by decide)) (len hRl (by decide)) hk0 ht0 [] rfl (Nat.le_of_ble_eq_true rfl) dX12_read_216 ?_
            rintro rv w0 hq
            rw [hpf] at hq
            obtain ⟨hq1, hq2⟩ := hq
            rw [← hlen] at hq1 hq2
            have hpe : pl = P.length := by omega
            rw [if_pos hpe] at hr
            have hsp : sp_read S = if aN (yA S) + ops.length ≤ 1500 ∧ tot (aP (yA S)) (aN (yA S)) + (ops.length - 1) ≤ 4000 then (nI (aN (yA S) + ops.length - 1), stA S (bns ops (yA S, [])).1) else (-4, S) := by rw [sp_read, hRX, ← hr, if_pos rfl]
            by_cases hroom : aN (yA S) + ops.length ≤ 1500 ∧ tot (aP (yA S)) (aN (yA S)) + (ops.length - 1) ≤ 4000
            · rw [if_pos hroom] at hsp
              obtain ⟨rfl, τ3, rfl, w1, w2, w3⟩ := hq1 hroom
              refine V.eqs (st' := [.int (nI (aN (yA S) + ops.length - 1))]) rfl ?_
              exact V.iret X rfl hA hk ht hQ rfl dX12_read_219 ⟨by rw [hsp], τ3, rfl, by rw [hsp]; exact h.grown w2 w1 (w3.tr x4)⟩
            · rw [if_neg hroom] at hsp
              obtain ⟨rfl, rfl⟩ := hq2 hroom
              refine V.eqs (st' := [.int (-4)]) rfl ?_
              exact V.iret X rfl hA hk ht hQ rfl dX12_read_219 ⟨by rw [hsp], τ, rfl, by rw [hsp]; exact h.grown (A := yA S) hW (hx.ofa x5) x4⟩
          · refine V.aload_n X 0 dX12_read_189 rfl rfl ?_
            refine V.aload_n X 0 dX12_read_190 rfl rfl ?_
            refine Vg_r_0_place (x := gN (τ) 12) X tw_867 dX12_read_191 rfl ?_
            refine V.topi (y := nI pl) (by rw [x2]) ?_
            refine V.topi (y := oI (some pl)) rfl ?_
            refine Vp_r_0_wrong (x := some pl) X tw_868 dX12_read_194 ?_
            exact V.sub [0] rfl (L197 (sO τ 0 (some pl)) pl rfl (by omega) ((xR_O _ _).xg.tr x4) ((xR_ars (xR_O _ _)).trans x5) (by rw [← hr, if_neg (by omega)]))
        refine V.aload_n X 2 dX12_read_24 rfl rfl ?_
        refine Vg_r_0_wrong (x := gO (τ) 0) X tw_868 dX12_read_25 rfl ?_
        refine V.topi (y := -1) (by rw [x3]; rfl) ?_
        refine V.iconst X (v := -1) dX12_read_28 (by decide) ?_
        refine V.icmp_ne X 170 dX12_read_29 (by decide) (fun c29 => by exfalso; exact c29 rfl) (fun c29 => ?_)
        refine V.iload_n X 1 dX12_read_32 rfl rfl ?_
        refine V.if_neN X 49 dX12_read_33 (by decide) (by decide) (fun c33 => by exfalso; omega) (fun c33 => ?_)
        refine V.iload_n X 0 dX12_read_36 rfl rfl ?_
        refine V.if_eqB X 170 dX12_read_37 (by decide) (fun c37 => ?_) (fun c37 => ?_)
        · exact V.sub [2] rfl L170
        · refine V.aload_n X 2 dX12_read_40 rfl rfl ?_
          refine V.callV X rfl (rp_now (zl Z) (zG Z) a (τ := τ) hPt (i := pl) x2 (by omega)) cv_X12_239 rfl 0 rfl rfl (len hRf (by decide)) (len hRl (by decide)) hk0 ht0 [] rfl (Nat.le_of_ble_eq_true rfl) dX12_read_41 ?_
          rintro _ _ ⟨rfl, rfl⟩
          refine V.eqs (st' := [.int (oI (P[pl]?))]) rfl ?_
          refine V.bipush X (v := nI 40) dX12_read_44 (by decide) ?_
          refine V.icmp_ne X 170 dX12_read_46 (by decide) (fun c46 => ?_) (fun c46 => by exfalso; exact hb c37 ((oI_inj (hP.b31 _) (by decide)).mp c46))
          exact V.sub [2] rfl L170
      · obtain ⟨h1, h2, h3⟩ := id hp
        have hyx := (x1.yng y h1 x (List.mem_of_getElem? h2)).1
        have hly : (cl y).length = i + 1 := hls (y, i) (List.mem_cons_self ..)
        have hpy : gP τ 6 x = some y := (x1.2.2.1 y i x h1 h2).2.2.2
        obtain ⟨r1, r2, r3⟩ := rd_close x1 hp hly hd
        have hoy : opn cl nd y = ((nd y).1, (nd y).2, i + 1) := by rw [opn, hly]
        have hr : prs P (g + 1) (some none) pl (((nd y).1, (nd y).2, i + 1) :: fOp nd c) ops = R := hr
        rw [prs_C1] at hr
        have hlen : ops.length + (c.length + 1) = n := hlen
        have L87 : V Z (rw (zG Z) a τ) [(2, .int (bI b)), (1, .int (nI x)), (0, .ref (a 0))] 87 [] := by
          refine V.aload_n X 2 dX12_read_87 rfl rfl ?_
          refine V.callV X rfl (rp_now (zl Z) (zG Z) a (τ := τ) hPt (i := pl) x2 (by omega)) cv_X12_239 rfl 0 rfl rfl (len hRf (by decide)) (len hRl (by decide)) hk0 ht0 [] rfl (Nat.le_of_ble_eq_true rfl) dX12_read_88 ?_
          rintro _ _ ⟨rfl, rfl⟩
          refine V.eqs (st' := [.int (oI (P[pl]?))]) rfl ?_
          refine V.bipush X (v := nI 44) dX12_read_91 (by decide) ?_
          refine V.icmp_ne X 128 dX12_read_93 (by decide) (fun c93 => ?_) (fun c93 => ?_)
          · refine V.aload_n X 2 dX12_read_128 rfl rfl ?_
            refine V.callV X rfl (rp_now (zl Z) (zG Z) a (τ := τ) hPt (i := pl) x2 (by omega)) cv_X12_239 rfl 0 rfl rfl (len hRf (by decide)) (len hRl (by decide)) hk0 ht0 [] rfl (Nat.le_of_ble_eq_true rfl) dX12_read_129 ?_
            rintro _ _ ⟨rfl, rfl⟩
            refine V.eqs (st' := [.int (oI (P[pl]?))]) rfl ?_
            refine V.bipush X (v := nI 41) dX12_read_132 (by decide) ?_
            refine V.icmp_ne X 159 dX12_read_134 (by decide) (fun c134 => ?_) (fun c134 => ?_)
            · rw [if_neg (fun z => c134 ((oI_inj (hP.b31 _) (by decide)).mpr z)), if_neg (fun z => c93 ((oI_inj (hP.b31 _) (by decide)).mpr z))] at hr
              refine V.aload_n X 2 dX12_read_159 rfl rfl ?_
              refine V.aload_n X 2 dX12_read_160 rfl rfl ?_
              refine Vg_r_0_place (x := gN (τ) 12) X tw_867 dX12_read_161 rfl ?_
              refine V.topi (y := nI pl) (by rw [x2]) ?_
              refine V.topi (y := oI (some pl)) rfl ?_
              refine Vp_r_0_wrong (x := some pl) X tw_868 dX12_read_164 ?_
              refine V.goto X 24 dX12_read_167 (by decide) ?_
              exact V.sub [2] rfl (L24 (sO τ 0 (some pl)) pl rfl (by omega) ((xR_O _ _).xg.tr x4) ((xR_ars (xR_O _ _)).trans x5) (by rw [← hr]))
            · have h41 := (oI_inj (hP.b31 _) (by decide)).mp c134
              have hpl : pl < P.length := (List.getElem?_eq_some_iff.mp h41).1
              rw [if_pos h41] at hr
              refine V.aload_n X 2 dX12_read_137 rfl rfl ?_
              refine V.dup X dX12_read_138 rfl ?_
              refine Vg_r_0_place (x := gN (τ) 12) X tw_867 dX12_read_139 rfl ?_
              refine V.iconst X (v := nI 1) dX12_read_142 (by decide) ?_
              refine V.iaddN X dX12_read_143 ?_
              refine Vp_r_0_place (x := (gN (τ) 12) + 1) X tw_867 dX12_read_144 ?_
              have f1 : gN (sN τ 12 (gN τ 12 + 1)) 12 = pl + 1 := by show gN τ 12 + 1 = _; rw [x2]
              have f2 : xG (sN τ 12 (gN τ 12 + 1)) σ := (xR_12 _ _).xg.tr x4
              have f2a : ars (sN τ 12 (gN τ 12 + 1)) = ars σ := (xR_ars (xR_12 τ (gN τ 12 + 1))).trans x5
              have f3 : gO (sN τ 12 (gN τ 12 + 1)) 0 = none := x3
              have f4 : TR n cl nd mN (sN τ 12 (gN τ 12 + 1)) := x1.xr (xR_12 _ _)
              have f5 : gP (sN τ 12 (gN τ 12 + 1)) 6 x = some y := hpy
              generalize (sN τ 12 (gN τ 12 + 1)) = τ1 at f1 f2 f2a f3 f4 f5 ⊢
              refine V.aload_n X 2 dX12_read_147 rfl rfl ?_
              refine Vg_r_0_parent X tw_864 dX12_read_148 ?_
              refine V.iload_n X 1 dX12_read_151 rfl rfl ?_
              refine Va_r_parent (x := gP (τ1) 6 x) X (by omega) dX12_read_152 rfl ?_
              refine V.topi (y := nI y) (by rw [f5]; rfl) ?_
              refine V.istore_n X (lv' := [(1, .int (nI y)), (2, .int (bI b)), (0, .ref (a 0))]) dX12_read_153 rfl (ltn hn (by decide)) rfl ?_
              refine V.iconst X (v := nI 0) dX12_read_154 (by decide) ?_
              refine V.topi (y := bI false) rfl ?_
              refine V.istore_n X (lv' := [(2, .int (bI false)), (1, .int (nI y)), (0, .ref (a 0))]) dX12_read_155 rfl (ltn hn (by decide)) rfl ?_
              refine V.goto X 24 dX12_read_156 (by decide) ?_
              exact V.sub [0, 1, 2] rfl ((ih g (by omega)).2 false n cl nd mN (va_up T y ((cl y).flatMap T ++ [opn cl nd y])) c y (pl + 1) _ τ1 (fun z => by cases z) hr (by omega) ⟨f4, f1, f3, f2, f2a, by omega, by omega, x8⟩ h3 h1 (fun q hq => hls q (List.mem_cons_of_mem _ hq)) r1 (by rw [r2, va_up_self, hop, r3, hoy, List.append_assoc]) (by simp only [List.length_append, List.length_singleton]; omega))
          · have h44 := (oI_inj (hP.b31 _) (by decide)).mp c93
            have hpl : pl < P.length := (List.getElem?_eq_some_iff.mp h44).1
            rw [if_neg (fun z => by rw [h44] at z; have hz := Option.some.inj z; omega), if_pos h44] at hr
            refine V.aload_n X 2 dX12_read_96 rfl rfl ?_
            refine V.dup X dX12_read_97 rfl ?_
            refine Vg_r_0_place (x := gN (τ) 12) X tw_867 dX12_read_98 rfl ?_
            refine V.iconst X (v := nI 1) dX12_read_101 (by decide) ?_
            refine V.iaddN X dX12_read_102 ?_
            refine Vp_r_0_place (x := (gN (τ) 12) + 1) X tw_867 dX12_read_103 ?_
            have f1 : gN (sN τ 12 (gN τ 12 + 1)) 12 = pl + 1 := by show gN τ 12 + 1 = _; rw [x2]
            have f2 : xG (sN τ 12 (gN τ 12 + 1)) σ := (xR_12 _ _).xg.tr x4
            have f2a : ars (sN τ 12 (gN τ 12 + 1)) = ars σ := (xR_ars (xR_12 τ (gN τ 12 + 1))).trans x5
            have f3 : gO (sN τ 12 (gN τ 12 + 1)) 0 = none := x3
            have f4 : TR n cl nd mN (sN τ 12 (gN τ 12 + 1)) := x1.xr (xR_12 _ _)
            have f5 : gP (sN τ 12 (gN τ 12 + 1)) 6 x = some y := hpy
            generalize (sN τ 12 (gN τ 12 + 1)) = τ1 at f1 f2 f2a f3 f4 f5 ⊢
            refine V.aload_n X 2 dX12_read_106 rfl rfl ?_
            refine Vg_r_0_parent X tw_864 dX12_read_107 ?_
            refine V.iload_n X 1 dX12_read_110 rfl rfl ?_
            refine Va_r_parent (x := gP (τ1) 6 x) X (by omega) dX12_read_111 rfl ?_
            refine V.topi (y := nI y) (by rw [f5]; rfl) ?_
            refine V.istore_n X (lv' := [(3, .int (nI y)), (2, .int (bI b)), (1, .int (nI x)), (0, .ref (a 0))]) dX12_read_112 rfl (ltn hn (by decide)) rfl ?_
            refine V.aload_n X 3 dX12_read_113 rfl rfl ?_
            refine Vg_r_0_nodes (x := gN (τ1) 11) X tw_858 dX12_read_114 rfl ?_
            refine V.topi (y := nI n) (by rw [f4.1]) ?_
            refine V.istore_n X (lv' := [(1, .int (nI n)), (3, .int (nI y)), (2, .int (bI b)), (0, .ref (a 0))]) dX12_read_117 rfl (ltn hn (by decide)) rfl ?_
            refine V.iconst X (v := nI 1) dX12_read_118 (by decide) ?_
            refine V.topi (y := bI true) rfl ?_
            refine V.istore_n X (lv' := [(2, .int (bI true)), (1, .int (nI n)), (3, .int (nI y)), (0, .ref (a 0))]) dX12_read_119 rfl (ltn hn (by decide)) rfl ?_
            refine V.aload_n X 3 dX12_read_120 rfl rfl ?_
            refine V.iload_n X 2 dX12_read_121 rfl rfl ?_
            refine V.topi (y := oI (some y)) rfl ?_
            refine V.callV X rfl (r_readOne (zl Z) (zG Z) a τ1 (P := P) (some y) (i := pl + 1) (hP.xg f2) f1 (by omega) f3 f4 (by omega) (fun p hp => by have hh := Option.some.inj hp; omega)) cv_X12_254 rfl 0 rfl rfl (len hRf (by decide)) (len hRl (by decide)) hk0 ht0 [] rfl (Nat.le_of_ble_eq_true rfl) dX12_read_122 ?_
            rintro _ _ ⟨rfl, τ3, rfl, y1, y2, y3⟩
            refine V.eqs (st' := []) rfl ?_
            rcases y3 with ⟨e, y4, y5⟩ | ⟨k, y4, y5, y6, y7, y8, y9, y10⟩
            · refine V.goto X 24 dX12_read_125 (by decide) ?_
              exact V.sub [3] rfl (L24 τ3 e y5 (by have := rdE_le y4 hl6 (by omega); omega) (y1.tr f2) (y2.trans f2a) (by rw [← hr]; have hq := prs_err y4 (g - 3) (((nd y).1, (nd y).2, i + 1) :: fOp nd c) ops; rw [show g - 3 + 3 = g by omega] at hq; exact hq))
            · obtain ⟨z1, z2, z3⟩ := RX.new x8 (by omega) f2 f2a y1 y2 y4 y5 y6 y7 y8 y9 y10
              obtain ⟨m1, m2, m3, m4, m5, m6⟩ := rd_new (kv := (k, pNv P (pl + 1 + 1))) (m := va_up mN n (lN 0)) f4 h3 h1 (fun q hq => hls q (List.mem_cons_of_mem _ hq)) hd
              refine V.goto X 24 dX12_read_125 (by decide) ?_
              exact V.sub [0, 1, 3] rfl ((ih (g - 1) (by omega)).1 (n + 1) _ _ _ T ((y, (cl y).length) :: c) n _ ops τ3 (by rw [va_up_self, m6, hly]; obtain ⟨g2, rfl⟩ : ∃ g2, g = g2 + 1 := ⟨g - 1, by omega⟩; rw [(prs_ok y4 y5 g2 _ _).1] at hr; exact hr) (by omega) z1 m1 (by omega) m2 m3 m4 (by rw [m5, hop, r3]) (by simp only [List.length_cons]; omega))
        refine V.aload_n X 2 dX12_read_24 rfl rfl ?_
        refine Vg_r_0_wrong (x := gO (τ) 0) X tw_868 dX12_read_25 rfl ?_
        refine V.topi (y := -1) (by rw [x3]; rfl) ?_
        refine V.iconst X (v := -1) dX12_read_28 (by decide) ?_
        refine V.icmp_ne X 170 dX12_read_29 (by decide) (fun c29 => by exfalso; exact c29 rfl) (fun c29 => ?_)
        refine V.iload_n X 1 dX12_read_32 rfl rfl ?_
        refine V.if_neN X 49 dX12_read_33 (by decide) (by omega) (fun c33 => ?_) (fun c33 => by exfalso; omega)
        refine V.iload_n X 0 dX12_read_49 rfl rfl ?_
        refine V.if_eqB X 87 dX12_read_50 (by decide) (fun c50 => ?_) (fun c50 => ?_)
        · exact V.sub [0, 1, 2] rfl L87
        · refine V.aload_n X 2 dX12_read_53 rfl rfl ?_
          refine V.callV X rfl (rp_now (zl Z) (zG Z) a (τ := τ) hPt (i := pl) x2 (by omega)) cv_X12_239 rfl 0 rfl rfl (len hRf (by decide)) (len hRl (by decide)) hk0 ht0 [] rfl (Nat.le_of_ble_eq_true rfl) dX12_read_54 ?_
          rintro _ _ ⟨rfl, rfl⟩
          refine V.eqs (st' := [.int (oI (P[pl]?))]) rfl ?_
          refine V.bipush X (v := nI 40) dX12_read_57 (by decide) ?_
          refine V.icmp_ne X 87 dX12_read_59 (by decide) (fun c59 => ?_) (fun c59 => by exfalso; exact hb c50 ((oI_inj (hP.b31 _) (by decide)).mp c59))
          exact V.sub [0, 1, 2] rfl L87
  refine V.aload_n X 0 dX12_read_0 rfl rfl ?_
  refine V.iconst X (v := nI 0) dX12_read_1 (by decide) ?_
  refine Vp_r_0_nodes (x := 0) X tw_858 dX12_read_2 ?_
  refine V.aload_n X 0 dX12_read_5 rfl rfl ?_
  refine V.iconst X (v := nI 0) dX12_read_6 (by decide) ?_
  refine Vp_r_0_place (x := 0) X tw_867 dX12_read_7 ?_
  refine V.aload_n X 0 dX12_read_10 rfl rfl ?_
  refine V.iconst X (v := -1) dX12_read_11 (by decide) ?_
  refine V.topi (y := oI none) rfl ?_
  refine Vp_r_0_wrong (x := none) X tw_868 dX12_read_12 ?_
  have f1 : gN (sO (sN (sN σ 11 0) 12 0) 0 none) 12 = 0 := rfl
  have f2 : xG (sO (sN (sN σ 11 0) 12 0) 0 none) σ := ⟨rfl, rfl, rfl, rfl, rfl, rfl, rfl⟩
  have f2a : ars (sO (sN (sN σ 11 0) 12 0) 0 none) = ars σ := rfl
  have f3 : gO (sO (sN (sN σ 11 0) 12 0) 0 none) 0 = none := rfl
  have f4 : TR 0 (fun _ => []) (fun _ => ((0, 0) : Nat × Int32)) (fun _ => (0 : Int64)) (sO (sN (sN σ 11 0) 12 0) 0 none) := ⟨rfl, fun x hx => by omega, fun x i j hx => by omega, fun x y i k j hx => by omega, fun hx => by omega⟩
  generalize (sO (sN (sN σ 11 0) 12 0) 0 none) = τ1 at f1 f2 f2a f3 f4 ⊢
  refine V.aload_n X 0 dX12_read_15 rfl rfl ?_
  refine V.iconst X (v := -1) dX12_read_16 (by decide) ?_
  refine V.topi (y := oI none) rfl ?_
  refine V.callV X rfl (r_readOne (zl Z) (zG Z) a τ1 (P := P) none (i := 0) (hP.xg f2) f1 (by omega) f3 f4 (by omega) (fun p hp => by cases hp)) cv_X12_254 rfl 0 rfl rfl (len hRf (by decide)) (len hRl (by decide)) hk0 ht0 [] rfl (Nat.le_of_ble_eq_true rfl) dX12_read_17 ?_
  rintro _ _ ⟨rfl, τ3, rfl, y1, y2, y3⟩
  refine V.eqs (st' := []) rfl ?_
  rcases y3 with ⟨e, y4, y5⟩ | ⟨k, y4, y5, y6, y7, y8, y9, y10⟩
  · refine V.iconst X (v := nI 0) dX12_read_20 (by decide) ?_
    refine V.istore_n X (lv' := [(1, .int (nI 0)), (0, .ref (a 0))]) dX12_read_21 rfl (ltn hn (by decide)) rfl ?_
    refine V.iconst X (v := nI 1) dX12_read_22 (by decide) ?_
    refine V.istore_n X (lv' := [(2, .int (nI 1)), (1, .int (nI 0)), (0, .ref (a 0))]) dX12_read_23 rfl (ltn hn (by decide)) rfl ?_
    exact V.sub [2] rfl (L24 τ3 e y5 (by have := rdE_le y4 hl6 (by omega); omega) (y1.tr f2) (y2.trans f2a) (by rw [← hR]; exact prs_err y4 f0 [] []))
  · obtain ⟨z1, z2, z3⟩ := RX.new (fun y hy => by omega) (Nat.le_refl _) f2 f2a y1 y2 y4 y5 y6 y7 y8 y9 y10
    refine V.iconst X (v := nI 0) dX12_read_20 (by decide) ?_
    refine V.istore_n X (lv' := [(1, .int (nI 0)), (0, .ref (a 0))]) dX12_read_21 rfl (ltn hn (by decide)) rfl ?_
    refine V.iconst X (v := nI 1) dX12_read_22 (by decide) ?_
    refine V.topi (y := bI true) rfl ?_
    refine V.istore_n X (lv' := [(2, .int (bI true)), (1, .int (nI 0)), (0, .ref (a 0))]) dX12_read_23 rfl (ltn hn (by decide)) rfl ?_
    exact V.sub [0, 1, 2] rfl ((LL (f0 + 2)).1 (0 + 1) _ _ _ (fun _ => []) [] 0 _ [] τ3 (by rw [va_up_self]; have hR : prs P (f0 + 2 + 1) none 0 [] [] = R := hR; rw [(prs_ok y4 y5 (f0 + 2) _ _).1] at hR; exact hR) (by omega) z1 rfl (by omega) (show va_up (fun _ => ([] : List Nat)) 0 [] 0 = [] from va_up_self _ _ _) (fun q hq => by cases hq) (fun w hw hB => absurd (by rw [show w = 0 by omega]; simp) hB) rfl rfl)

