theorem sN_sN (σ : St) (k : Nat) (u v : Nat) : sN (sN σ k u) k v = sN σ k v := by simp only [sN, bx_uu]
theorem sN_self (σ : St) (k : Nat) : sN σ k (gN σ k) = σ := by simp only [sN, gN]; congr; funext j; simp only [va_up]; split <;> simp_all
theorem sA_sA (σ : St) (k : Nat) (u v : Nat → Nat) : sA (sA σ k u) k v = sA σ k v := by simp only [sA, bx_uu]
theorem sA_self (σ : St) (k : Nat) : sA σ k (gA σ k) = σ := by simp only [sA, gA]; congr; funext j; simp only [va_up]; split <;> simp_all
theorem sI_sI (σ : St) (k : Nat) (u v : Int32) : sI (sI σ k u) k v = sI σ k v := by simp only [sI, bx_uu]
theorem sI_self (σ : St) (k : Nat) : sI σ k (gI σ k) = σ := by simp only [sI, gI]; congr; funext j; simp only [va_up]; split <;> simp_all
theorem sJ_sJ (σ : St) (k : Nat) (u v : Nat → Int32) : sJ (sJ σ k u) k v = sJ σ k v := by simp only [sJ, bx_uu]
theorem sJ_self (σ : St) (k : Nat) : sJ σ k (gJ σ k) = σ := by simp only [sJ, gJ]; congr; funext j; simp only [va_up]; split <;> simp_all
theorem sL_sL (σ : St) (k : Nat) (u v : Nat → Int64) : sL (sL σ k u) k v = sL σ k v := by simp only [sL, bx_uu]
theorem sL_self (σ : St) (k : Nat) : sL σ k (gL σ k) = σ := by simp only [sL, gL]; congr; funext j; simp only [va_up]; split <;> simp_all
theorem sB_sB (σ : St) (k : Nat) (u v : Bool) : sB (sB σ k u) k v = sB σ k v := by simp only [sB, bx_uu]
theorem sB_self (σ : St) (k : Nat) : sB σ k (gB σ k) = σ := by simp only [sB, gB]; congr; funext j; simp only [va_up]; split <;> simp_all
theorem sZ_sZ (σ : St) (k : Nat) (u v : Nat → Bool) : sZ (sZ σ k u) k v = sZ σ k v := by simp only [sZ, bx_uu]
theorem sZ_self (σ : St) (k : Nat) : sZ σ k (gZ σ k) = σ := by simp only [sZ, gZ]; congr; funext j; simp only [va_up]; split <;> simp_all
theorem sO_sO (σ : St) (k : Nat) (u v : Option Nat) : sO (sO σ k u) k v = sO σ k v := by simp only [sO, bx_uu]
theorem sO_self (σ : St) (k : Nat) : sO σ k (gO σ k) = σ := by simp only [sO, gO]; congr; funext j; simp only [va_up]; split <;> simp_all
theorem sP_sP (σ : St) (k : Nat) (u v : Nat → Option Nat) : sP (sP σ k u) k v = sP σ k v := by simp only [sP, bx_uu]
theorem sP_self (σ : St) (k : Nat) : sP σ k (gP σ k) = σ := by simp only [sP, gP]; congr; funext j; simp only [va_up]; split <;> simp_all
theorem cpN (f g : Nat → Nat) (sp dp n : Nat) : va_cpy (fun j => nI (f j)) (fun j => nI (g j)) sp dp n = fun j => nI (va_cpy f g sp dp n j) := by
  funext j; simp only [va_cpy]; split <;> rfl
theorem cpY (f g : Nat → Nat) (sp dp n : Nat) : va_cpy (fun j => b8 (f j)) (fun j => b8 (g j)) sp dp n = fun j => b8 (va_cpy f g sp dp n j) := by
  funext j; simp only [va_cpy]; split <;> rfl
theorem b8_fits (n : Nat) : fits .byte (.int (b8 n)) = true := pk_fb _
theorem Vc_parts_parts {Z : Cx} {own : String} {cc : ByteArray} {rt : Option FieldType} {lv : List (Nat × Value)} {pc : Nat} {st : List Value} {a : Nat → Nat} {σ : St} (X : XC Z own cc rt) {index : Nat} {sp dp n : Nat} {f g : Nat → Nat} (h4 : sp + n ≤ 4000) (h5 : dp + n ≤ 4000) (hf : 1 ≤ (zR Z).frames) (hl : (st.map fun v => v.category).sum + (nativeFrameWords "java/lang/System" "arraycopy" 5 + 11) ≤ (zR Z).locals) (hw : Cond.methodLink own index arraycopyName ∈ tb) (hd : decode cc pc = .ok (.invokestatic index, 3)) (ef : gA σ 2 = f) (eg : gA σ 2 = g) (kk : V Z (cw (zG Z) a (sA σ 2 (va_cpy f g sp dp n))) lv (pc + 3) st) : V Z (cw (zG Z) a σ) lv pc (.int (nI n) :: .int (nI dp) :: .ref (a 5) :: .int (nI sp) :: .ref (a 5) :: st) := by
  subst ef; subst eg
  have e1 := nI_clamp (n := sp) (by omega)
  have e2 := nI_clamp (n := dp) (by omega)
  have e3 := nI_clamp (n := n) (by omega)
  exact V.copyi X (t0 := 0) 5 5 rfl rfl rfl rfl (nI_pos (by omega)) (nI_pos (by omega)) (nI_pos (by omega)) (by rw [e1, e3]; exact h4) (by rw [e2, e3]; exact h5) (fun i _ => rfl) hf hl (by rw [e1, e2, e3, cpN]; rfl) hw tw_444 tw_443 tw_61 hd kk
theorem Vc_loose_parts {Z : Cx} {own : String} {cc : ByteArray} {rt : Option FieldType} {lv : List (Nat × Value)} {pc : Nat} {st : List Value} {a : Nat → Nat} {σ : St} (X : XC Z own cc rt) {index : Nat} {sp dp n : Nat} {f g : Nat → Nat} (h4 : sp + n ≤ 1500) (h5 : dp + n ≤ 4000) (hf : 1 ≤ (zR Z).frames) (hl : (st.map fun v => v.category).sum + (nativeFrameWords "java/lang/System" "arraycopy" 5 + 11) ≤ (zR Z).locals) (hw : Cond.methodLink own index arraycopyName ∈ tb) (hd : decode cc pc = .ok (.invokestatic index, 3)) (ef : gA σ 3 = f) (eg : gA σ 2 = g) (kk : V Z (cw (zG Z) a (sA σ 2 (va_cpy f g sp dp n))) lv (pc + 3) st) : V Z (cw (zG Z) a σ) lv pc (.int (nI n) :: .int (nI dp) :: .ref (a 5) :: .int (nI sp) :: .ref (a 6) :: st) := by
  subst ef; subst eg
  have e1 := nI_clamp (n := sp) (by omega)
  have e2 := nI_clamp (n := dp) (by omega)
  have e3 := nI_clamp (n := n) (by omega)
  exact V.copyi X (t0 := 0) 6 5 rfl rfl rfl rfl (nI_pos (by omega)) (nI_pos (by omega)) (nI_pos (by omega)) (by rw [e1, e3]; exact h4) (by rw [e2, e3]; exact h5) (fun i _ => rfl) hf hl (by rw [e1, e2, e3, cpN]; rfl) hw tw_444 tw_443 tw_61 hd kk
theorem Vc_parts_sorted {Z : Cx} {own : String} {cc : ByteArray} {rt : Option FieldType} {lv : List (Nat × Value)} {pc : Nat} {st : List Value} {a : Nat → Nat} {σ : St} (X : XC Z own cc rt) {index : Nat} {sp dp n : Nat} {f g : Nat → Nat} (h4 : sp + n ≤ 4000) (h5 : dp + n ≤ 4000) (hf : 1 ≤ (zR Z).frames) (hl : (st.map fun v => v.category).sum + (nativeFrameWords "java/lang/System" "arraycopy" 5 + 11) ≤ (zR Z).locals) (hw : Cond.methodLink own index arraycopyName ∈ tb) (hd : decode cc pc = .ok (.invokestatic index, 3)) (ef : gA σ 2 = f) (eg : gA σ 11 = g) (kk : V Z (cw (zG Z) a (sA σ 11 (va_cpy f g sp dp n))) lv (pc + 3) st) : V Z (cw (zG Z) a σ) lv pc (.int (nI n) :: .int (nI dp) :: .ref (a 32) :: .int (nI sp) :: .ref (a 5) :: st) := by
  subst ef; subst eg
  have e1 := nI_clamp (n := sp) (by omega)
  have e2 := nI_clamp (n := dp) (by omega)
  have e3 := nI_clamp (n := n) (by omega)
  exact V.copyi X (t0 := 0) 5 32 rfl rfl rfl rfl (nI_pos (by omega)) (nI_pos (by omega)) (nI_pos (by omega)) (by rw [e1, e3]; exact h4) (by rw [e2, e3]; exact h5) (fun i _ => rfl) hf hl (by rw [e1, e2, e3, cpN]; rfl) hw tw_444 tw_443 tw_61 hd kk
theorem Vc_dbytes_pbytes {Z : Cx} {own : String} {cc : ByteArray} {rt : Option FieldType} {lv : List (Nat × Value)} {pc : Nat} {st : List Value} {a : Nat → Nat} {σ : St} (X : XC Z own cc rt) {index : Nat} {sp dp n : Nat} {f g : Nat → Nat} (h4 : sp + n ≤ 6000) (h5 : dp + n ≤ 6000) (hf : 1 ≤ (zR Z).frames) (hl : (st.map fun v => v.category).sum + (nativeFrameWords "java/lang/System" "arraycopy" 5 + 11) ≤ (zR Z).locals) (hw : Cond.methodLink own index arraycopyName ∈ tb) (hd : decode cc pc = .ok (.invokestatic index, 3)) (ef : gA σ 13 = f) (eg : gA σ 12 = g) (kk : V Z (cw (zG Z) a (sA σ 12 (va_cpy f g sp dp n))) lv (pc + 3) st) : V Z (cw (zG Z) a σ) lv pc (.int (nI n) :: .int (nI dp) :: .ref (a 8) :: .int (nI sp) :: .ref (a 10) :: st) := by
  subst ef; subst eg
  have e1 := nI_clamp (n := sp) (by omega)
  have e2 := nI_clamp (n := dp) (by omega)
  have e3 := nI_clamp (n := n) (by omega)
  exact V.copyi X (t0 := 2) 10 8 rfl rfl rfl rfl (nI_pos (by omega)) (nI_pos (by omega)) (nI_pos (by omega)) (by rw [e1, e3]; exact h4) (by rw [e2, e3]; exact h5) (fun i _ => b8_fits _) hf hl (by rw [e1, e2, e3, cpY]; rfl) hw tw_444 tw_443 tw_61 hd kk
def isT (k : Nat) : Prop := k = 20 ∨ k = 21 ∨ k = 23 ∨ k = 24 ∨ k = 26 ∨ k = 27 ∨ k = 28
theorem Vg_over {Z : Cx} {own : String} {cc : ByteArray} {rt : Option FieldType} {lv : List (Nat × Value)} {pc : Nat} {st : List Value} {a : Nat → Nat} {σ : St} (X : XC Z own cc rt) {index : Nat} {k : Nat} {x : Bool} (hw : Cond.fieldLink own index "NestedDeeds$Task" "over" "Z" ∈ tb) (hd : decode cc pc = .ok (.getfield index, 3)) (e : gB σ k = x) (hk : isT k) (kk : V Z (cw (zG Z) a σ) lv (pc + 3) (.int (bI x) :: st)) : V Z (cw (zG Z) a σ) lv pc (.ref (a k) :: st) := by
  rcases hk with rfl | rfl | rfl | rfl | rfl | rfl | rfl
  · exact Vg_c_20_over X hw hd e kk
  · exact Vg_c_21_over X (Or.inl rfl) hw hd e kk
  · exact Vg_c_23_over X (Or.inl rfl) hw hd e kk
  · exact Vg_c_24_over X (Or.inl rfl) hw hd e kk
  · exact Vg_c_26_over X (Or.inl rfl) hw hd e kk
  · exact Vg_c_27_over X (Or.inl rfl) hw hd e kk
  · exact Vg_c_28_over X (Or.inl rfl) hw hd e kk
theorem Vp_over {Z : Cx} {own : String} {cc : ByteArray} {rt : Option FieldType} {lv : List (Nat × Value)} {pc : Nat} {st : List Value} {a : Nat → Nat} {σ : St} (X : XC Z own cc rt) {index : Nat} {k : Nat} {x : Bool} (hw : Cond.fieldLink own index "NestedDeeds$Task" "over" "Z" ∈ tb) (hd : decode cc pc = .ok (.putfield index, 3)) (hk : isT k) (kk : V Z (cw (zG Z) a (sB σ k x)) lv (pc + 3) st) : V Z (cw (zG Z) a σ) lv pc (.int (bI x) :: .ref (a k) :: st) := by
  rcases hk with rfl | rfl | rfl | rfl | rfl | rfl | rfl
  · exact Vp_c_20_over X hw hd kk
  · exact Vp_c_21_over X (Or.inl rfl) hw hd kk
  · exact Vp_c_23_over X (Or.inl rfl) hw hd kk
  · exact Vp_c_24_over X (Or.inl rfl) hw hd kk
  · exact Vp_c_26_over X (Or.inl rfl) hw hd kk
  · exact Vp_c_27_over X (Or.inl rfl) hw hd kk
  · exact Vp_c_28_over X (Or.inl rfl) hw hd kk
