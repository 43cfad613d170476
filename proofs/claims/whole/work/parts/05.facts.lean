/-! ===== what the tables of my machine rest on ===== -/
set_option maxRecDepth 20000 in
theorem z_ft : ∀ q ∈ zft, lw_tbl[q.2.2.2.2.2.2]? = some (.fieldLink (zrn q.1) q.2.1 (zTT q.2.2.1 q.2.2.2.1).1 (zTT q.2.2.1 q.2.2.2.1).2.1 (zTT q.2.2.1 q.2.2.2.1).2.2.1) ∧ goodWord (.fieldLink (zrn q.1) q.2.1 (zTT q.2.2.1 q.2.2.2.1).1 (zTT q.2.2.1 q.2.2.2.1).2.1 (zTT q.2.2.1 q.2.2.2.1).2.2.1) = true ∧ q.2.2.2.1 < zNf q.2.2.1 ∧ q.2.2.1 < 5 ∧ (zTT q.2.2.1 q.2.2.2.1).2.2.2 = q.2.2.2.2.2.1 ∧ (zTT q.2.2.1 q.2.2.2.1).1 = zrn q.2.2.1 ∧ (q.2.2.2.2.1 = 0 ∧ zty q.2.2.1 q.2.2.2.1 = .int ∨ q.2.2.2.2.1 = 1 ∧ zty q.2.2.1 q.2.2.2.1 = .boolean ∨ q.2.2.2.2.1 = 2 ∧ zisr (some (zty q.2.2.1 q.2.2.2.1)) = true) := by decide +kernel
set_option maxRecDepth 20000 in
theorem z_lay : ∀ ci, ci < 5 → ∀ k, k < zNf ci → lw_tbl[(zlp ci).getD k 0]? = some (u_lay (zrn ci) (zTT ci) k) ∧ goodWord (u_lay (zrn ci) (zTT ci) k) = true := by decide +kernel
theorem z_cl : ∀ ci, ci < 5 → vwCl[ci]? = some (zrn ci, zTT ci, zNf ci) := by
  intro ci h
  match ci, h with
  | 0, _ => rfl
  | 1, _ => rfl
  | 2, _ => rfl
  | 3, _ => rfl
  | 4, _ => rfl
theorem z_ws {ci : Nat} (h : ci < 5) : ∀ w ∈ u_ws (zrn ci) (zTT ci) (zNf ci), w ∈ zT := by
  intro w hw
  obtain ⟨k, hk, rfl⟩ := List.mem_map.mp hw
  obtain ⟨h1, h2⟩ := z_lay ci h k (List.mem_range.mp hk)
  exact zin _ h1 h2
theorem z_ty : ∀ ci, ci < 5 → ∀ k, k < zNf ci → parseFieldDescriptor (zTT ci k).2.2.1 = some (zty ci k) := by
  intro ci h
  match ci, h with
  | 0, _ => exact tyX0_ok
  | 1, _ => exact tyX1_ok
  | 2, _ => exact tyX2_ok
  | 3, _ => exact tyX3_ok
  | 4, _ => exact tyX4_ok
theorem z_nm : ∀ ci, ci < 5 → ∀ a, a < zNf ci → ∀ b, b < zNf ci → a ≠ b → (zTT ci a).2.1 ≠ (zTT ci b).2.1 := by
  intro ci h
  match ci, h with
  | 0, _ => exact nmX0
  | 1, _ => exact nmX1
  | 2, _ => exact nmX2
  | 3, _ => exact nmX3
  | 4, _ => exact nmX4
theorem z_df : ∀ ci, ci < 5 → ∀ k, k < zNf ci → defaultValue (zty ci k) = (zdf ci).getD k .null := by decide +kernel
theorem z_inst : ∀ ci, ci < 5 → Cond.instantiable (zrn ci) (zNf ci) ∈ zT := by
  intro ci h
  match ci, h with
  | 0, _ => exact zw_13
  | 1, _ => exact zw_14
  | 2, _ => exact zw_15
  | 3, _ => exact zw_16
  | 4, _ => exact zw_17
theorem z_ini : ∀ ci, ci < 5 → Cond.initialized (zrn ci) ∈ zT := by
  intro ci h
  match ci, h with
  | 0, _ => exact zw_18
  | 1, _ => exact zw_19
  | 2, _ => exact zw_20
  | 3, _ => exact zw_21
  | 4, _ => exact zw_22
def zpl (M : Nat) : Nat × Nat × Nat × Nat × Nat := zmp.getD M (9, 0, 0, 0, 0)
theorem zma_len : zma.length = 152 := by rfl
theorem z_mt {M : Nat} (h : M < 152) : Cond.code (zmn M) (zcod M) (zmx M) (zrt M) ∈ zT := by
  have e : zmt.getD M (yL_law, cL_law, 4, none, 5, 1) ∈ zma := by
    unfold zmt
    have hl : M < zma.length := by rw [zma_len]; exact h
    rw [List.getD_eq_getElem?_getD, List.getElem?_append_left hl, List.getElem?_eq_getElem hl]
    exact List.getElem_mem hl
  exact zmc _ e
set_option maxRecDepth 20000 in
theorem z_mi : ∀ M, M < 152 → lw_tbl[(zpl M).2.2.1]? = some (.initialized (zmn M).cls) ∧ goodWord (.initialized (zmn M).cls) = true ∧ plainName (zmn M).cls = true ∧ (zmn M).cls = zrn (zow M) ∧ ((zmn M).cls ≠ "java/lang/invoke/MethodHandle" ∧ (zmn M).cls ≠ "java/lang/invoke/VarHandle") ∧ (parseMethodDescriptor (zmn M).desc).map (fun d => d.parameters.length) = some (znp M) ∧ zmx M ≤ 12 := by decide +kernel
set_option maxRecDepth 20000 in
theorem z_ms : ∀ M, M < 152 → (zkd M = 0 → lw_tbl[(zpl M).2.2.2.1]? = some (.static (zmn M)) ∧ goodWord (.static (zmn M)) = true) ∧ (zkd M = 1 → lw_tbl[(zpl M).2.2.2.1]? = some (.instanceMethod (zmn M)) ∧ goodWord (.instanceMethod (zmn M)) = true ∧ lw_tbl[(zpl M).2.2.2.2]? = some (.selects (zmn M).cls (zmn M) (zmn M)) ∧ goodWord (.selects (zmn M).cls (zmn M) (zmn M)) = true ∧ zow M < 5) ∧ (zkd M = 2 → lw_tbl[(zpl M).2.2.2.1]? = some (.instanceMethod (zmn M)) ∧ goodWord (.instanceMethod (zmn M)) = true ∧ (zmn M).name = "<init>" ∧ zrt M = none) := by decide +kernel
set_option maxRecDepth 20000 in
theorem z_lt1 : ∀ q ∈ zlt, q.2.2.1 < 3 → lw_tbl[q.2.2.2.2.2]? = some (.methodLink (zrn q.1) q.2.1 (zmn q.2.2.2.1)) ∧ goodWord (.methodLink (zrn q.1) q.2.1 (zmn q.2.2.2.1)) = true ∧ q.2.2.2.1 < 152 ∧ zkd q.2.2.2.1 = q.2.2.1 ∧ q.2.2.2.2.1 = znp q.2.2.2.1 := by decide +kernel
set_option maxRecDepth 20000 in
theorem z_lt2 : ∀ q ∈ zlt, (q.2.2.1 = 3 → (q.1, q.2.1, q.2.2.2.1) ∈ znm ∧ q.2.2.2.1 < 152 ∧ zkd q.2.2.2.1 = 2 ∧ q.2.2.2.2.1 = znp q.2.2.2.1) ∧ (q.2.2.1 = 4 → lw_tbl[q.2.2.2.2.2]? = some (.methodLink (zrn q.1) q.2.1 objectInit) ∧ goodWord (.methodLink (zrn q.1) q.2.1 objectInit) = true) ∧ (q.2.2.1 = 5 → lw_tbl[q.2.2.2.2.2]? = some (.methodLink (zrn q.1) q.2.1 arraycopyName) ∧ goodWord (.methodLink (zrn q.1) q.2.1 arraycopyName) = true) ∧ (q.2.2.1 = 6 → lw_tbl[q.2.2.2.2.2]? = some (.methodLink (zrn q.1) q.2.1 Lib.Math.min.name) ∧ goodWord (.methodLink (zrn q.1) q.2.1 Lib.Math.min.name) = true) ∧ (q.2.2.1 = 7 → lw_tbl[q.2.2.2.2.2]? = some (.methodLink (zrn q.1) q.2.1 Lib.Math.max.name) ∧ goodWord (.methodLink (zrn q.1) q.2.1 Lib.Math.max.name) = true) := by decide +kernel
set_option maxRecDepth 20000 in
theorem z_ct : ∀ q ∈ zct, lw_tbl[q.2.2.2]? = some (.constant (zrn q.1) q.2.1 q.2.2.1) ∧ goodWord (.constant (zrn q.1) q.2.1 q.2.2.1) = true := by decide +kernel
set_option maxRecDepth 20000 in
theorem z_dt : ∀ q ∈ zdt, lw_tbl[q.2.2.2]? = some (.constantLong (zrn q.1) q.2.1 q.2.2.1) ∧ goodWord (.constantLong (zrn q.1) q.2.1 q.2.2.1) = true := by decide +kernel
set_option maxRecDepth 20000 in
theorem z_nt : ∀ q ∈ znt, lw_tbl[q.2.2.2]? = some (.classLink (zrn q.1) q.2.1 (zrn q.2.2.1)) ∧ goodWord (.classLink (zrn q.1) q.2.1 (zrn q.2.2.1)) = true ∧ q.2.2.1 < 5 := by decide +kernel
theorem z_st7 : ∀ q ∈ zst, q.2.2 < 7 := by decide +kernel
theorem z_good : ∀ w ∈ zT, (w.onTables && w.keeps) = true ∨ ∃ ty, w = .arrayClass ty := fun w h => good_of_word (List.mem_filter.mp h).2
