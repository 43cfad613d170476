/-! ===== the heap while objects are made ===== -/
section
variable {E : mE} {d : Nat} {b : Nat}
def nul : Nat → Value := fun _ => .null
def kS (kf : Nat → Nat × Nat) (m : Nat) (x : Nat × Nat) : Nat → Nat × Nat := fun o => if o = m then x else kf o
def fN (ff : Nat → Nat → Value) (m : Nat) (f : Nat → Value) : Nat → Nat → Value := fun o => if o = m then f else ff o
def fS (ff : Nat → Nat → Value) (o k : Nat) (v : Value) : Nat → Nat → Value := fun x j => if x = o ∧ j = k then v else ff x j
def bh (b m z : Nat) (kf : Nat → Nat × Nat) (ff : Nat → Nat → Value) : mH := (b + m, z, fun a => if b ≤ a ∧ a < b + m then kf (a - b) else (0, 0), fun _ _ => 0, fun _ _ => 0, fun a => if b ≤ a ∧ a < b + m then ff (a - b) else nul)
variable {m z : Nat} {kf : Nat → Nat × Nat} {ff : Nat → Nat → Value}
theorem hN_bh : hN (bh b m z kf ff) = b + m := rfl
theorem hZ_bh : hZ (bh b m z kf ff) = z := rfl
theorem hI_bh : hI (bh b m z kf ff) = fun _ _ => 0 := rfl
theorem hJ_bh : hJ (bh b m z kf ff) = fun _ _ => 0 := rfl
theorem hK_bh {o : Nat} (ho : o < m) : hK (bh b m z kf ff) (b + o) = kf o := by
  show (if b ≤ b + o ∧ b + o < b + m then kf (b + o - b) else (0, 0)) = kf o
  rw [if_pos (by omega), Nat.add_sub_cancel_left]
theorem hF_bh {o j : Nat} (ho : o < m) : hF (bh b m z kf ff) (b + o) j = ff o j := by
  show (if b ≤ b + o ∧ b + o < b + m then ff (b + o - b) else nul) j = ff o j
  rw [if_pos (by omega), Nat.add_sub_cancel_left]
theorem hK_bh0 (ho : 0 < m) : hK (bh b m z kf ff) b = kf 0 := hK_bh (o := 0) ho
theorem hF_bh0 {j : Nat} (ho : 0 < m) : hF (bh b m z kf ff) b j = ff 0 j := hF_bh (o := 0) ho
theorem hK_lo {a : Nat} (ha : a < b) : hK (bh b m z kf ff) a = (0, 0) := if_neg (by omega)
theorem aH_bh {t n zz : Nat} {f : Nat → Value} : aH (bh b m z kf ff) t n zz f = bh b (m + 1) (z + zz) (kS kf m (t, n)) (fN ff m f) := by
  have e1 : va_up (fun a => if b ≤ a ∧ a < b + m then kf (a - b) else (0, 0)) (b + m) (t, n) = fun a => if b ≤ a ∧ a < b + (m + 1) then kS kf m (t, n) (a - b) else (0, 0) := by
    funext a
    unfold va_up kS
    by_cases c : a = b + m
    · rw [if_pos c, if_pos (by omega), if_pos (by omega)]
    · rw [if_neg c]
      dsimp only
      by_cases c2 : b ≤ a ∧ a < b + m
      · rw [if_pos c2, if_pos (by omega), if_neg (by omega)]
      · rw [if_neg c2, if_neg (by omega)]
  have e2 : va_up (fun (_ : Nat) (_ : Nat) => (0 : Int32)) (b + m) (fun _ => 0) = fun _ _ => 0 := by
    funext a
    unfold va_up
    split <;> rfl
  have e3 : va_up (fun (_ : Nat) (_ : Nat) => (0 : Int64)) (b + m) (fun _ => 0) = fun _ _ => 0 := by
    funext a
    unfold va_up
    split <;> rfl
  have e4 : va_up (fun a => if b ≤ a ∧ a < b + m then ff (a - b) else nul) (b + m) f = fun a => if b ≤ a ∧ a < b + (m + 1) then fN ff m f (a - b) else nul := by
    funext a
    unfold va_up fN
    by_cases c : a = b + m
    · rw [if_pos c, if_pos (by omega), if_pos (by omega)]
    · rw [if_neg c]
      dsimp only
      by_cases c2 : b ≤ a ∧ a < b + m
      · rw [if_pos c2, if_pos (by omega), if_neg (by omega)]
      · rw [if_neg c2, if_neg (by omega)]
  show (b + m + 1, z + zz, va_up (fun a => if b ≤ a ∧ a < b + m then kf (a - b) else (0, 0)) (b + m) (t, n), va_up (fun (_ : Nat) (_ : Nat) => (0 : Int32)) (b + m) (fun _ => 0), va_up (fun (_ : Nat) (_ : Nat) => (0 : Int64)) (b + m) (fun _ => 0), va_up (fun a => if b ≤ a ∧ a < b + m then ff (a - b) else nul) (b + m) f) = _
  rw [e1, e2, e3, e4]
  rfl
theorem sF_bh {o k : Nat} {v : Value} (ho : o < m) : sF (bh b m z kf ff) (b + o) k v = bh b m z kf (fS ff o k v) := by
  have e4 : va_up (fun a => if b ≤ a ∧ a < b + m then ff (a - b) else nul) (b + o) (va_up ((fun a => if b ≤ a ∧ a < b + m then ff (a - b) else nul) (b + o)) k v) = fun a => if b ≤ a ∧ a < b + m then fS ff o k v (a - b) else nul := by
    funext a
    unfold va_up fS
    by_cases c : a = b + o
    · rw [if_pos c, if_pos (by omega)]
      dsimp only
      funext j
      rw [c, Nat.add_sub_cancel_left, if_pos (show b ≤ b + o ∧ b + o < b + m by omega)]
      by_cases c2 : j = k
      · rw [if_pos c2, if_pos ⟨rfl, c2⟩]
      · rw [if_neg c2, if_neg (fun q => c2 q.2)]
    · rw [if_neg c]
      dsimp only
      by_cases c2 : b ≤ a ∧ a < b + m
      · rw [if_pos c2, if_pos c2]
        funext j
        rw [if_neg (by omega)]
      · rw [if_neg c2, if_neg c2]
  show (b + m, z, _, _, _, va_up (fun a => if b ≤ a ∧ a < b + m then ff (a - b) else nul) (b + o) (va_up ((fun a => if b ≤ a ∧ a < b + m then ff (a - b) else nul) (b + o)) k v)) = _
  rw [e4]
  rfl
theorem sF_bh0 {k : Nat} {v : Value} (ho : 0 < m) : sF (bh b m z kf ff) b k v = bh b m z kf (fS ff 0 k v) := sF_bh (o := 0) ho
theorem kS_n {m x : Nat} {y : Nat × Nat} : kS kf m y x = if x = m then y else kf x := rfl
theorem c_X2_init {o : Nat} (ho : o < m) (k1 : kf o = (12, 2)) : cal E (d + 1) kX2_init [.ref (b + o)] (bh b m z kf ff) = some (none, bh b (m + 1) (z + 144) (kS kf m (1, 144)) (fS (fS (fN ff m nul) o 0 (.ref (b + m))) o 1 (.int 0))) := by
  have h1 : o < m + 1 := by omega
  have k2 : kS kf m (1, 144) o = (12, 2) := by rw [kS_n, if_neg (by omega)]; exact k1
  have en : (fun _ => Value.null : Nat → Value) = nul := rfl
  simp (decide := true) only [e_X2_init, s_X2_init_0, s_X2_init_1, s_X2_init_4, s_X2_init_5, s_X2_init_8, s_X2_init_10, s_X2_init_13, s_X2_init_14, s_X2_init_15, s_X2_init_18, if_true, if_false, and_true, true_and, and_false, false_and, true_or, or_true, or_false, false_or, eq_self, not_true_eq_false, not_false_eq_true, zv_int, zv_ref, zv_null, zv_none, hK_sI, hF_sI, hJ_sI, hN_sI, hZ_sI, hI_sI_same, hK_sJ, hF_sJ, hI_sJ, hN_sJ, hZ_sJ, hJ_sJ_same, hK_sF, hI_sF, hJ_sF, hN_sF, hZ_sF, Option.bind_some, Option.toList_some, Option.toList_none, List.cons_append, List.nil_append, zq_ref, zq_null, hN_bh, aH_bh, en, hK_bh h1, k2, sF_bh h1, zfit]
theorem c_X1_init {o : Nat} (ho : o < m) (k1 : kf o = (11, 3)) : cal E (d + 1) kX1_init [.ref (b + o)] (bh b m z kf ff) = some (none, bh b (m + 1) (z + 150) (kS kf m (1, 150)) (fS (fS (fS (fN ff m nul) o 0 (.ref (b + m))) o 1 (.int 0)) o 2 (.int (-1)))) := by
  have h1 : o < m + 1 := by omega
  have k2 : kS kf m (1, 150) o = (11, 3) := by rw [kS_n, if_neg (by omega)]; exact k1
  have en : (fun _ => Value.null : Nat → Value) = nul := rfl
  simp (decide := true) only [e_X1_init, s_X1_init_0, s_X1_init_1, s_X1_init_4, s_X1_init_5, s_X1_init_8, s_X1_init_10, s_X1_init_13, s_X1_init_14, s_X1_init_15, s_X1_init_18, s_X1_init_19, s_X1_init_20, s_X1_init_23, if_true, if_false, and_true, true_and, and_false, false_and, true_or, or_true, or_false, false_or, eq_self, not_true_eq_false, not_false_eq_true, zv_int, zv_ref, zv_null, zv_none, hK_sI, hF_sI, hJ_sI, hN_sI, hZ_sI, hI_sI_same, hK_sJ, hF_sJ, hI_sJ, hN_sJ, hZ_sJ, hJ_sJ_same, hK_sF, hI_sF, hJ_sF, hN_sF, hZ_sF, Option.bind_some, Option.toList_some, Option.toList_none, List.cons_append, List.nil_append, zq_ref, zq_null, hN_bh, aH_bh, en, hK_bh h1, k2, sF_bh h1, zfit]
def zd (c : Nat) : Nat → Value := fun k => (zdf c).getD k .null
/-- the finder's fields -/
def fi8 (b : Nat) (E : mE) (o m : Nat) (ff : Nat → Nat → Value) : Nat → Nat → Value := fS (fS (fS (fS (fS (fS (fS (fS (fS (fN (fS (fN (fS (fS (fS (fN (fN ff m (zd 2)) (m + 1) nul) m 0 (.ref (b + (m + 1)))) m 1 (.int 0)) o 0 (.ref (b + m))) (m + 2) nul) o 1 (.ref (b + (m + 2)))) (m + 3) nul) o 2 (.ref (b + (m + 3)))) o 3 (.int (-1))) o 4 (.int 0)) o 5 (.int 0)) o 6 (.int 0)) o 7 (.int 0)) o 8 (.int 0)) o 9 (.int 0)) o 10 (.ref (E.1 0))
theorem c_X0_init {o : Nat} (ho : o < m) (k1 : kf o = (10, 11)) : cal E (d + 2) kX0_init [.ref (b + o)] (bh b m z kf ff) = some (none, bh b (m + 4) (z + 2 + 144 + 16 + 32) (kS (kS (kS (kS kf m (12, 2)) (m + 1) (1, 144)) (m + 2) (1, 16)) (m + 3) (2, 32)) (fi8 b E o m ff)) := by
  have h1 : o < m + 1 := by omega
  have h2 : o < m + 1 + 1 := by omega
  have h3 : o < m + 1 + 1 + 1 := by omega
  have h4 : o < m + 1 + 1 + 1 + 1 := by omega
  have k2 : ∀ x, kS (kS kf m (12, 2)) (m + 1) x o = (10, 11) := fun x => by rw [kS_n, if_neg (by omega), kS_n, if_neg (by omega)]; exact k1
  have k3 : kS kf m (12, 2) m = (12, 2) := by rw [kS_n, if_pos rfl]
  have k4 : ∀ x y, kS (kS (kS kf m (12, 2)) (m + 1) x) (m + 1 + 1) y o = (10, 11) := fun x y => by rw [kS_n, if_neg (by omega)]; exact k2 x
  have k5 : ∀ x y w, kS (kS (kS (kS kf m (12, 2)) (m + 1) x) (m + 1 + 1) y) (m + 1 + 1 + 1) w o = (10, 11) := fun x y w => by rw [kS_n, if_neg (by omega)]; exact k4 x y
  have en : (fun _ => Value.null : Nat → Value) = nul := rfl
  have ez : (fun k => (zdf 2).getD k .null : Nat → Value) = zd 2 := rfl
  have eS := c_X2_init (E := E) (d := d) (b := b) (m := m + 1) (z := z + 2) (kf := kS kf m (12, 2)) (ff := fN ff m (zd 2)) (o := m) (by omega) k3
  simp (decide := true) only [e_X0_init, s_X0_init_0, s_X0_init_1, s_X0_init_4, s_X0_init_5, s_X0_init_8, s_X0_init_9, s_X0_init_12, s_X0_init_15, s_X0_init_16, s_X0_init_18, s_X0_init_20, s_X0_init_23, s_X0_init_24, s_X0_init_26, s_X0_init_28, s_X0_init_31, s_X0_init_32, s_X0_init_33, s_X0_init_36, s_X0_init_37, s_X0_init_38, s_X0_init_41, s_X0_init_42, s_X0_init_43, s_X0_init_46, s_X0_init_47, s_X0_init_48, s_X0_init_51, s_X0_init_52, s_X0_init_53, s_X0_init_56, s_X0_init_57, s_X0_init_58, s_X0_init_61, s_X0_init_62, s_X0_init_63, s_X0_init_66, s_X0_init_67, s_X0_init_70, s_X0_init_73, if_true, if_false, and_true, true_and, and_false, false_and, true_or, or_true, or_false, false_or, eq_self, not_true_eq_false, not_false_eq_true, zv_int, zv_ref, zv_null, zv_none, hK_sI, hF_sI, hJ_sI, hN_sI, hZ_sI, hI_sI_same, hK_sJ, hF_sJ, hI_sJ, hN_sJ, hZ_sJ, hJ_sJ_same, hK_sF, hI_sF, hJ_sF, hN_sF, hZ_sF, Option.bind_some, Option.toList_some, Option.toList_none, List.cons_append, List.nil_append, zq_ref, zq_null, hN_bh, aH_bh, en, ez, eS, hK_bh h2, hK_bh h3, hK_bh h4, k2, k4, k5, sF_bh h2, sF_bh h3, sF_bh h4, zfit]
  rfl
end
