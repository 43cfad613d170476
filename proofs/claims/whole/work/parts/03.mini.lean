/-! ===== my machine: a heap of rows by address, one step, many steps, calls by depth ===== -/
abbrev mH : Type := Nat × Nat × (Nat → Nat × Nat) × (Nat → Nat → Int32) × (Nat → Nat → Int64) × (Nat → Nat → Value)
def hN (h : mH) : Nat := h.1
def hZ (h : mH) : Nat := h.2.1
def hK (h : mH) : Nat → Nat × Nat := h.2.2.1
def hI (h : mH) : Nat → Nat → Int32 := h.2.2.2.1
def hJ (h : mH) : Nat → Nat → Int64 := h.2.2.2.2.1
def hF (h : mH) : Nat → Nat → Value := h.2.2.2.2.2
def sI (h : mH) (a : Nat) (f : Nat → Int32) : mH := (hN h, hZ h, hK h, va_up (hI h) a f, hJ h, hF h)
def sJ (h : mH) (a : Nat) (f : Nat → Int64) : mH := (hN h, hZ h, hK h, hI h, va_up (hJ h) a f, hF h)
def sF (h : mH) (a k : Nat) (v : Value) : mH := (hN h, hZ h, hK h, hI h, hJ h, va_up (hF h) a (va_up (hF h a) k v))
def aH (h : mH) (t n z : Nat) (f : Nat → Value) : mH := (hN h + 1, hZ h + z, va_up (hK h) (hN h) (t, n), va_up (hI h) (hN h) (fun _ => 0), va_up (hJ h) (hN h) (fun _ => 0), va_up (hF h) (hN h) f)
theorem hN_sI (h : mH) (a : Nat) (f : Nat → Int32) : hN (sI h a f) = hN h := rfl
theorem hZ_sI (h : mH) (a : Nat) (f : Nat → Int32) : hZ (sI h a f) = hZ h := rfl
theorem hK_sI (h : mH) (a : Nat) (f : Nat → Int32) : hK (sI h a f) = hK h := rfl
theorem hJ_sI (h : mH) (a : Nat) (f : Nat → Int32) : hJ (sI h a f) = hJ h := rfl
theorem hF_sI (h : mH) (a : Nat) (f : Nat → Int32) : hF (sI h a f) = hF h := rfl
theorem hI_sI (h : mH) (a : Nat) (f : Nat → Int32) (b : Nat) : hI (sI h a f) b = if b = a then f else hI h b := rfl
theorem hI_sI_same (h : mH) (a : Nat) (f : Nat → Int32) : hI (sI h a f) a = f := if_pos rfl
theorem hI_sI_ne (h : mH) {a b : Nat} (f : Nat → Int32) (n : b ≠ a) : hI (sI h a f) b = hI h b := if_neg n
theorem hN_sJ (h : mH) (a : Nat) (f : Nat → Int64) : hN (sJ h a f) = hN h := rfl
theorem hZ_sJ (h : mH) (a : Nat) (f : Nat → Int64) : hZ (sJ h a f) = hZ h := rfl
theorem hK_sJ (h : mH) (a : Nat) (f : Nat → Int64) : hK (sJ h a f) = hK h := rfl
theorem hI_sJ (h : mH) (a : Nat) (f : Nat → Int64) : hI (sJ h a f) = hI h := rfl
theorem hF_sJ (h : mH) (a : Nat) (f : Nat → Int64) : hF (sJ h a f) = hF h := rfl
theorem hJ_sJ (h : mH) (a : Nat) (f : Nat → Int64) (b : Nat) : hJ (sJ h a f) b = if b = a then f else hJ h b := rfl
theorem hJ_sJ_same (h : mH) (a : Nat) (f : Nat → Int64) : hJ (sJ h a f) a = f := if_pos rfl
theorem hJ_sJ_ne (h : mH) {a b : Nat} (f : Nat → Int64) (n : b ≠ a) : hJ (sJ h a f) b = hJ h b := if_neg n
theorem hN_sF (h : mH) (a k : Nat) (v : Value) : hN (sF h a k v) = hN h := rfl
theorem hZ_sF (h : mH) (a k : Nat) (v : Value) : hZ (sF h a k v) = hZ h := rfl
theorem hK_sF (h : mH) (a k : Nat) (v : Value) : hK (sF h a k v) = hK h := rfl
theorem hI_sF (h : mH) (a k : Nat) (v : Value) : hI (sF h a k v) = hI h := rfl
theorem hJ_sF (h : mH) (a k : Nat) (v : Value) : hJ (sF h a k v) = hJ h := rfl
theorem hF_sF (h : mH) (a k : Nat) (v : Value) (b j : Nat) : hF (sF h a k v) b j = if b = a ∧ j = k then v else hF h b j := by
  show va_up (hF h) a (va_up (hF h a) k v) b j = _
  unfold va_up
  by_cases h1 : b = a
  · subst h1
    by_cases h2 : j = k
    · simp [h2]
    · simp [h2]
  · simp [h1]
theorem sI_sI (h : mH) (a : Nat) (f g : Nat → Int32) : sI (sI h a f) a g = sI h a g := by
  have e : va_up (va_up (hI h) a f) a g = va_up (hI h) a g := bx_uu _ _ _ _
  show (hN h, hZ h, hK h, va_up (va_up (hI h) a f) a g, hJ h, hF h) = _
  rw [e]; rfl
theorem sI_self (h : mH) (a : Nat) : sI h a (hI h a) = h := by
  have e : va_up (hI h) a (hI h a) = hI h := by
    funext b
    unfold va_up
    split
    · next q => rw [q]
    · rfl
  show (hN h, hZ h, hK h, va_up (hI h) a (hI h a), hJ h, hF h) = _
  rw [e]; rfl
/-- what my machine reads beside its heap: the seven static rows' addresses; rows that nobody writes -/
abbrev mE : Type := (Nat → Nat) × (Nat → Option (Nat × (Nat → Int32)))
abbrev mR : Type := Option Value × mH
abbrev mL : Type := List (Option Value)
abbrev mF : Type := Nat × mL × List Value × mH
def zcod (M : Nat) : ByteArray := (zmt.getD M (yL_law, cL_law, 4, none, 5, 1)).2.1
def zmn (M : Nat) : MethodName := (zmt.getD M (yL_law, cL_law, 4, none, 5, 1)).1
def zmx (M : Nat) : Nat := (zmt.getD M (yL_law, cL_law, 4, none, 5, 1)).2.2.1
def zrt (M : Nat) : Option FieldType := (zmt.getD M (yL_law, cL_law, 4, none, 5, 1)).2.2.2.1
def zow (M : Nat) : Nat := (zmt.getD M (yL_law, cL_law, 4, none, 5, 1)).2.2.2.2.1
def znp (M : Nat) : Nat := (zmt.getD M (yL_law, cL_law, 4, none, 5, 1)).2.2.2.2.2
def zkd (M : Nat) : Nat := (zmp.getD M (9, 0, 0, 0, 0)).1
def zlk {α : Type} (o i : Nat) : List (Nat × Nat × α) → Option α
  | [] => none
  | (a, b, x) :: t => bif Nat.beq a o && Nat.beq b i then some x else zlk o i t
theorem zlk_mem {α : Type} {o i : Nat} {x : α} : ∀ {l : List (Nat × Nat × α)}, zlk o i l = some x → (o, i, x) ∈ l
  | [], h => by cases h
  | (a, b, y) :: t, h => by
    unfold zlk at h
    by_cases q : (Nat.beq a o && Nat.beq b i) = true
    · rw [q] at h
      obtain ⟨q1, q2⟩ := Bool.and_eq_true_iff.mp q
      have e1 := Nat.eq_of_beq_eq_true q1
      have e2 := Nat.eq_of_beq_eq_true q2
      subst e1; subst e2
      cases h
      exact List.mem_cons_self
    · rw [Bool.not_eq_true] at q
      rw [q] at h
      exact List.mem_cons_of_mem _ (zlk_mem h)
/-- a value of two words is lost when its second word is written -/
def zv (v : Option Value) : Option Value := match v with
  | some (.long _) => none
  | some (.double _) => none
  | x => x
theorem zv_int (x : Int32) : zv (some (.int x)) = some (.int x) := rfl
theorem zv_ref (x : Nat) : zv (some (.ref x)) = some (.ref x) := rfl
theorem zv_null : zv (some .null) = some .null := rfl
theorem zv_none : zv none = none := rfl
def zs1 (L : mL) (k : Nat) (v : Value) : mL := (L.modify (k - 1) zv).set k (some v)
def zs2 (L : mL) (k : Nat) (v : Value) : mL := ((L.modify (k - 1) zv).set k (some v)).set (k + 1) none
def zsl (vs : List Value) : mL := vs.flatMap fun v => if v.category = 2 then [some v, none] else [some v]
def zen (M : Nat) (vs : List Value) : mL := zsl vs ++ List.replicate (zmx M - (zsl vs).length) none
abbrev mX : Type := mF ⊕ Option mR
abbrev zno : mX := .inr none
def zt (pc : Nat) (off : Int) : Option Nat := match (pc : Int) + off with
  | .ofNat n => some n
  | .negSucc _ => none
def zgo (pc : Nat) (off : Int) (L : mL) (S : List Value) (h : mH) : mX := match zt pc off with
  | some t => .inl (t, L, S, h)
  | none => zno
def zcm (c : Jvm.ClassFile.Cond) (x y : Int32) : Bool := match c with
  | .eq => decide (x = y)
  | .ne => decide (¬ x = y)
  | .lt => decide (x < y)
  | .ge => decide (y ≤ x)
  | .gt => decide (y < x)
  | .le => decide (x ≤ y)
def zrf (v : Value) : Option Nat := match v with
  | .ref a => some a
  | _ => none
def zq (v : Value) : Value := va_rf (zrf v)
theorem zq_ref (a : Nat) : zq (.ref a) = .ref a := rfl
theorem zq_null : zq .null = .null := rfl
def zin_ (i : Int32) (n : Nat) : Bool := decide (0 ≤ i) && decide (i.toNatClampNeg < n)
/-- the row that a read of ints reads, and its length -/
def zir (E : mE) (h : mH) (a : Nat) : Option (Nat × (Nat → Int32)) := if (hK h a).1 = 1 then some ((hK h a).2, hI h a) else if (hK h a).1 = 0 then E.2 a else none
def zal (E : mE) (h : mH) (a : Nat) : Option Nat := if (hK h a).1 = 1 ∨ (hK h a).1 = 2 ∨ (hK h a).1 = 3 ∨ (hK h a).1 = 4 ∨ (hK h a).1 = 5 then some (hK h a).2 else if (hK h a).1 = 0 then (E.2 a).map (·.1) else none
def zfit (kind : Nat) (v : Value) : Bool := match kind, v with
  | 0, .int _ => true
  | 1, .int x => decide (x = 0 ∨ x = 1)
  | 2, .ref _ => true
  | 2, .null => true
  | _, _ => false
/-- how many bytes the instructions here take -/
def zlen : Instr → Nat
  | .aload _ | .astore _ | .iload _ | .istore _ | .lload _ | .lstore _ | .bipush _ | .ldc _ | .newarray _ => 2
  | .sipush _ | .ldc2_w _ | .getfield _ | .putfield _ | .getstatic _ | .goto _ | .ifCond _ _ | .if_icmp _ _ | .ifnonnull _ | .ifnull _ | .iinc _ _ | .invokespecial _ | .invokestatic _ | .invokevirtual _ | .new _ | .anewarray _ | .checkcast _ => 3
  | _ => 1
def zcat (S : List Value) : Nat := (S.map fun v => v.category).sum
def i_ild (k nx : Nat) (L : mL) (S : List Value) (h : mH) : mX := match L[k]? with
  | some (some (.int x)) => .inl (nx, L, .int x :: S, h)
  | _ => zno
def i_lld (k nx : Nat) (L : mL) (S : List Value) (h : mH) : mX := match L[k]? with
  | some (some (.long x)) => .inl (nx, L, .long x :: S, h)
  | _ => zno
def i_ald (k nx : Nat) (L : mL) (S : List Value) (h : mH) : mX := match L[k]? with
  | some (some (.ref x)) => .inl (nx, L, .ref x :: S, h)
  | some (some .null) => .inl (nx, L, .null :: S, h)
  | _ => zno
def i_ist (k nx : Nat) (L : mL) (S : List Value) (h : mH) : mX := match S with
  | .int x :: S => if k < L.length then .inl (nx, zs1 L k (.int x), S, h) else zno
  | _ => zno
def i_lst (k nx : Nat) (L : mL) (S : List Value) (h : mH) : mX := match S with
  | .long x :: S => if k + 1 < L.length then .inl (nx, zs2 L k (.long x), S, h) else zno
  | _ => zno
def i_ast (k nx : Nat) (L : mL) (S : List Value) (h : mH) : mX := match S with
  | .ref x :: S => if k < L.length then .inl (nx, zs1 L k (.ref x), S, h) else zno
  | .null :: S => if k < L.length then .inl (nx, zs1 L k .null, S, h) else zno
  | _ => zno
def i_inc (k : Nat) (n : Int) (nx : Nat) (L : mL) (S : List Value) (h : mH) : mX := match L[k]? with
  | some (some (.int x)) => .inl (nx, zs1 L k (.int (x + Int32.ofInt n)), S, h)
  | _ => zno
def i_b (f : Int32 → Int32 → Int32) (nx : Nat) (L : mL) (S : List Value) (h : mH) : mX := match S with
  | .int y :: .int x :: S => .inl (nx, L, .int (f x y) :: S, h)
  | _ => zno
def i_bd (f : Int32 → Int32 → Int32) (nx : Nat) (L : mL) (S : List Value) (h : mH) : mX := match S with
  | .int y :: .int x :: S => if y = 0 then zno else .inl (nx, L, .int (f x y) :: S, h)
  | _ => zno
def i_lb (f : Int64 → Int64 → Int64) (nx : Nat) (L : mL) (S : List Value) (h : mH) : mX := match S with
  | .long y :: .long x :: S => .inl (nx, L, .long (f x y) :: S, h)
  | _ => zno
def i_ls (f : Int64 → Int32 → Int64) (nx : Nat) (L : mL) (S : List Value) (h : mH) : mX := match S with
  | .int y :: .long x :: S => .inl (nx, L, .long (f x y) :: S, h)
  | _ => zno
def i_u (f : Int32 → Value) (nx : Nat) (L : mL) (S : List Value) (h : mH) : mX := match S with
  | .int x :: S => .inl (nx, L, f x :: S, h)
  | _ => zno
def i_l2i (nx : Nat) (L : mL) (S : List Value) (h : mH) : mX := match S with
  | .long x :: S => .inl (nx, L, .int x.toInt32 :: S, h)
  | _ => zno
def i_lcmp (nx : Nat) (L : mL) (S : List Value) (h : mH) : mX := match S with
  | .long y :: .long x :: S => .inl (nx, L, .int (lg_cmp x y) :: S, h)
  | _ => zno
def i_dup (nx : Nat) (L : mL) (S : List Value) (h : mH) : mX := match S with
  | v :: S => if v.category = 1 then .inl (nx, L, v :: v :: S, h) else zno
  | _ => zno
def i_dup2 (nx : Nat) (L : mL) (S : List Value) (h : mH) : mX := match S with
  | v :: w :: S => if v.category = 1 ∧ w.category = 1 then .inl (nx, L, v :: w :: v :: w :: S, h) else zno
  | _ => zno
def i_if1 (c : Jvm.ClassFile.Cond) (pc : Nat) (off : Int) (nx : Nat) (L : mL) (S : List Value) (h : mH) : mX := match zt pc off with
  | some t => (match S with
    | .int x :: S => .inl (bif zcm c x 0 then t else nx, L, S, h)
    | _ => zno)
  | none => zno
def i_if2 (c : Jvm.ClassFile.Cond) (pc : Nat) (off : Int) (nx : Nat) (L : mL) (S : List Value) (h : mH) : mX := match zt pc off with
  | some t => (match S with
    | .int y :: .int x :: S => .inl (bif zcm c x y then t else nx, L, S, h)
    | _ => zno)
  | none => zno
def i_nul (n : Bool) (pc : Nat) (off : Int) (nx : Nat) (L : mL) (S : List Value) (h : mH) : mX := match zt pc off with
  | some t => (match S with
    | .null :: S => .inl (bif n then t else nx, L, S, h)
    | .ref _ :: S => .inl (bif n then nx else t, L, S, h)
    | _ => zno)
  | none => zno
def i_tsw (pc : Nat) (df lo hi : Int) (offs : Array Int) (L : mL) (S : List Value) (h : mH) : mX := match S with
  | .int x :: S => if x.toInt < lo ∨ hi < x.toInt then zgo pc df L S h else (match offs[(x.toInt - lo).toNat]? with
    | some o => zgo pc o L S h
    | none => zno)
  | _ => zno
def i_iald (E : mE) (nx : Nat) (L : mL) (S : List Value) (h : mH) : mX := match S with
  | .int i :: .ref a :: S => (match zir E h a with
    | some (n, f) => bif zin_ i n then .inl (nx, L, .int (f i.toNatClampNeg) :: S, h) else zno
    | none => zno)
  | _ => zno
def i_lald (nx : Nat) (L : mL) (S : List Value) (h : mH) : mX := match S with
  | .int i :: .ref a :: S => if (hK h a).1 = 2 then (bif zin_ i (hK h a).2 then .inl (nx, L, .long (hJ h a i.toNatClampNeg) :: S, h) else zno) else zno
  | _ => zno
def i_zald (nx : Nat) (L : mL) (S : List Value) (h : mH) : mX := match S with
  | .int i :: .ref a :: S => if (hK h a).1 = 3 then (bif zin_ i (hK h a).2 then .inl (nx, L, .int (hI h a i.toNatClampNeg) :: S, h) else zno) else zno
  | _ => zno
def i_aald (nx : Nat) (L : mL) (S : List Value) (h : mH) : mX := match S with
  | .int i :: .ref a :: S => if (hK h a).1 = 4 ∨ (hK h a).1 = 5 then (bif zin_ i (hK h a).2 then .inl (nx, L, zq (hF h a i.toNatClampNeg) :: S, h) else zno) else zno
  | _ => zno
def i_iast (nx : Nat) (L : mL) (S : List Value) (h : mH) : mX := match S with
  | .int x :: .int i :: .ref a :: S => if (hK h a).1 = 1 then (bif zin_ i (hK h a).2 then .inl (nx, L, S, sI h a (upd (hI h a) i.toNatClampNeg x)) else zno) else zno
  | _ => zno
def i_zast (nx : Nat) (L : mL) (S : List Value) (h : mH) : mX := match S with
  | .int x :: .int i :: .ref a :: S => if (hK h a).1 = 3 then (bif zin_ i (hK h a).2 then .inl (nx, L, S, sI h a (upd (hI h a) i.toNatClampNeg (vp_nar .boolean x))) else zno) else zno
  | _ => zno
def i_last (nx : Nat) (L : mL) (S : List Value) (h : mH) : mX := match S with
  | .long x :: .int i :: .ref a :: S => if (hK h a).1 = 2 then (bif zin_ i (hK h a).2 then .inl (nx, L, S, sJ h a (vp_updL (hJ h a) i.toNatClampNeg x)) else zno) else zno
  | _ => zno
def i_aast (nx : Nat) (L : mL) (S : List Value) (h : mH) : mX := match S with
  | .ref v :: .int i :: .ref a :: S => if (hK h a).1 = 4 ∧ hK h v = (11, 3) ∨ (hK h a).1 = 5 ∧ hK h v = (12, 2) then (bif zin_ i (hK h a).2 then .inl (nx, L, S, sF h a i.toNatClampNeg (.ref v)) else zno) else zno
  | _ => zno
def i_alen (E : mE) (nx : Nat) (L : mL) (S : List Value) (h : mH) : mX := match S with
  | .ref a :: S => (match zal E h a with
    | some n => .inl (nx, L, .int (Int32.ofNat n) :: S, h)
    | none => zno)
  | _ => zno
def i_newa (t : ArrayType) (nx : Nat) (L : mL) (S : List Value) (h : mH) : mX := match S with
  | .int n :: S => if 0 ≤ n ∧ n.toNatClampNeg ≤ 1000000 then (match t with
    | .int => .inl (nx, L, .ref (hN h) :: S, aH h 1 n.toNatClampNeg n.toNatClampNeg (fun _ => .null))
    | .long => .inl (nx, L, .ref (hN h) :: S, aH h 2 n.toNatClampNeg n.toNatClampNeg (fun _ => .null))
    | .boolean => .inl (nx, L, .ref (hN h) :: S, aH h 3 n.toNatClampNeg n.toNatClampNeg (fun _ => .null))
    | _ => zno) else zno
  | _ => zno
def i_newq (o idx nx : Nat) (L : mL) (S : List Value) (h : mH) : mX := match S with
  | .int n :: S => if 0 ≤ n ∧ n.toNatClampNeg ≤ 1000000 then (match zlk o idx znt with
    | some (1, _) => .inl (nx, L, .ref (hN h) :: S, aH h 4 n.toNatClampNeg n.toNatClampNeg (fun _ => .null))
    | some (2, _) => .inl (nx, L, .ref (hN h) :: S, aH h 5 n.toNatClampNeg n.toNatClampNeg (fun _ => .null))
    | _ => zno) else zno
  | _ => zno
def i_new (o idx nx : Nat) (L : mL) (S : List Value) (h : mH) : mX := match zlk o idx znt with
  | some (ci, _) => .inl (nx, L, .ref (hN h) :: S, aH h (10 + ci) (zNf ci) (zNf ci) (fun k => (zdf ci).getD k .null))
  | none => zno
def i_getf (o idx nx : Nat) (L : mL) (S : List Value) (h : mH) : mX := match S with
  | .ref a :: S => (match zlk o idx zft with
    | some (ci, k, _, _, _) => if hK h a = (10 + ci, zNf ci) then .inl (nx, L, hF h a k :: S, h) else zno
    | none => zno)
  | _ => zno
def i_putf (M o idx nx : Nat) (L : mL) (S : List Value) (h : mH) : mX := match S with
  | v :: .ref a :: S => (match zlk o idx zft with
    | some (ci, k, kd, fin, _) => if hK h a = (10 + ci, zNf ci) ∧ zfit kd v = true ∧ (fin = false ∨ zkd M = 2 ∧ ci = o) then .inl (nx, L, S, sF h a k v) else zno
    | none => zno)
  | _ => zno
def i_gets (E : mE) (o idx nx : Nat) (L : mL) (S : List Value) (h : mH) : mX := match zlk o idx zst with
  | some k => .inl (nx, L, .ref (E.1 k) :: S, h)
  | none => zno
def i_ldc (o idx nx : Nat) (L : mL) (S : List Value) (h : mH) : mX := match zlk o idx zct with
  | some (v, _) => .inl (nx, L, .int v :: S, h)
  | none => zno
def i_ldc2 (o idx nx : Nat) (L : mL) (S : List Value) (h : mH) : mX := match zlk o idx zdt with
  | some (v, _) => .inl (nx, L, .long v :: S, h)
  | none => zno
/-- a copy of a stretch of a row of ints or longs -/
def i_cpy (nx : Nat) (L : mL) (S : List Value) (h : mH) : mX := match S with
  | .int n :: .int dp :: .ref b :: .int sp :: .ref a :: S =>
    if 0 ≤ sp ∧ 0 ≤ dp ∧ 0 ≤ n ∧ sp.toNatClampNeg + n.toNatClampNeg ≤ (hK h a).2 ∧ dp.toNatClampNeg + n.toNatClampNeg ≤ (hK h b).2 ∧ zcat S ≤ 8 then
      (if (hK h a).1 = 1 ∧ (hK h b).1 = 1 then .inl (nx, L, S, sI h b (va_cpy (hI h a) (hI h b) sp.toNatClampNeg dp.toNatClampNeg n.toNatClampNeg))
      else if (hK h a).1 = 2 ∧ (hK h b).1 = 2 then .inl (nx, L, S, sJ h b (va_cpy (hJ h a) (hJ h b) sp.toNatClampNeg dp.toNatClampNeg n.toNatClampNeg)) else zno) else zno
  | _ => zno
def i_mm (f : Int32 → Int32 → Int32) (nx : Nat) (L : mL) (S : List Value) (h : mH) : mX := match S with
  | .int y :: .int x :: S => if zcat S ≤ 8 then .inl (nx, L, .int (f x y) :: S, h) else zno
  | _ => zno
/-- a call of method t with n values above the receiver's place (st: static) -/
def i_call (C : Nat → List Value → mH → Option mR) (st : Bool) (t n nx : Nat) (L : mL) (S : List Value) (h : mH) : mX :=
  bif Nat.ble (bif st then n else n + 1) S.length then
    (bif Nat.ble (zcat (S.drop (bif st then n else n + 1))) 8 then
      (match C t (S.take (bif st then n else n + 1)).reverse h with
      | some (r, h') => .inl (nx, L, r.toList ++ S.drop (bif st then n else n + 1), h')
      | none => zno) else zno) else zno
def i_virt (C : Nat → List Value → mH → Option mR) (o idx nx : Nat) (L : mL) (S : List Value) (h : mH) : mX := match zlk o idx zlt with
  | some (1, t, n, _) => (match S[n]? with
    | some (.ref a) => if hK h a = (10 + zow t, zNf (zow t)) then i_call C false t n nx L S h else zno
    | _ => zno)
  | _ => zno
def i_spec (C : Nat → List Value → mH → Option mR) (o idx nx : Nat) (L : mL) (S : List Value) (h : mH) : mX := match zlk o idx zlt with
  | some (2, t, n, _) => (match S[n]? with
    | some (.ref _) => i_call C false t n nx L S h
    | _ => zno)
  | some (3, t, n, _) => (match S[n]? with
    | some (.ref _) => i_call C false t n nx L S h
    | _ => zno)
  | some (4, _, _, _) => (match S with
    | .ref _ :: S => if zcat S ≤ 8 then .inl (nx, L, S, h) else zno
    | _ => zno)
  | _ => zno
def i_stat (C : Nat → List Value → mH → Option mR) (o idx nx : Nat) (L : mL) (S : List Value) (h : mH) : mX := match zlk o idx zlt with
  | some (0, t, n, _) => i_call C true t n nx L S h
  | some (5, _, _, _) => i_cpy nx L S h
  | some (6, _, _, _) => i_mm (fun x y => if y < x then y else x) nx L S h
  | some (7, _, _, _) => i_mm (fun x y => if x < y then y else x) nx L S h
  | _ => zno
def i_ret (M : Nat) (S : List Value) (h : mH) : mX := match S with
  | [.int x] => (match zrt M with
    | some .int => .inr (some (some (.int x), h))
    | some .boolean => if x = 0 ∨ x = 1 then .inr (some (some (.int x), h)) else zno
    | _ => zno)
  | _ => zno
def i_lret (M : Nat) (S : List Value) (h : mH) : mX := match S with
  | [.long x] => if zrt M = some .long then .inr (some (some (.long x), h)) else zno
  | _ => zno
def i_vret (M : Nat) (S : List Value) (h : mH) : mX := match S with
  | [] => if zrt M = none then .inr (some (none, h)) else zno
  | _ => zno
def zisr (t : Option FieldType) : Bool := match t with
  | some (.object _) => true
  | some (.array _) => true
  | _ => false
def i_aret (M : Nat) (S : List Value) (h : mH) : mX := match S with
  | [.ref a] => bif zisr (zrt M) then .inr (some (some (.ref a), h)) else zno
  | [.null] => bif zisr (zrt M) then .inr (some (some .null, h)) else zno
  | _ => zno
def ins (E : mE) (C : Nat → List Value → mH → Option mR) (M : Nat) (i : Instr) (pc nx : Nat) (L : mL) (S : List Value) (h : mH) : mX := match i with
  | .iload k => i_ild k nx L S h
  | .iload_n k => i_ild k nx L S h
  | .lload k => i_lld k nx L S h
  | .lload_n k => i_lld k nx L S h
  | .aload k => i_ald k nx L S h
  | .aload_n k => i_ald k nx L S h
  | .istore k => i_ist k nx L S h
  | .istore_n k => i_ist k nx L S h
  | .lstore k => i_lst k nx L S h
  | .lstore_n k => i_lst k nx L S h
  | .astore k => i_ast k nx L S h
  | .astore_n k => i_ast k nx L S h
  | .iinc k n => i_inc k n nx L S h
  | .iconst n => .inl (nx, L, .int (Int32.ofInt n) :: S, h)
  | .bipush n => .inl (nx, L, .int (Int8.ofInt n).toInt32 :: S, h)
  | .sipush n => .inl (nx, L, .int (Int16.ofInt n).toInt32 :: S, h)
  | .lconst n => .inl (nx, L, .long (Int64.ofNat (n : Nat)) :: S, h)
  | .aconst_null => .inl (nx, L, .null :: S, h)
  | .ldc k => i_ldc (zow M) k nx L S h
  | .ldc2_w k => i_ldc2 (zow M) k nx L S h
  | .iadd => i_b (fun x y => x + y) nx L S h
  | .isub => i_b (fun x y => x - y) nx L S h
  | .imul => i_b (fun x y => x * y) nx L S h
  | .iand => i_b (fun x y => x &&& y) nx L S h
  | .ior => i_b (fun x y => x ||| y) nx L S h
  | .ishl => i_b (fun x y => x <<< (y &&& 31)) nx L S h
  | .idiv => i_bd (fun x y => x / y) nx L S h
  | .irem => i_bd (fun x y => x - x / y * y) nx L S h
  | .ladd => i_lb (fun x y => x + y) nx L S h
  | .lsub => i_lb (fun x y => x - y) nx L S h
  | .lmul => i_lb (fun x y => x * y) nx L S h
  | .land => i_lb (fun x y => x &&& y) nx L S h
  | .lor => i_lb (fun x y => x ||| y) nx L S h
  | .lxor => i_lb (fun x y => x ^^^ y) nx L S h
  | .lshl => i_ls (fun x y => x <<< (y.toInt64 &&& 63)) nx L S h
  | .lushr => i_ls (fun x y => (x.toUInt64 >>> (y.toInt64.toUInt64 &&& Int64.toUInt64 63)).toInt64) nx L S h
  | .i2l => i_u (fun x => .long x.toInt64) nx L S h
  | .i2b => i_u (fun x => .int x.toInt8.toInt32) nx L S h
  | .i2s => i_u (fun x => .int x.toInt16.toInt32) nx L S h
  | .l2i => i_l2i nx L S h
  | .lcmp => i_lcmp nx L S h
  | .dup => i_dup nx L S h
  | .dup2 => i_dup2 nx L S h
  | .goto off => zgo pc off L S h
  | .ifCond c off => i_if1 c pc off nx L S h
  | .if_icmp c off => i_if2 c pc off nx L S h
  | .ifnull off => i_nul true pc off nx L S h
  | .ifnonnull off => i_nul false pc off nx L S h
  | .tableswitch df lo hi offs => i_tsw pc df lo hi offs L S h
  | .iaload => i_iald E nx L S h
  | .laload => i_lald nx L S h
  | .baload => i_zald nx L S h
  | .aaload => i_aald nx L S h
  | .iastore => i_iast nx L S h
  | .lastore => i_last nx L S h
  | .bastore => i_zast nx L S h
  | .aastore => i_aast nx L S h
  | .arraylength => i_alen E nx L S h
  | .newarray t => i_newa t nx L S h
  | .anewarray k => i_newq (zow M) k nx L S h
  | .new k => i_new (zow M) k nx L S h
  | .getfield k => i_getf (zow M) k nx L S h
  | .putfield k => i_putf M (zow M) k nx L S h
  | .getstatic k => i_gets E (zow M) k nx L S h
  | .invokevirtual k => i_virt C (zow M) k nx L S h
  | .invokespecial k => i_spec C (zow M) k nx L S h
  | .invokestatic k => i_stat C (zow M) k nx L S h
  | .ireturn => i_ret M S h
  | .lreturn => i_lret M S h
  | .areturn => i_aret M S h
  | .return_ => i_vret M S h
  | _ => zno
def ztsw (i : Instr) : Bool := match i with
  | .tableswitch _ _ _ _ => true
  | _ => false
def zrti (i : Instr) : Bool := match i with
  | .ireturn => true
  | .lreturn => true
  | .areturn => true
  | .return_ => true
  | _ => false
def zon (x : mX) : mX := match x with
  | .inl f => .inl f
  | .inr _ => .inr none
def stp (E : mE) (C : Nat → List Value → mH → Option mR) (M : Nat) (f : mF) : mX := match decode (zcod M) f.1 with
  | .ok (i, len) => bif ztsw i || Nat.beq len (zlen i) then (bif zrti i then ins E C M i f.1 (f.1 + zlen i) f.2.1 f.2.2.1 f.2.2.2 else zon (ins E C M i f.1 (f.1 + zlen i) f.2.1 f.2.2.1 f.2.2.2)) else zno
  | _ => zno
def run (E : mE) (C : Nat → List Value → mH → Option mR) (M : Nat) : Nat → mF → Option mR
  | 0, _ => none
  | n + 1, f => match stp E C M f with
    | .inl f' => run E C M n f'
    | .inr r => r
theorem run_mono {E : mE} {C : Nat → List Value → mH → Option mR} {M : Nat} {x : mR} : ∀ {n : Nat} {f : mF} (k : Nat), run E C M n f = some x → run E C M (n + k) f = some x
  | 0, _, _, h => by cases h
  | n + 1, f, k, h => by
    rw [show n + 1 + k = (n + k) + 1 by omega]
    unfold run at h ⊢
    cases hs : stp E C M f with
    | inl f' => rw [hs] at h; exact run_mono k h
    | inr r => rw [hs] at h; exact h
theorem run_det {E : mE} {C : Nat → List Value → mH → Option mR} {M n k : Nat} {x y : mR} {f : mF} (h : run E C M n f = some x) (h2 : run E C M k f = some y) : x = y := by
  have a := run_mono k h
  have b := run_mono n h2
  rw [Nat.add_comm] at b
  exact Option.some.inj (a.symm.trans b)
noncomputable def lim (E : mE) (C : Nat → List Value → mH → Option mR) (M : Nat) (f : mF) : Option mR :=
  @dite (Option mR) (∃ x : mR, ∃ n, run E C M n f = some x) (Classical.propDecidable _) (fun h => some (Classical.choose h)) (fun _ => none)
theorem lim_iff {E : mE} {C : Nat → List Value → mH → Option mR} {M : Nat} {f : mF} {x : mR} : lim E C M f = some x ↔ ∃ n, run E C M n f = some x := by
  unfold lim
  by_cases q : ∃ x : mR, ∃ n, run E C M n f = some x
  · rw [dif_pos q]
    constructor
    · intro e
      have := Classical.choose_spec q
      rw [Option.some.inj e] at this
      exact this
    · intro ⟨n, hn⟩
      obtain ⟨k, hk⟩ := Classical.choose_spec q
      rw [run_det hk hn]
  · rw [dif_neg q]
    exact ⟨fun e => (by cases e), fun e => absurd ⟨x, e⟩ q⟩
theorem lim_next {E : mE} {C : Nat → List Value → mH → Option mR} {M : Nat} {f f' : mF} (h : stp E C M f = .inl f') : lim E C M f = lim E C M f' := by
  apply Option.ext
  intro x
  rw [lim_iff, lim_iff]
  constructor
  · intro ⟨n, hn⟩
    cases n with
    | zero => cases hn
    | succ n => unfold run at hn; rw [h] at hn; exact ⟨n, hn⟩
  · intro ⟨n, hn⟩
    exact ⟨n + 1, by unfold run; rw [h]; exact hn⟩
theorem lim_end {E : mE} {C : Nat → List Value → mH → Option mR} {M : Nat} {f : mF} {r : Option mR} (h : stp E C M f = .inr r) : lim E C M f = r := by
  apply Option.ext
  intro x
  rw [lim_iff]
  constructor
  · intro ⟨n, hn⟩
    cases n with
    | zero => cases hn
    | succ n => unfold run at hn; rw [h] at hn; exact hn
  · intro e
    exact ⟨1, by unfold run; rw [h]; exact e⟩
/-- a call of depth d -/
noncomputable def cal (E : mE) : Nat → Nat → List Value → mH → Option mR
  | 0, _, _, _ => none
  | d + 1, M, vs, h => bif Nat.ble (zsl vs).length (zmx M) then lim E (cal E d) M (0, zen M vs, [], h) else none
/-- where a method of depth d + 1 stands -/
noncomputable def zl (E : mE) (d M pc : Nat) (L : mL) (S : List Value) (h : mH) : Option mR := lim E (cal E d) M (pc, L, S, h)
theorem cal_eq (E : mE) (d M : Nat) (vs : List Value) (h : mH) : cal E (d + 1) M vs h = bif Nat.ble (zsl vs).length (zmx M) then zl E d M 0 (zen M vs) [] h else none := rfl
