/-! ===== from the law's entry into my machine ===== -/
set_option maxRecDepth 20000 in
theorem zp_m : ∀ q ∈ znm, Cond.methodLinkNest (zrn q.1) q.2.1 (zmn q.2.2) "OneSumSquares" ∈ lw_tbl := by decide +kernel
set_option maxRecDepth 20000 in
theorem zp_f : ∀ q ∈ zst, Cond.fieldLinkNest (zrn q.1) q.2.1 "OneSumSquares" (zsn q.2.2) "[I" "OneSumSquares" ∈ lw_tbl := by decide +kernel
set_option maxRecDepth 20000 in
theorem zp_s : ∀ k, k < 7 → Cond.laysStatic "OneSumSquares" (zsn k) "[I" ∈ lw_tbl := by decide +kernel
set_option maxRecDepth 20000 in
theorem zp_1 : Cond.arrayOver (.object (zrn 1)) ∈ lw_tbl := by decide +kernel
set_option maxRecDepth 20000 in
theorem zp_2 : Cond.arrayOver (.object (zrn 2)) ∈ lw_tbl := by decide +kernel
set_option maxRecDepth 20000 in
theorem zp_a : ∀ k, k < 7 → Cond.arrayOf (.static "OneSumSquares" (zsn k) "[I") .int ∈ flatC (Jvm.Cond.and given_1 narrow_1) := by decide +kernel
set_option maxRecDepth 20000 in
theorem zp_l : ∀ k, k < 7 → Cond.eq (.length (.static "OneSumSquares" (zsn k) "[I")) (.int (Int32.ofNat (zsv k).length)) ∈ flatC (Jvm.Cond.and given_1 narrow_1) := by decide +kernel
set_option maxRecDepth 20000 in
theorem zp_e : ∀ k, k < 7 → ∀ j, j < (zsv k).length → Cond.eq (.elem (.static "OneSumSquares" (zsn k) "[I") (.int (Int32.ofNat j))) (.int ((zsv k).getD j 0)) ∈ flatC (Jvm.Cond.and given_1 narrow_1) := by decide +kernel
theorem zp_n : ∀ k, k < 7 → (zsv k).length < 2 ^ 31 := by decide +kernel
/-- what my machine is told of the static rows -/
def zES (E : mE) : Prop := ∀ k, k < 7 → ∃ f : Nat → Int32, E.2 (E.1 k) = some ((zsv k).length, f) ∧ ∀ j, j < (zsv k).length → f j = (zsv k).getD j 0
/-- the empty heap from b on -/
def zh0 (b : Nat) : mH := (b, 0, fun _ => (0, 0), fun _ _ => 0, fun _ _ => 0, fun _ _ => .null)
/-- the law, in my machine -/
def zLaw : Prop := ∀ (E : mE) (a b n : Nat) (f : Nat → Int32), n ≤ 3072 → zES E → (∀ k, k < 7 → E.1 k < b) → a < b → E.2 a = some (n, f) → ∃ h' : mH, zl E 40 kL_law 0 [some (.ref a), none, none, none] [] (zh0 b) = some (some (.int 1), h') ∧ hN h' ≤ b + 600000 ∧ hZ h' ≤ 7302250
/-- a row of ints that stands in a heap -/
def zsc (H : Heap) (a : Nat) : Nat × (Nat → Int32) := match H[a]? with
  | some cl => ((Int32.ofNat cl.slots.size).toNatClampNeg, fun j => match cl.slots[j]? with
    | some (.int x) => x
    | _ => 0)
  | none => (0, fun _ => 0)
theorem zsc_T {s : State} {H : Heap} {A : Nat → Prop} {a N : Nat} {w : Nat → Int32} (hN : N < 2 ^ 31) (h : va_T .int a N (fun j => .int (w j)) A s H) : (zsc H a).1 = N ∧ (∀ j, j < N → (zsc H a).2 j = w j) ∧ va_T .int a (zsc H a).1 (fun j => .int ((zsc H a).2 j)) A s H := by
  obtain ⟨cell, h1, h2, h3, h4, h5, h6, h7⟩ := h
  have e1 : (zsc H a).1 = N := by
    unfold zsc
    rw [h1]
    show (Int32.ofNat cell.slots.size).toNatClampNeg = N
    have : Int32.ofNat cell.slots.size = nI N := h5
    rw [this, nI_clamp hN]
  have e2 : ∀ j, j < N → (zsc H a).2 j = w j := by
    intro j hj
    unfold zsc
    rw [h1]
    show (match cell.slots[j]? with
      | some (.int x) => x
      | _ => 0) = w j
    rw [h6 j hj]
  exact ⟨e1, e2, cell, h1, h2, h3, by rw [e1]; exact h4, by rw [e1]; exact h5, fun j hj => by rw [e1] at hj; rw [h6 j hj]; show some (Value.int (w j)) = some (Value.int ((zsc H a).2 j)); rw [e2 j hj], h7⟩
set_option maxHeartbeats 4000000 in
theorem z_start (hlaw : zLaw) {p : Program} {e : Env} {s : State} {m : MethodId} {below : List Frame} {meth : Method} {c : Code} (l : Launch) {b L : Nat} {xs : Nat → Int32} (hL : L ≤ 3072) (h1 : p.tables.exec = Jvm.exec) (h2 : c.code = code) (h3 : meth.sig.returnType = ret) (h4 : c.maxLocals = 4) (h5 : s.vm.findClass "OneSumSquaresLaw" = some m.cls) (h6 : ∀ w ∈ lw_tbl, w.before #[Value.ref b] s = true) (h7 : va_X b L xs s s.heap) (h8 : b < s.heap.size) (h9 : meth.locks = false) (h10 : (Jvm.Cond.and given_1 narrow_1).before #[Value.ref b] s = true) (Q : State → Prop)
    (hQ : ∀ (pc : Nat) (H : Heap) (ls : Array Slot), decode code pc = .ok (.ireturn, 1) → W p l e room_1 s m #[Value.ref b] below meth c H [] 600000 7302250 Q (F0 m pc ls [.int 1])) : W p l e room_1 s m #[Value.ref b] below meth c s.heap [] 0 0 Q (entryFrame m ([Value.ref b] : List Value).toArray 4) := by
  have hts : ∀ w ∈ zT, w.before #[Value.ref b] s = true := fun w hw => h6 w (List.mem_filter.mp hw).1
  have hA : ∀ a : Nat, a < s.heap.size → ¬ zA s.heap.size a := fun a h q => Nat.not_le.mpr h q
  have hfl := flat_of_before _ h10
  -- the classes
  obtain ⟨c0, i0, k0⟩ := u_known (C := zrn 0) (T := zTT 0) (N := zNf 0) hts (z_ws (by decide)) (hts _ (z_inst 0 (by decide)))
  obtain ⟨c1, i1, k1⟩ := u_known (C := zrn 1) (T := zTT 1) (N := zNf 1) hts (z_ws (by decide)) (hts _ (z_inst 1 (by decide)))
  obtain ⟨c2, i2, k2⟩ := u_known (C := zrn 2) (T := zTT 2) (N := zNf 2) hts (z_ws (by decide)) (hts _ (z_inst 2 (by decide)))
  obtain ⟨c3, i3, k3⟩ := u_known (C := zrn 3) (T := zTT 3) (N := zNf 3) hts (z_ws (by decide)) (hts _ (z_inst 3 (by decide)))
  obtain ⟨c4, i4, k4⟩ := u_known (C := zrn 4) (T := zTT 4) (N := zNf 4) hts (z_ws (by decide)) (hts _ (z_inst 4 (by decide)))
  obtain ⟨g0, kk0, m0, a0, a1, a2⟩ := Cond.arrayClass_spec (hts _ zw_10)
  obtain ⟨g1, kk1, m1, b0, b1, b2⟩ := Cond.arrayClass_spec (hts _ zw_11)
  obtain ⟨g2, kk2, m2, d0, d1, d2⟩ := Cond.arrayClass_spec (hts _ zw_12)
  obtain ⟨m3, g3, kk3, e0, -, e1, e2, e3⟩ := Cond.arrayOver_spec (h6 _ zp_1)
  obtain ⟨m4, g4, kk4, f0, -, f1, f2, f3⟩ := Cond.arrayOver_spec (h6 _ zp_2)
  have arr : ∀ {cA : ClassId} {kA : Class} {comp : ClassId} {ty : FieldType}, s.vm.classes[cA]? = some kA → kA.kind = .array comp ty → ArrOfT s cA ty := fun q1 q2 N z => ⟨(fun k h => by cases h), _, q1, _, q2⟩
  -- the static rows
  have hstat : ∀ k, k < 7 → ∃ t : Nat, (Term.static "OneSumSquares" (zsn k) "[I").eval #[Value.ref b] s none [] s = some (.ref t) ∧ va_T .int t (zsv k).length (fun j => .int ((zsv k).getD j 0)) (zA s.heap.size) s s.heap := fun k hk =>
    va_Tof (zp_n k hk) (hfl _ (zp_a k hk)) (va_eqt (hfl _ (zp_l k hk))) (fun j hj => va_eqt (hfl _ (zp_e k hk j hj))) hA
  obtain ⟨t0, u0, v0⟩ := hstat 0 (by decide)
  obtain ⟨t1, u1, v1⟩ := hstat 1 (by decide)
  obtain ⟨t2, u2, v2⟩ := hstat 2 (by decide)
  obtain ⟨t3, u3, v3⟩ := hstat 3 (by decide)
  obtain ⟨t4, u4, v4⟩ := hstat 4 (by decide)
  obtain ⟨t5, u5, v5⟩ := hstat 5 (by decide)
  obtain ⟨t6, u6, v6⟩ := hstat 6 (by decide)
  obtain ⟨tt, ht⟩ : ∃ tt : Nat → Nat, ∀ k, k < 7 → (Term.static "OneSumSquares" (zsn k) "[I").eval #[Value.ref b] s none [] s = some (.ref (tt k)) ∧ va_T .int (tt k) (zsv k).length (fun j => .int ((zsv k).getD j 0)) (zA s.heap.size) s s.heap := by
    refine ⟨fun k => match k with
      | 0 => t0
      | 1 => t1
      | 2 => t2
      | 3 => t3
      | 4 => t4
      | 5 => t5
      | _ => t6, fun k hk => ?_⟩
    match k, hk with
    | 0, _ => exact ⟨u0, v0⟩
    | 1, _ => exact ⟨u1, v1⟩
    | 2, _ => exact ⟨u2, v2⟩
    | 3, _ => exact ⟨u3, v3⟩
    | 4, _ => exact ⟨u4, v4⟩
    | 5, _ => exact ⟨u5, v5⟩
    | 6, _ => exact ⟨u6, v6⟩
  have hscr : va_T .int b L (fun j => .int (xs j)) (zA s.heap.size) s s.heap := by
    obtain ⟨cell, q1, q2, q3, q4, q5⟩ := h7
    exact ⟨cell, q1, q2, q3, Nat.le_of_eq q4.symm, by rw [q4], q5, hA b h8⟩
  have hb := zsc_T (by omega) hscr
  have hk7 := fun k hk => zsc_T (zp_n k hk) (ht k hk).2
  let E : mE := (tt, fun a => if a = b ∨ a ∈ (List.range 7).map tt then some (zsc s.heap a) else none)
  let D : va_G := (fun k => match k with
    | 0 => c0
    | 1 => c1
    | 2 => c2
    | 3 => c3
    | _ => c4, fun k => match k with
    | 0 => i0
    | 1 => i1
    | 2 => i2
    | 3 => i3
    | _ => i4)
  let cs : Nat → ClassId := fun k => match k with
    | 0 => g0
    | 1 => g1
    | 2 => g2
    | 3 => g3
    | _ => g4
  have hE7 : ∀ k, k < 7 → E.2 (E.1 k) = some (zsc s.heap (tt k)) := fun k hk => if_pos (Or.inr (List.mem_map.mpr ⟨k, List.mem_range.mpr hk, rfl⟩))
  have hEb : E.2 b = some (zsc s.heap b) := if_pos (Or.inl rfl)
  have hZES : zES E := fun k hk => ⟨(zsc s.heap (tt k)).2, by rw [hE7 k hk, ← (hk7 k hk).1], (hk7 k hk).2.1⟩
  have hlt : ∀ k, k < 7 → E.1 k < s.heap.size := fun k hk => by
    obtain ⟨cell, q1, -⟩ := (ht k hk).2
    exact (Array.getElem?_eq_some_iff.mp q1).1
  have hG : zG D cs s.heap.size E s := by
    refine ⟨⟨fun k q hq => ?_, fun k q hq => ?_⟩, fun q hq => va_Nw.of rfl (h6 _ (zp_m q hq)), fun q hq => va_Nw.of rfl (h6 _ (zp_f q hq)), va_AO.of (h6 _ zp_1), va_AO.of (h6 _ zp_2), fun k hk => va_Zref (h6 _ (zp_s k hk)) (hts _ zw_21) (ht k hk).1 hA, fun a n f hf => ?_⟩
    · match k, hq with
      | 0, hq => cases hq; exact k0
      | 1, hq => cases hq; exact k1
      | 2, hq => cases hq; exact k2
      | 3, hq => cases hq; exact k3
      | 4, hq => cases hq; exact k4
    · match k, hq with
      | 0, hq => cases hq; exact ⟨arr a1 a2, a0⟩
      | 1, hq => cases hq; exact ⟨arr b1 b2, b0⟩
      | 2, hq => cases hq; exact ⟨arr d1 d2, d0⟩
      | 3, hq => cases hq; exact ⟨arr e1 e2, kk3, m3, e1, e2, e0, e3⟩
      | 4, hq => cases hq; exact ⟨arr f1 f2, kk4, m4, f1, f2, f0, f3⟩
    · have hf : (if a = b ∨ a ∈ (List.range 7).map tt then some (zsc s.heap a) else none) = some (n, f) := hf
      split at hf
      · next hq =>
        have hf : zsc s.heap a = (n, f) := Option.some.inj hf
        rcases hq with hq | hq
        · have := hb.2.2
          rw [← hq, hf] at this
          exact this
        · obtain ⟨k, hk, rfl⟩ := List.mem_map.mp hq
          have := (hk7 k (List.mem_range.mp hk)).2.2
          rw [hf] at this
          exact this
      · cases hf
  obtain ⟨h', hrun, hc1, hc2⟩ := hlaw E b s.heap.size (zsc s.heap b).1 (zsc s.heap b).2 (by rw [hb.1]; exact hL) hZES hlt h8 (by rw [hEb])
  obtain ⟨n, hn⟩ := lim_iff.mp hrun
  have hX : zC p room_1 s m #[Value.ref b] meth c D cs s.heap.size E kL_law 40 := ⟨h1, h2, h4, h5, hts, fun q => absurd q (by decide), hG, Nat.le_of_ble_eq_true rfl, Nat.le_of_ble_eq_true rfl, Nat.le_refl _⟩
  have hR0 : zHR D cs s.heap.size (zh0 s.heap.size) s.heap := ⟨rfl, Nat.le_refl _, fun a ha => absurd rfl ha⟩
  obtain ⟨_, _, w⟩ := z_run (l := l) (e := e) (below := below) (Q := Q) (ct := hN h' - s.heap.size) (sT := hZ h' - 0) (z_met l D cs s.heap.size E 40) hX (fun f H locs ls hs hR' hS' => by
    obtain ⟨i, hdg, q⟩ := z_fin hs
    have hst := (z_endh hs).2
    rw [hst]
    refine va_forget hS'.2.2 (W.widen (k := 600000) (n := 7302250) (by omega) (by omega) ?_)
    rcases q with ⟨rfl, q⟩ | ⟨rfl, q⟩ | ⟨rfl, q⟩ | ⟨rfl, q⟩
    · exact hQ _ H ls hdg
    · unfold i_lret at q
      rw [hst] at q
      cases q
    · unfold i_aret at q
      rw [hst] at q
      cases q
    · unfold i_vret at q
      rw [hst] at q
      cases q) (by show _ ≤ 600000; omega) (by show _ ≤ 7302250; omega) n _ hn rfl
  rw [lg_entry_eq]
  exact w s.heap [] 0 0 _ hR0 va_S.rf (zLR.entry (M := kL_law) (vs := [.ref b]) (Nat.le_of_ble_eq_true rfl)) (Nat.zero_add _) (Nat.zero_add _)
