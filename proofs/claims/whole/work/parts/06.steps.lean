/-! ===== one step of my machine is a step of the machine ===== -/
/-- what a state gives to every method here -/
def zG (D : va_G) (cs : Nat → ClassId) (b : Nat) (E : mE) (U : State) : Prop :=
  va_K D vwCl [(cs 0, .int), (cs 1, .long), (cs 2, .boolean), (cs 3, .object (zrn 1)), (cs 4, .object (zrn 2))] U ∧
  (∀ q ∈ znm, va_Nw (.methodLinkNest (zrn q.1) q.2.1 (zmn q.2.2) "OneSumSquares") U) ∧
  (∀ q ∈ zst, va_Nw (.fieldLinkNest (zrn q.1) q.2.1 "OneSumSquares" (zsn q.2.2) "[I" "OneSumSquares") U) ∧
  va_AO (zrn 1) U ∧ va_AO (zrn 2) U ∧
  (∀ k, k < 7 → va_Z "OneSumSquares" (zsn k) "[I" (.ref (E.1 k)) (zA b) U U.heap) ∧
  ∀ (a n : Nat) (f : Nat → Int32), E.2 a = some (n, f) → va_T .int a n (fun j => .int (f j)) (zA b) U U.heap
theorem zG.moved {D : va_G} {cs : Nat → ClassId} {b : Nat} {E : mE} {s U : State} (h : zG D cs b E s) (hW : s.WarmedH U.vm) (hH : ∀ a : Nat, a < s.heap.size → ¬ zA b a → U.heap[a]? = s.heap[a]?) : zG D cs b E U := by
  obtain ⟨h1, h2, h3, h4, h5, h6, h7⟩ := h
  exact ⟨h1.moved hW.alike, fun q hq => (h2 q hq).warmM hW, fun q hq => (h3 q hq).warmF hW, h4.moved hW.alike, h5.moved hW.alike, fun k hk => ((h6 k hk).moved hW.alike).kept hH, fun a n f e => ((h7 a n f e).moved hW.alike).kept hH⟩
/-- where a method M of depth d + 1 runs -/
def zC (p : Program) (R : Room) (s : State) (m : MethodId) (args : Array Value) (meth : Method) (c : Code) (D : va_G) (cs : Nat → ClassId) (b : Nat) (E : mE) (M d : Nat) : Prop :=
  p.tables.exec = Jvm.exec ∧ c.code = zcod M ∧ c.maxLocals = zmx M ∧ s.vm.findClass (zrn (zow M)) = some m.cls ∧ (∀ w ∈ zT, w.before args s = true) ∧ (zkd M = 2 → meth.name = "<init>") ∧ zG D cs b E s ∧ d + 1 ≤ R.frames ∧ 200 * (d + 1) ≤ R.locals ∧ b ≤ s.heap.size
def zOK (p : Program) (l : Launch) (e : Env) (R : Room) (s : State) (m : MethodId) (args : Array Value) (below : List Frame) (meth : Method) (c : Code) (D : va_G) (cs : Nat → ClassId) (b : Nat) (f f' : mF) : Prop :=
  f'.2.1.length = f.2.1.length ∧ hN f.2.2.2 ≤ hN f'.2.2.2 ∧ hZ f.2.2.2 ≤ hZ f'.2.2.2 ∧ ∀ (Q : State → Prop) (H : Heap) (locs : List Loc) (cells slots : Nat) (ls : Array Slot), zHR D cs b f.2.2.2 H → va_S (zA b) s.heap H locs → zLR f.2.1 ls →
    cells + (hN f'.2.2.2 - hN f.2.2.2) ≤ R.cells → slots + (hZ f'.2.2.2 - hZ f.2.2.2) ≤ R.slots →
    (∀ (H' : Heap) (locs' : List Loc) (ls' : Array Slot), zHR D cs b f'.2.2.2 H' → va_S (zA b) s.heap H' locs' → zLR f'.2.1 ls' → W p l e R s m args below meth c H' locs' (cells + (hN f'.2.2.2 - hN f.2.2.2)) (slots + (hZ f'.2.2.2 - hZ f.2.2.2)) Q (F0 m f'.1 ls' f'.2.2.1)) →
    W p l e R s m args below meth c H locs cells slots Q (F0 m f.1 ls f.2.2.1)
section
variable {p : Program} {l : Launch} {e : Env} {R : Room} {s : State} {m : MethodId} {args : Array Value} {below : List Frame} {meth : Method} {c : Code} {D : va_G} {cs : Nat → ClassId} {b : Nat} {E : mE} {M d : Nat} {pc pc' : Nat} {L L' : mL} {S S' : List Value} {h h' : mH} {f' : mF}
theorem zOK.rd (hl : L'.length = L.length) (k : ∀ (Q : State → Prop) (H : Heap) (locs : List Loc) (cells slots : Nat) (ls : Array Slot), zHR D cs b h H → va_S (zA b) s.heap H locs → zLR L ls → (∀ ls' : Array Slot, zLR L' ls' → W p l e R s m args below meth c H locs cells slots Q (F0 m pc' ls' S')) → W p l e R s m args below meth c H locs cells slots Q (F0 m pc ls S)) : zOK p l e R s m args below meth c D cs b (pc, L, S, h) (pc', L', S', h) := by
  refine ⟨hl, Nat.le_refl _, Nat.le_refl _, fun Q H locs cells slots ls hR hS hL _ _ kk => k Q H locs cells slots ls hR hS hL (fun ls' hL' => ?_)⟩
  have := kk H locs ls' hR hS hL'
  simp only [Nat.sub_self, Nat.add_zero] at this
  exact this
theorem zOK.pu (k : ∀ (Q : State → Prop) (H : Heap) (locs : List Loc) (cells slots : Nat) (ls : Array Slot), zLR L ls → W p l e R s m args below meth c H locs cells slots Q (F0 m pc' ls S') → W p l e R s m args below meth c H locs cells slots Q (F0 m pc ls S)) : zOK p l e R s m args below meth c D cs b (pc, L, S, h) (pc', L, S', h) :=
  zOK.rd rfl fun Q H locs cells slots ls _ _ hL kk => k Q H locs cells slots ls hL (kk ls hL)
theorem zOK.wr (hn : hN h' = hN h) (hz : hZ h' = hZ h) (k : ∀ (Q : State → Prop) (H : Heap) (locs : List Loc) (cells slots : Nat) (ls : Array Slot), zHR D cs b h H → va_S (zA b) s.heap H locs → zLR L ls → (∀ (H' : Heap) (locs' : List Loc), zHR D cs b h' H' → va_S (zA b) s.heap H' locs' → W p l e R s m args below meth c H' locs' cells slots Q (F0 m pc' ls S')) → W p l e R s m args below meth c H locs cells slots Q (F0 m pc ls S)) : zOK p l e R s m args below meth c D cs b (pc, L, S, h) (pc', L, S', h') := by
  refine ⟨rfl, Nat.le_of_eq hn.symm, Nat.le_of_eq hz.symm, fun Q H locs cells slots ls hR hS hL _ _ kk => k Q H locs cells slots ls hR hS hL (fun H' locs' hR' hS' => ?_)⟩
  have := kk H' locs' ls hR' hS' hL
  simp only [hn, hz, Nat.sub_self, Nat.add_zero] at this
  exact this
theorem zOK.al {t n z : Nat} {g : Nat → Value} (k : ∀ (Q : State → Prop) (H : Heap) (locs : List Loc) (cells slots : Nat) (ls : Array Slot), zHR D cs b h H → va_S (zA b) s.heap H locs → cells + 1 ≤ R.cells → slots + z ≤ R.slots → (∀ (H' : Heap), H'.size = hN h + 1 → (∀ q : Nat, q < hN h → H'[q]? = H[q]?) → va_at D vwCl (hN h, zcE cs (aH h t n z g) (hN h)) H' → W p l e R s m args below meth c H' locs (cells + 1) (slots + z) Q (F0 m pc' ls S')) → W p l e R s m args below meth c H locs cells slots Q (F0 m pc ls S)) : zOK p l e R s m args below meth c D cs b (pc, L, S, h) (pc', L, S', aH h t n z g) := by
  have e1 : hN (aH h t n z g) - hN h = 1 := Nat.add_sub_cancel_left _ _
  have e2 : hZ (aH h t n z g) - hZ h = z := Nat.add_sub_cancel_left _ _
  refine ⟨rfl, Nat.le_succ _, Nat.le_add_right _ _, fun Q H locs cells slots ls hR hS hL r1 r2 kk => ?_⟩
  dsimp only at r1 r2 kk hR hL
  rw [e1] at r1
  rw [e2] at r2
  refine k Q H locs cells slots ls hR hS r1 r2 (fun H' z1 o1 he => ?_)
  have := kk H' locs ls (hR.new z1 o1 he) ⟨Nat.le_trans hS.1 (by rw [z1, hR.1]; exact Nat.le_succ _), fun q h1 h2 => (o1 q (by rw [← hR.1]; exact Nat.lt_of_lt_of_le h1 hS.1)).trans (hS.2.1 q h1 h2), hS.2.2⟩ hL
  rw [e1, e2] at this
  exact this
theorem zt_spec {off : Int} {t : Nat} (q : zt pc off = some t) : (pc : Int) + off = (t : Int) := by
  unfold zt at q
  split at q
  · next n hn => cases q; exact hn
  · cases q
theorem zin_spec {i : Int32} {n : Nat} (q : zin_ i n = true) : vp_in i n := by
  unfold zin_ at q
  rw [Bool.and_eq_true, decide_eq_true_eq, decide_eq_true_eq] at q
  intro r
  rcases r with r | r
  · have h1 := Int32.lt_iff_toInt_lt.mp r
    have h2 := Int32.le_iff_toInt_le.mp q.1
    omega
  · omega
theorem zge {i : Int32} (q : 0 ≤ i) : ¬ i < 0 := fun r => by
  have h1 := Int32.lt_iff_toInt_lt.mp r
  have h2 := Int32.le_iff_toInt_le.mp q
  omega
theorem zHR.one {H : Heap} {a : Nat} (hR : zHR D cs b h H) (k : (hK h a).1 ≠ 0) : va_P D vwCl [(a, zcE cs h a)] H := by
  intro j q hj
  have hz : j < 1 := (List.getElem?_eq_some_iff.mp hj).1
  rw [show j = 0 by omega] at hj
  cases hj
  exact (hR.2.2 a k).2.2
-- loads and stores of locals
theorem z_ild {k : Nat} (hX : zC p R s m args meth c D cs b E M d) (hdg : decode (zcod M) pc = .ok (.iload k, 2)) (hs : i_ild k (pc + 2) L S h = .inl f') : zOK p l e R s m args below meth c D cs b (pc, L, S, h) f' := by
  unfold i_ild at hs
  split at hs
  · next x hx => cases hs; exact zOK.pu fun Q H locs cells slots ls hL kk => lv_iload hX.1 hX.2.1 hdg (hL.at hx) kk
  · cases hs
theorem z_ild_n {k : Fin 4} (hX : zC p R s m args meth c D cs b E M d) (hdg : decode (zcod M) pc = .ok (.iload_n k, 1)) (hs : i_ild k (pc + 1) L S h = .inl f') : zOK p l e R s m args below meth c D cs b (pc, L, S, h) f' := by
  unfold i_ild at hs
  split at hs
  · next x hx => cases hs; exact zOK.pu fun Q H locs cells slots ls hL kk => lv_iload_n hX.1 hX.2.1 hdg rfl (hL.at hx) kk
  · cases hs
theorem z_lld {k : Nat} (hX : zC p R s m args meth c D cs b E M d) (hdg : decode (zcod M) pc = .ok (.lload k, 2)) (hs : i_lld k (pc + 2) L S h = .inl f') : zOK p l e R s m args below meth c D cs b (pc, L, S, h) f' := by
  unfold i_lld at hs
  split at hs
  · next x hx => cases hs; exact zOK.pu fun Q H locs cells slots ls hL kk => lv_lload hX.1 hX.2.1 hdg (hL.at hx) kk
  · cases hs
theorem z_lld_n {k : Fin 4} (hX : zC p R s m args meth c D cs b E M d) (hdg : decode (zcod M) pc = .ok (.lload_n k, 1)) (hs : i_lld k (pc + 1) L S h = .inl f') : zOK p l e R s m args below meth c D cs b (pc, L, S, h) f' := by
  unfold i_lld at hs
  split at hs
  · next x hx => cases hs; exact zOK.pu fun Q H locs cells slots ls hL kk => lv_lload_n hX.1 hX.2.1 hdg rfl (hL.at hx) kk
  · cases hs
theorem z_ald {k : Nat} (hX : zC p R s m args meth c D cs b E M d) (hdg : decode (zcod M) pc = .ok (.aload k, 2)) (hs : i_ald k (pc + 2) L S h = .inl f') : zOK p l e R s m args below meth c D cs b (pc, L, S, h) f' := by
  unfold i_ald at hs
  split at hs
  · next x hx => cases hs; exact zOK.pu fun Q H locs cells slots ls hL kk => lv_aload hX.1 hX.2.1 hdg (hL.at hx) kk
  · next hx => cases hs; exact zOK.pu fun Q H locs cells slots ls hL kk => lv_aloadN hX.1 hX.2.1 hdg (hL.at hx) kk
  · cases hs
theorem z_ald_n {k : Fin 4} (hX : zC p R s m args meth c D cs b E M d) (hdg : decode (zcod M) pc = .ok (.aload_n k, 1)) (hs : i_ald k (pc + 1) L S h = .inl f') : zOK p l e R s m args below meth c D cs b (pc, L, S, h) f' := by
  unfold i_ald at hs
  split at hs
  · next x hx => cases hs; exact zOK.pu fun Q H locs cells slots ls hL kk => lv_aload_n hX.1 hX.2.1 hdg rfl (hL.at hx) kk
  · next hx => cases hs; exact zOK.pu fun Q H locs cells slots ls hL kk => lv_aload_nN hX.1 hX.2.1 hdg rfl (hL.at hx) kk
  · cases hs
theorem zs1_len (L : mL) (k : Nat) (v : Value) : (zs1 L k v).length = L.length := by simp [zs1]
theorem zs2_len (L : mL) (k : Nat) (v : Value) : (zs2 L k v).length = L.length := by simp [zs2]
theorem z_ist {k : Nat} (hX : zC p R s m args meth c D cs b E M d) (hdg : decode (zcod M) pc = .ok (.istore k, 2)) (hs : i_ist k (pc + 2) L S h = .inl f') : zOK p l e R s m args below meth c D cs b (pc, L, S, h) f' := by
  unfold i_ist at hs
  split at hs
  · split at hs
    · next hk => cases hs; exact zOK.rd (zs1_len _ _ _) fun Q H locs cells slots ls _ _ hL kk => lv_istore hX.1 hX.2.1 hdg hL hk rfl fun ls' h' => kk ls' (zLR.st1 hk h')
    · cases hs
  · cases hs
theorem z_ist_n {k : Fin 4} (hX : zC p R s m args meth c D cs b E M d) (hdg : decode (zcod M) pc = .ok (.istore_n k, 1)) (hs : i_ist k (pc + 1) L S h = .inl f') : zOK p l e R s m args below meth c D cs b (pc, L, S, h) f' := by
  unfold i_ist at hs
  split at hs
  · split at hs
    · next hk => cases hs; exact zOK.rd (zs1_len _ _ _) fun Q H locs cells slots ls _ _ hL kk => lv_istore_n hX.1 hX.2.1 hdg rfl hL hk rfl fun ls' h' => kk ls' (zLR.st1 hk h')
    · cases hs
  · cases hs
theorem z_lst {k : Nat} (hX : zC p R s m args meth c D cs b E M d) (hdg : decode (zcod M) pc = .ok (.lstore k, 2)) (hs : i_lst k (pc + 2) L S h = .inl f') : zOK p l e R s m args below meth c D cs b (pc, L, S, h) f' := by
  unfold i_lst at hs
  split at hs
  · split at hs
    · next hk => cases hs; exact zOK.rd (zs2_len _ _ _) fun Q H locs cells slots ls _ _ hL kk => lv_lstore hX.1 hX.2.1 hdg hL hk rfl fun ls' h' => kk ls' (zLR.st2 hk h')
    · cases hs
  · cases hs
theorem z_lst_n {k : Fin 4} (hX : zC p R s m args meth c D cs b E M d) (hdg : decode (zcod M) pc = .ok (.lstore_n k, 1)) (hs : i_lst k (pc + 1) L S h = .inl f') : zOK p l e R s m args below meth c D cs b (pc, L, S, h) f' := by
  unfold i_lst at hs
  split at hs
  · split at hs
    · next hk => cases hs; exact zOK.rd (zs2_len _ _ _) fun Q H locs cells slots ls _ _ hL kk => lv_lstore_n hX.1 hX.2.1 hdg rfl hL hk rfl fun ls' h' => kk ls' (zLR.st2 hk h')
    · cases hs
  · cases hs
theorem z_ast {k : Nat} (hX : zC p R s m args meth c D cs b E M d) (hdg : decode (zcod M) pc = .ok (.astore k, 2)) (hs : i_ast k (pc + 2) L S h = .inl f') : zOK p l e R s m args below meth c D cs b (pc, L, S, h) f' := by
  unfold i_ast at hs
  split at hs
  · split at hs
    · next hk => cases hs; exact zOK.rd (zs1_len _ _ _) fun Q H locs cells slots ls _ _ hL kk => lv_astore hX.1 hX.2.1 hdg hL hk rfl fun ls' h' => kk ls' (zLR.st1 hk h')
    · cases hs
  · split at hs
    · next hk => cases hs; exact zOK.rd (zs1_len _ _ _) fun Q H locs cells slots ls _ _ hL kk => lv_astoreN hX.1 hX.2.1 hdg hL hk rfl fun ls' h' => kk ls' (zLR.st1 hk h')
    · cases hs
  · cases hs
theorem z_ast_n {k : Fin 4} (hX : zC p R s m args meth c D cs b E M d) (hdg : decode (zcod M) pc = .ok (.astore_n k, 1)) (hs : i_ast k (pc + 1) L S h = .inl f') : zOK p l e R s m args below meth c D cs b (pc, L, S, h) f' := by
  unfold i_ast at hs
  split at hs
  · split at hs
    · next hk => cases hs; exact zOK.rd (zs1_len _ _ _) fun Q H locs cells slots ls _ _ hL kk => lv_astore_n hX.1 hX.2.1 hdg rfl hL hk rfl fun ls' h' => kk ls' (zLR.st1 hk h')
    · cases hs
  · split at hs
    · next hk => cases hs; exact zOK.rd (zs1_len _ _ _) fun Q H locs cells slots ls _ _ hL kk => lv_astore_nN hX.1 hX.2.1 hdg rfl hL hk rfl fun ls' h' => kk ls' (zLR.st1 hk h')
    · cases hs
  · cases hs
theorem z_inc {k : Nat} {n : Int} (hX : zC p R s m args meth c D cs b E M d) (hdg : decode (zcod M) pc = .ok (.iinc k n, 3)) (hs : i_inc k n (pc + 3) L S h = .inl f') : zOK p l e R s m args below meth c D cs b (pc, L, S, h) f' := by
  unfold i_inc at hs
  split at hs
  · next x hx =>
    cases hs
    have hk := (List.getElem?_eq_some_iff.mp hx).1
    obtain ⟨j, hj⟩ := List.getElem?_of_mem (zlo_mem.mpr hx)
    exact zOK.rd (zs1_len _ _ _) fun Q H locs cells slots ls _ _ hL kk => lv_iinc hX.1 hX.2.1 hdg hL hj rfl hk rfl fun ls' h' => kk ls' (zLR.st1 hk h')
  · cases hs
-- arithmetic
theorem z_b {i : Instr} {f : Int32 → Int32 → Int32} (row : ∀ (Q : State → Prop) (H : Heap) (locs : List Loc) (cells slots : Nat) (ls : Array Slot) (x y : Int32) (r : List Value), W p l e R s m args below meth c H locs cells slots Q (F0 m (pc + 1) ls (.int (f x y) :: r)) → W p l e R s m args below meth c H locs cells slots Q (F0 m pc ls (.int y :: .int x :: r))) (hs : i_b f (pc + 1) L S h = .inl f') : zOK p l e R s m args below meth c D cs b (pc, L, S, h) f' := by
  unfold i_b at hs
  split at hs
  · cases hs; exact zOK.pu fun Q H locs cells slots ls _ kk => row Q H locs cells slots ls _ _ _ kk
  · cases hs
theorem z_bd {f : Int32 → Int32 → Int32} (row : ∀ (Q : State → Prop) (H : Heap) (locs : List Loc) (cells slots : Nat) (ls : Array Slot) (x y : Int32) (r : List Value), ¬ y = 0 → W p l e R s m args below meth c H locs cells slots Q (F0 m (pc + 1) ls (.int (f x y) :: r)) → W p l e R s m args below meth c H locs cells slots Q (F0 m pc ls (.int y :: .int x :: r))) (hs : i_bd f (pc + 1) L S h = .inl f') : zOK p l e R s m args below meth c D cs b (pc, L, S, h) f' := by
  unfold i_bd at hs
  split at hs
  · split at hs
    · cases hs
    · next hy => cases hs; exact zOK.pu fun Q H locs cells slots ls _ kk => row Q H locs cells slots ls _ _ _ hy kk
  · cases hs
theorem z_lb {f : Int64 → Int64 → Int64} (row : ∀ (Q : State → Prop) (H : Heap) (locs : List Loc) (cells slots : Nat) (ls : Array Slot) (x y : Int64) (r : List Value), W p l e R s m args below meth c H locs cells slots Q (F0 m (pc + 1) ls (.long (f x y) :: r)) → W p l e R s m args below meth c H locs cells slots Q (F0 m pc ls (.long y :: .long x :: r))) (hs : i_lb f (pc + 1) L S h = .inl f') : zOK p l e R s m args below meth c D cs b (pc, L, S, h) f' := by
  unfold i_lb at hs
  split at hs
  · cases hs; exact zOK.pu fun Q H locs cells slots ls _ kk => row Q H locs cells slots ls _ _ _ kk
  · cases hs
theorem z_ls {f : Int64 → Int32 → Int64} (row : ∀ (Q : State → Prop) (H : Heap) (locs : List Loc) (cells slots : Nat) (ls : Array Slot) (x : Int64) (y : Int32) (r : List Value), W p l e R s m args below meth c H locs cells slots Q (F0 m (pc + 1) ls (.long (f x y) :: r)) → W p l e R s m args below meth c H locs cells slots Q (F0 m pc ls (.int y :: .long x :: r))) (hs : i_ls f (pc + 1) L S h = .inl f') : zOK p l e R s m args below meth c D cs b (pc, L, S, h) f' := by
  unfold i_ls at hs
  split at hs
  · cases hs; exact zOK.pu fun Q H locs cells slots ls _ kk => row Q H locs cells slots ls _ _ _ kk
  · cases hs
theorem z_u {f : Int32 → Value} (row : ∀ (Q : State → Prop) (H : Heap) (locs : List Loc) (cells slots : Nat) (ls : Array Slot) (x : Int32) (r : List Value), W p l e R s m args below meth c H locs cells slots Q (F0 m (pc + 1) ls (f x :: r)) → W p l e R s m args below meth c H locs cells slots Q (F0 m pc ls (.int x :: r))) (hs : i_u f (pc + 1) L S h = .inl f') : zOK p l e R s m args below meth c D cs b (pc, L, S, h) f' := by
  unfold i_u at hs
  split at hs
  · cases hs; exact zOK.pu fun Q H locs cells slots ls _ kk => row Q H locs cells slots ls _ _ kk
  · cases hs
theorem z_l2i (hX : zC p R s m args meth c D cs b E M d) (hdg : decode (zcod M) pc = .ok (.l2i, 1)) (hs : i_l2i (pc + 1) L S h = .inl f') : zOK p l e R s m args below meth c D cs b (pc, L, S, h) f' := by
  unfold i_l2i at hs
  split at hs
  · cases hs; exact zOK.pu fun Q H locs cells slots ls _ kk => lv_l2i hX.1 hX.2.1 hdg rfl kk
  · cases hs
theorem z_lcmp (hX : zC p R s m args meth c D cs b E M d) (hdg : decode (zcod M) pc = .ok (.lcmp, 1)) (hs : i_lcmp (pc + 1) L S h = .inl f') : zOK p l e R s m args below meth c D cs b (pc, L, S, h) f' := by
  unfold i_lcmp at hs
  split at hs
  · cases hs; exact zOK.pu fun Q H locs cells slots ls _ kk => W.lcmp hX.1 hX.2.1 hdg kk
  · cases hs
theorem z_dup (hX : zC p R s m args meth c D cs b E M d) (hdg : decode (zcod M) pc = .ok (.dup, 1)) (hs : i_dup (pc + 1) L S h = .inl f') : zOK p l e R s m args below meth c D cs b (pc, L, S, h) f' := by
  unfold i_dup at hs
  split at hs
  · split at hs
    · next hv => cases hs; exact zOK.pu fun Q H locs cells slots ls _ kk => lv_dup hX.1 hX.2.1 hdg hv kk
    · cases hs
  · cases hs
theorem z_dup2 (hX : zC p R s m args meth c D cs b E M d) (hdg : decode (zcod M) pc = .ok (.dup2, 1)) (hs : i_dup2 (pc + 1) L S h = .inl f') : zOK p l e R s m args below meth c D cs b (pc, L, S, h) f' := by
  unfold i_dup2 at hs
  split at hs
  · split at hs
    · next hv => cases hs; exact zOK.pu fun Q H locs cells slots ls _ kk => lv_dup2_11 hX.1 hX.2.1 hdg hv.1 hv.2 kk
    · cases hs
  · cases hs
-- branches
theorem zgo_spec {off : Int} (hs : zgo pc off L S h = .inl f') : ∃ t : Nat, (pc : Int) + off = (t : Int) ∧ f' = (t, L, S, h) := by
  unfold zgo at hs
  split at hs
  · next t ht => cases hs; exact ⟨t, zt_spec ht, rfl⟩
  · cases hs
theorem z_goto {off : Int} (hX : zC p R s m args meth c D cs b E M d) (hdg : decode (zcod M) pc = .ok (.goto off, 3)) (hs : zgo pc off L S h = .inl f') : zOK p l e R s m args below meth c D cs b (pc, L, S, h) f' := by
  obtain ⟨t, ht, rfl⟩ := zgo_spec hs
  exact zOK.pu fun Q H locs cells slots ls _ kk => lv_goto hX.1 hX.2.1 hdg ht kk
theorem z_if2 {cd : Jvm.ClassFile.Cond} {off : Int} (hX : zC p R s m args meth c D cs b E M d) (hdg : decode (zcod M) pc = .ok (.if_icmp cd off, 3)) (hs : i_if2 cd pc off (pc + 3) L S h = .inl f') : zOK p l e R s m args below meth c D cs b (pc, L, S, h) f' := by
  unfold i_if2 at hs
  split at hs
  · next t ht =>
    have ht := zt_spec ht
    split at hs
    · cases hz : zcm cd _ _ with
      | true =>
        rw [hz] at hs
        cases hs
        refine zOK.pu fun Q H locs cells slots ls _ kk => ?_
        cases cd <;> simp only [zcm, decide_eq_true_eq] at hz
        · exact lv_icmp_eq hX.1 hX.2.1 hdg ht (fun _ => kk) (fun q => absurd hz q)
        · exact lv_icmp_ne hX.1 hX.2.1 hdg ht (fun _ => kk) (fun q => absurd q hz)
        · exact lv_icmp_lt hX.1 hX.2.1 hdg ht (fun _ => kk) (fun q => absurd hz q)
        · exact lv_icmp_ge hX.1 hX.2.1 hdg ht (fun _ => kk) (fun q => absurd hz q)
        · exact lv_icmp_gt hX.1 hX.2.1 hdg ht (fun _ => kk) (fun q => absurd hz q)
        · exact lv_icmp_le hX.1 hX.2.1 hdg ht (fun _ => kk) (fun q => absurd hz q)
      | false =>
        rw [hz] at hs
        cases hs
        refine zOK.pu fun Q H locs cells slots ls _ kk => ?_
        cases cd <;> simp only [zcm, decide_eq_false_iff_not] at hz
        · exact lv_icmp_eq hX.1 hX.2.1 hdg ht (fun q => absurd q hz) (fun _ => kk)
        · exact lv_icmp_ne hX.1 hX.2.1 hdg ht (fun q => absurd q hz) (fun _ => kk)
        · exact lv_icmp_lt hX.1 hX.2.1 hdg ht (fun q => absurd q hz) (fun _ => kk)
        · exact lv_icmp_ge hX.1 hX.2.1 hdg ht (fun q => absurd q hz) (fun _ => kk)
        · exact lv_icmp_gt hX.1 hX.2.1 hdg ht (fun q => absurd q hz) (fun _ => kk)
        · exact lv_icmp_le hX.1 hX.2.1 hdg ht (fun q => absurd q hz) (fun _ => kk)
    · cases hs
  · cases hs
theorem z_if1 {cd : Jvm.ClassFile.Cond} {off : Int} (hX : zC p R s m args meth c D cs b E M d) (hdg : decode (zcod M) pc = .ok (.ifCond cd off, 3)) (hs : i_if1 cd pc off (pc + 3) L S h = .inl f') : zOK p l e R s m args below meth c D cs b (pc, L, S, h) f' := by
  unfold i_if1 at hs
  split at hs
  · next t ht =>
    have ht := zt_spec ht
    split at hs
    · cases hz : zcm cd _ _ with
      | true =>
        rw [hz] at hs
        cases hs
        refine zOK.pu fun Q H locs cells slots ls _ kk => ?_
        cases cd <;> simp only [zcm, decide_eq_true_eq] at hz
        · exact lv_if_eq hX.1 hX.2.1 hdg ht (fun _ => kk) (fun q => absurd hz q)
        · exact lv_if_ne hX.1 hX.2.1 hdg ht (fun _ => kk) (fun q => absurd q hz)
        · exact lv_if_lt hX.1 hX.2.1 hdg ht (fun _ => kk) (fun q => absurd hz q)
        · exact lv_if_ge hX.1 hX.2.1 hdg ht (fun _ => kk) (fun q => absurd hz q)
        · exact lv_if_gt hX.1 hX.2.1 hdg ht (fun _ => kk) (fun q => absurd hz q)
        · exact lv_if_le hX.1 hX.2.1 hdg ht (fun _ => kk) (fun q => absurd hz q)
      | false =>
        rw [hz] at hs
        cases hs
        refine zOK.pu fun Q H locs cells slots ls _ kk => ?_
        cases cd <;> simp only [zcm, decide_eq_false_iff_not] at hz
        · exact lv_if_eq hX.1 hX.2.1 hdg ht (fun q => absurd q hz) (fun _ => kk)
        · exact lv_if_ne hX.1 hX.2.1 hdg ht (fun q => absurd q hz) (fun _ => kk)
        · exact lv_if_lt hX.1 hX.2.1 hdg ht (fun q => absurd q hz) (fun _ => kk)
        · exact lv_if_ge hX.1 hX.2.1 hdg ht (fun q => absurd q hz) (fun _ => kk)
        · exact lv_if_gt hX.1 hX.2.1 hdg ht (fun q => absurd q hz) (fun _ => kk)
        · exact lv_if_le hX.1 hX.2.1 hdg ht (fun q => absurd q hz) (fun _ => kk)
    · cases hs
  · cases hs
theorem z_null {off : Int} (hX : zC p R s m args meth c D cs b E M d) (hdg : decode (zcod M) pc = .ok (.ifnull off, 3)) (hs : i_nul true pc off (pc + 3) L S h = .inl f') : zOK p l e R s m args below meth c D cs b (pc, L, S, h) f' := by
  unfold i_nul at hs
  split at hs
  · next t ht =>
    have ht := zt_spec ht
    split at hs
    · cases hs; exact zOK.pu fun Q H locs cells slots ls _ kk => lv_ifnullN hX.1 hX.2.1 hdg ht kk
    · cases hs; exact zOK.pu fun Q H locs cells slots ls _ kk => lv_ifnull hX.1 hX.2.1 hdg kk
    · cases hs
  · cases hs
theorem z_nonnull {off : Int} (hX : zC p R s m args meth c D cs b E M d) (hdg : decode (zcod M) pc = .ok (.ifnonnull off, 3)) (hs : i_nul false pc off (pc + 3) L S h = .inl f') : zOK p l e R s m args below meth c D cs b (pc, L, S, h) f' := by
  unfold i_nul at hs
  split at hs
  · next t ht =>
    have ht := zt_spec ht
    split at hs
    · cases hs; exact zOK.pu fun Q H locs cells slots ls _ kk => lv_ifnonnullN hX.1 hX.2.1 hdg kk
    · cases hs; exact zOK.pu fun Q H locs cells slots ls _ kk => lv_ifnonnull hX.1 hX.2.1 hdg ht kk
    · cases hs
  · cases hs
theorem z_tsw {df lo hi : Int} {offs : Array Int} {len : Nat} (hX : zC p R s m args meth c D cs b E M d) (hdg : decode (zcod M) pc = .ok (.tableswitch df lo hi offs, len)) (hs : i_tsw pc df lo hi offs L S h = .inl f') : zOK p l e R s m args below meth c D cs b (pc, L, S, h) f' := by
  unfold i_tsw at hs
  split at hs
  · split at hs
    · next hq =>
      obtain ⟨t, ht, rfl⟩ := zgo_spec hs
      exact zOK.pu fun Q H locs cells slots ls _ kk => lv_tableOut hX.1 hX.2.1 hdg hq ht kk
    · next hq =>
      split at hs
      · next o ho =>
        obtain ⟨t, ht, rfl⟩ := zgo_spec hs
        exact zOK.pu fun Q H locs cells slots ls _ kk => lv_tableIn hX.1 hX.2.1 hdg (fun q => hq (Or.inl q)) (fun q => hq (Or.inr q)) ho ht kk
      · cases hs
  · cases hs
end
