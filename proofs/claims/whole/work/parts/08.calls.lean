/-! ===== calls, and one step whole ===== -/
def zws (M : Nat) : List Cond := .code (zmn M) (zcod M) (zmx M) (zrt M) :: zT
def zrm (d mc ms : Nat) : Room := { frames := d, cells := mc, slots := ms, locals := 200 * d }
/-- what a call asks: these values, a state that gives what all need, a heap that holds mine -/
def zPc (D : va_G) (cs : Nat → ClassId) (b : Nat) (E : mE) (vs : List Value) (h : mH) : Array Value → State → Prop := va_Pc vs (fun U => zG D cs b E U ∧ zHR D cs b h U.heap)
/-- what it gives -/
def zQc (D : va_G) (cs : Nat → ClassId) (b : Nat) (r : Option Value) (h : mH) : Array Value → State → Outcome → State → Prop := fun _ st o t => o = .returned r ∧ zHR D cs b h t.heap ∧ va_F (zA b) st t
/-- a method of my machine is a method of the machine -/
def zMet (l : Launch) (D : va_G) (cs : Nat → ClassId) (b : Nat) (E : mE) (d : Nat) (C : Nat → List Value → mH → Option mR) : Prop :=
  ∀ (M : Nat) (vs : List Value) (h : mH) (r : Option Value) (h' : mH), C M vs h = some (r, h') → hN h ≤ hN h' ∧ hZ h ≤ hZ h' ∧ (M < 152 → Met l (zmn M) (zws M) (zrm d (hN h' - hN h) (hZ h' - hZ h)) (zPc D cs b E vs h) (zQc D cs b r h') (hN h' - hN h) (hZ h' - hZ h) (zA b))
section
variable {p : Program} {l : Launch} {e : Env} {R : Room} {s : State} {m : MethodId} {args : Array Value} {below : List Frame} {meth : Method} {c : Code} {D : va_G} {cs : Nat → ClassId} {b : Nat} {E : mE} {M d : Nat} {pc pc' : Nat} {L L' : mL} {S S' : List Value} {h h' : mH} {f' : mF} {C : Nat → List Value → mH → Option mR}
theorem z_wds (hts : ∀ w ∈ zT, w.before args s = true) {t : Nat} (ht : t < 152) : ∀ w ∈ zws t, ∀ (a' : Array Value) (U : State), s.WarmedH U.vm → w.before a' U = true := by
  intro w hw a' U hW
  have hm : w ∈ zT := by
    rcases List.mem_cons.mp hw with q | q
    · rw [q]; exact z_mt ht
    · exact q
  exact word_at hW (z_good w hm) (hts w hm)
/-- behind a call -/
theorem z_back {H : Heap} {locs : List Loc} {cells slots mc ms : Nat} {ls : Array Slot} {Q : State → Prop} {a : Array Value} {st0 rest : List Value} {r : Option Value} (hr : va_Run p l e R s m args below meth c H locs cells slots mc ms (F0 m pc ls st0) rest (zQc D cs b r h' a) (zA b)) (hS : va_S (zA b) s.heap H locs)
    (kk : ∀ (H1 : Heap) (locs1 : List Loc), zHR D cs b h' H1 → va_S (zA b) s.heap H1 locs1 → W p l e R s m args below meth c H1 locs1 (cells + mc) (slots + ms) Q (F0 m (pc + 3) ls (r.toList ++ rest))) : W p l e R s m args below meth c H locs cells slots Q (F0 m pc ls st0) := by
  intro T hT X
  obtain ⟨v, st₀, t, T', L, h0, X', hL, e1, e2, ⟨hv, hR, hz, hk⟩, st⟩ := hr T hT X
  cases hv
  rw [h0] at hz hk
  obtain ⟨t2, a1, b1⟩ := kk T'.heap (locs ++ L) (by rw [e1]; exact hR)
    ⟨Nat.le_trans hS.1 (by rw [e1]; exact hz), fun q h1 h2 => by rw [e1, hk q (Nat.lt_of_lt_of_le h1 hS.1) h2]; exact hS.2.1 q h1 h2, fun q hq => by
      rcases List.mem_append.mp hq with h | h
      · exact hS.2.2 q h
      · exact hL q h⟩ T' rfl X'
  exact ⟨t2, st t2 a1, b1⟩
theorem z_blind (vs : List Value) (h : mH) : FrameBlind (zPc D cs b E vs h) := fun _ _ _ _ q => q
theorem z_pre {H : Heap} {locs : List Loc} (vs : List Value) (hG : zG D cs b E s) (hR : zHR D cs b h H) (hS : va_S (zA b) s.heap H locs) : ∀ U : State, U.heap = H → s.WarmedH U.vm → zPc D cs b E vs h vs.toArray U := fun U hU hW =>
  ⟨rfl, hG.moved hW (fun a h1 h2 => by rw [hU]; exact hS.2.1 a h1 h2), by rw [hU]; exact hR⟩
theorem z_cb {t n o k : Nat} {x : MethodName} (hX : zC p R s m args meth c D cs b E M d) (ht : t < 152) (mc ms : Nat) : ((zrm d mc ms).cells = mc ∧ (zrm d mc ms).slots = ms ∧ (zrm d mc ms).frames + 1 ≤ R.frames ∧ 8 + (zmx t + 11) + (zrm d mc ms).locals ≤ R.locals ∧ (∀ w ∈ zws t, ∀ (a' : Array Value) (U : State), s.WarmedH U.vm → w.before a' U = true) ∧ Cond.code (zmn t) (zcod t) (zmx t) (zrt t) ∈ zws t) ∧ (Cond.code (zmn t) (zcod t) (zmx t) (zrt t)).before args s = true ∧ (Cond.initialized (zmn t).cls).before args s = true ∧ ((zmn t).cls ≠ "java/lang/invoke/MethodHandle" ∧ (zmn t).cls ≠ "java/lang/invoke/VarHandle") ∧ (∀ sig, parseMethodDescriptor (zmn t).desc = some sig → znp t = sig.parameters.length) := by
  obtain ⟨i1, i2, i3, i4, i5, i6, i7⟩ := z_mi t ht
  have hts := hX.2.2.2.2.1
  have r1 := hX.2.2.2.2.2.2.2.1
  have r2 := hX.2.2.2.2.2.2.2.2.1
  refine ⟨⟨rfl, rfl, r1, ?_, z_wds hts ht, List.mem_cons_self⟩, hts _ (z_mt ht), hts _ (zin _ i1 i2), i5, fun sig q => ?_⟩
  · show 8 + (zmx t + 11) + 200 * d ≤ R.locals
    omega
  · rw [q] at i6
    exact (Option.some.inj i6).symm
theorem z_tk {n : Nat} (hn : n ≤ S.length) : S = (S.take n).reverse.reverse ++ S.drop n := by rw [List.reverse_reverse, List.take_append_drop]
theorem z_recv {H : Heap} {a ci n : Nat} (hX : zC p R s m args meth c D cs b E M d) (hR : zHR D cs b h H) (hc : ci < 5) (hk : hK h a = (10 + ci, n)) : ∃ cell : Cell, H[a]? = some cell ∧ cell.vm.isStatics = false ∧ s.vm.findClass (zrn ci) = some cell.cls :=
  va_recv (q0 := 0) (fs := (List.range n).map (hF h a)) hX.2.2.2.2.2.2.1.1 (hR.one (a := a) (by rw [hk]; show 10 + ci ≠ 0; omega)) (z_cl ci hc) (by rw [zcE_o hk]; rfl)
/-- the shape of a call's step -/
theorem z_call {st : Bool} {t n : Nat} (hs : i_call C st t n (pc + 3) L S h = .inl f') : (bif st then n else n + 1) ≤ S.length ∧ zcat (S.drop (bif st then n else n + 1)) ≤ 8 ∧ ∃ (r : Option Value) (h' : mH), C t (S.take (bif st then n else n + 1)).reverse h = some (r, h') ∧ f' = (pc + 3, L, r.toList ++ S.drop (bif st then n else n + 1), h') := by
  unfold i_call at hs
  cases h1 : Nat.ble (bif st then n else n + 1) S.length with
  | false => rw [h1] at hs; cases hs
  | true =>
    rw [h1] at hs
    cases h2 : Nat.ble (zcat (S.drop (bif st then n else n + 1))) 8 with
    | false => rw [h2] at hs; cases hs
    | true =>
      rw [h2] at hs
      dsimp only [cond_true] at hs
      refine ⟨Nat.le_of_ble_eq_true h1, Nat.le_of_ble_eq_true h2, ?_⟩
      split at hs
      · next r h' hc => cases hs; exact ⟨r, h', hc, rfl⟩
      · cases hs
theorem z_cOK {t : Nat} {vs rest : List Value} {r : Option Value} (hX : zC p R s m args meth c D cs b E M d) (hC : zMet l D cs b E d C) (hc : C t vs h = some (r, h')) (ht : t < 152)
    (row : ∀ (H : Heap) (locs : List Loc) (cells slots : Nat) (ls : Array Slot), zHR D cs b h H → va_S (zA b) s.heap H locs → zLR L ls → cells + (hN h' - hN h) ≤ R.cells → slots + (hZ h' - hZ h) ≤ R.slots → va_Run p l e R s m args below meth c H locs cells slots (hN h' - hN h) (hZ h' - hZ h) (F0 m pc ls S) rest (zQc D cs b r h' vs.toArray) (zA b)) : zOK p l e R s m args below meth c D cs b (pc, L, S, h) (pc + 3, L, r.toList ++ rest, h') := by
  obtain ⟨n1, n2, hM⟩ := hC t vs h r h' hc
  exact ⟨rfl, n1, n2, fun Q H locs cells slots ls hR hS hL r1 r2 kk => z_back (row H locs cells slots ls hR hS hL r1 r2) hS (fun H1 locs1 hR1 hS1 => kk H1 locs1 ls hR1 hS1 hL)⟩
theorem zLR.size {ls : Array Slot} (h : zLR L ls) : ls.size = L.length := h.1
theorem z_virt {k : Nat} (hX : zC p R s m args meth c D cs b E M d) (hLl : L.length = zmx M) (hC : zMet l D cs b E d C) (hdg : decode (zcod M) pc = .ok (.invokevirtual k, 3)) (hs : i_virt C (zow M) k (pc + 3) L S h = .inl f') : zOK p l e R s m args below meth c D cs b (pc, L, S, h) f' := by
  unfold i_virt at hs
  split at hs
  · next t n pl hq =>
    split at hs
    · next a ha =>
      split at hs
      · next hk =>
        obtain ⟨s1, s2, r, h', hc, rfl⟩ := z_call hs
        dsimp only [cond_false] at s1 s2 hc ⊢
        obtain ⟨w1, w2, w3, w4, w5⟩ := z_lt1 _ (zlk_mem hq) (by show (1 : Nat) < 3; decide)
        dsimp only at w1 w2 w3 w4 w5
        have hts := hX.2.2.2.2.1
        obtain ⟨c1, c2, c3, c4, c5⟩ := z_cb (n := 0) (o := 0) (k := 0) (x := zmn t) hX w3 (hN h' - hN h) (hZ h' - hZ h)
        obtain ⟨m1, m2, m3, m4, m5⟩ := (z_ms t w3).2.1 w4
        have hcls := (z_mi t w3).2.2.2.1
        obtain ⟨_, _, hM⟩ := hC t _ h r h' hc
        have hM := hM w3
        have hsp : S = (S.take n).reverse.reverse ++ .ref a :: S.drop (n + 1) := by
          rw [List.reverse_reverse]
          obtain ⟨hlt, hge⟩ := List.getElem?_eq_some_iff.mp ha
          rw [← hge, ← List.drop_eq_getElem_cons hlt, List.take_append_drop]
        have htk : (S.take (n + 1)).reverse = .ref a :: (S.take n).reverse := by
          rw [List.take_add_one, ha]
          simp
        rw [htk] at hM hc
        refine z_cOK hX hC hc w3 fun H locs cells slots ls hR hS hL r1 r2 => ?_
        exact va_runV (C := (zmn t).cls) (b := a) (As := (S.take n).reverse) (n := n) (nL := zmx M) (Ts := zT) ⟨hX.1, hX.2.1, hX.2.2.1, hX.2.2.2.1, hts⟩ hM ⟨⟨c1.1, c1.2.1, c1.2.2.1, c1.2.2.2.1, c1.2.2.2.2.1, c1.2.2.2.2.2, c2, c3, c4, fun sig q => by rw [w5]; exact c5 sig q, hts _ (zin _ w1 w2)⟩, hts _ (zin _ m1 m2), hts _ (zin _ m3 m4)⟩
          ⟨z_blind _ _, by rw [hcls]; exact z_recv hX hR m5 hk, z_pre _ hX.2.2.2.2.2.2.1 hR hS⟩ rfl (by rw [List.length_reverse, List.length_take]; omega) (by show ls.size = _; rw [hL.size, hLl]) hsp (by show 2 * 0 + zcat _ ≤ 8; omega) hdg ⟨r1, r2⟩
      · cases hs
    · cases hs
  · cases hs
theorem z_stat0 {k t n pl : Nat} (hX : zC p R s m args meth c D cs b E M d) (hLl : L.length = zmx M) (hC : zMet l D cs b E d C) (hdg : decode (zcod M) pc = .ok (.invokestatic k, 3)) (hq : zlk (zow M) k zlt = some (0, t, n, pl)) (hs : i_call C true t n (pc + 3) L S h = .inl f') : zOK p l e R s m args below meth c D cs b (pc, L, S, h) f' := by
  obtain ⟨s1, s2, r, h', hc, rfl⟩ := z_call hs
  dsimp only [cond_true] at s1 s2 hc ⊢
  obtain ⟨w1, w2, w3, w4, w5⟩ := z_lt1 _ (zlk_mem hq) (by show (0 : Nat) < 3; decide)
  dsimp only at w1 w2 w3 w4 w5
  have hts := hX.2.2.2.2.1
  obtain ⟨c1, c2, c3, c4, c5⟩ := z_cb (n := 0) (o := 0) (k := 0) (x := zmn t) hX w3 (hN h' - hN h) (hZ h' - hZ h)
  obtain ⟨m1, m2⟩ := (z_ms t w3).1 w4
  obtain ⟨_, _, hM⟩ := hC t _ h r h' hc
  have hM := hM w3
  refine z_cOK hX hC hc w3 fun H locs cells slots ls hR hS hL r1 r2 => ?_
  exact va_runS (As := (S.take n).reverse) (n := n) (nL := zmx M) (Ts := zT) ⟨hX.1, hX.2.1, hX.2.2.1, hX.2.2.2.1, hts⟩ hM ⟨⟨c1.1, c1.2.1, c1.2.2.1, c1.2.2.2.1, c1.2.2.2.2.1, c1.2.2.2.2.2, c2, c3, c4, fun sig q => by rw [w5]; exact c5 sig q, hts _ (zin _ w1 w2)⟩, hts _ (zin _ m1 m2)⟩
    ⟨z_blind _ _, z_pre _ hX.2.2.2.2.2.2.1 hR hS⟩ rfl (by rw [List.length_reverse, List.length_take]; omega) (by show ls.size = _; rw [hL.size, hLl]) (z_tk s1) (by show 2 * 0 + zcat _ ≤ 8; omega) hdg ⟨r1, r2⟩
theorem z_nwm {a : String} {i : Nat} {x : MethodName} {o : String} {A : Array Value} {U : State} (q : va_Nw (.methodLinkNest a i x o) U) : (Cond.methodLinkNest a i x o).before A U = true := va_Nw.use rfl q
theorem z_spec {k : Nat} (hX : zC p R s m args meth c D cs b E M d) (hLl : L.length = zmx M) (hC : zMet l D cs b E d C) (hdg : decode (zcod M) pc = .ok (.invokespecial k, 3)) (hs : i_spec C (zow M) k (pc + 3) L S h = .inl f') : zOK p l e R s m args below meth c D cs b (pc, L, S, h) f' := by
  unfold i_spec at hs
  have hts := hX.2.2.2.2.1
  split at hs
  · next t n pl hq =>
    split at hs
    · next a ha =>
      obtain ⟨s1, s2, r, h', hc, rfl⟩ := z_call hs
      dsimp only [cond_false] at s1 s2 hc ⊢
      obtain ⟨w1, w2, w3, w4, w5⟩ := z_lt1 _ (zlk_mem hq) (by show (2 : Nat) < 3; decide)
      dsimp only at w1 w2 w3 w4 w5
      obtain ⟨c1, c2, c3, c4, c5⟩ := z_cb (n := 0) (o := 0) (k := 0) (x := zmn t) hX w3 (hN h' - hN h) (hZ h' - hZ h)
      obtain ⟨m1, m2, m3, m4⟩ := (z_ms t w3).2.2 w4
      obtain ⟨_, _, hM⟩ := hC t _ h r h' hc
      have hM := hM w3
      have hsp : S = (S.take n).reverse.reverse ++ .ref a :: S.drop (n + 1) := by
        rw [List.reverse_reverse]
        obtain ⟨hlt, hge⟩ := List.getElem?_eq_some_iff.mp ha
        rw [← hge, ← List.drop_eq_getElem_cons hlt, List.take_append_drop]
      have htk : (S.take (n + 1)).reverse = .ref a :: (S.take n).reverse := by
        rw [List.take_add_one, ha]
        simp
      rw [htk] at hM hc
      rw [m4] at c1 c2
      refine z_cOK hX hC hc w3 fun H locs cells slots ls hR hS hL r1 r2 => ?_
      exact va_runI (b := a) (As := (S.take n).reverse) (n := n) (nL := zmx M) (Ts := zT) ⟨hX.1, hX.2.1, hX.2.2.1, hX.2.2.2.1, hts⟩ hM ⟨⟨c1.1, c1.2.1, c1.2.2.1, c1.2.2.2.1, c1.2.2.2.2.1, c1.2.2.2.2.2, c2, c3, c4, fun sig q => by rw [w5]; exact c5 sig q, hts _ (zin _ w1 w2)⟩, m3, hts _ (zin _ m1 m2)⟩
        ⟨z_blind _ _, z_pre _ hX.2.2.2.2.2.2.1 hR hS⟩ rfl (by rw [List.length_reverse, List.length_take]; omega) (by show ls.size = _; rw [hL.size, hLl]) hsp (by show 2 * 0 + zcat _ ≤ 8; omega) hdg ⟨r1, r2⟩
    · cases hs
  · next t n pl hq =>
    split at hs
    · next a ha =>
      obtain ⟨s1, s2, r, h', hc, rfl⟩ := z_call hs
      dsimp only [cond_false] at s1 s2 hc ⊢
      obtain ⟨w1, w3, w4, w5⟩ := (z_lt2 _ (zlk_mem hq)).1 rfl
      dsimp only at w1 w3 w4 w5
      obtain ⟨c1, c2, c3, c4, c5⟩ := z_cb (n := 0) (o := 0) (k := 0) (x := zmn t) hX w3 (hN h' - hN h) (hZ h' - hZ h)
      obtain ⟨m1, m2, m3, m4⟩ := (z_ms t w3).2.2 w4
      obtain ⟨_, _, hM⟩ := hC t _ h r h' hc
      have hM := hM w3
      have hsp : S = (S.take n).reverse.reverse ++ .ref a :: S.drop (n + 1) := by
        rw [List.reverse_reverse]
        obtain ⟨hlt, hge⟩ := List.getElem?_eq_some_iff.mp ha
        rw [← hge, ← List.drop_eq_getElem_cons hlt, List.take_append_drop]
      have htk : (S.take (n + 1)).reverse = .ref a :: (S.take n).reverse := by
        rw [List.take_add_one, ha]
        simp
      rw [htk] at hM hc
      rw [m4] at c1 c2
      have hnw := z_nwm (A := args) (hX.2.2.2.2.2.2.1.2.1 _ w1)
      dsimp only at hnw
      refine z_cOK hX hC hc w3 fun H locs cells slots ls hR hS hL r1 r2 => ?_
      exact va_runIN (b := a) (host := "OneSumSquares") (As := (S.take n).reverse) (n := n) (nL := zmx M) (Ts := zT) ⟨hX.1, hX.2.1, hX.2.2.1, hX.2.2.2.1, hts⟩ hM ⟨⟨c1, c2, c3, c4, fun sig q => by rw [w5]; exact c5 sig q, hnw⟩, m3, hts _ (zin _ m1 m2)⟩
        ⟨z_blind _ _, z_pre _ hX.2.2.2.2.2.2.1 hR hS⟩ rfl (by rw [List.length_reverse, List.length_take]; omega) (by show ls.size = _; rw [hL.size, hLl]) hsp (by show 2 * 0 + zcat _ ≤ 8; omega) hdg ⟨r1, r2⟩
    · cases hs
  · next pl hq =>
    split at hs
    · next a S =>
      split at hs
      · next hcat =>
        cases hs
        obtain ⟨w1, w2⟩ := (z_lt2 _ (zlk_mem hq)).2.1 rfl
        dsimp only at w1 w2
        refine zOK.pu fun Q H locs cells slots ls hL kk => ?_
        exact W.objInit hX.1 hX.2.1 hX.2.2.2.1 (hts _ (zin _ w1 w2)) (hts _ zw_0) (hts _ zw_1) rfl (by show ls.size = _; rw [hL.size, hLl, hX.2.2.1]) rfl hdg (by have := hX.2.2.2.2.2.2.2.1; omega) (by have := hX.2.2.2.2.2.2.2.2.1; show 2 * 0 + zcat S + 12 ≤ _; omega) kk
      · cases hs
    · cases hs
  · cases hs
end
