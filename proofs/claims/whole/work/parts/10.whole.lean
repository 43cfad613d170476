/-! ===== whole runs ===== -/
section
variable {p : Program} {l : Launch} {e : Env} {R : Room} {s : State} {m : MethodId} {args : Array Value} {below : List Frame} {meth : Method} {c : Code} {D : va_G} {cs : Nat → ClassId} {b : Nat} {E : mE} {M d : Nat} {pc pc' : Nat} {L L' : mL} {S S' : List Value} {h h' : mH} {f' : mF} {C : Nat → List Value → mH → Option mR}
theorem z_stp {f : mF} (hX : zC p R s m args meth c D cs b E M d) (hLl : f.2.1.length = zmx M) (hC : zMet l D cs b E d C) (hs : stp E C M f = .inl f') : zOK p l e R s m args below meth c D cs b f f' := by
  unfold stp at hs
  split at hs
  · next i len hdg =>
    cases hg : (ztsw i || Nat.beq len (zlen i)) with
    | false => rw [hg] at hs; cases hs
    | true =>
      rw [hg] at hs
      dsimp only [cond_true] at hs
      have hs' : ins E C M i f.1 (f.1 + zlen i) f.2.1 f.2.2.1 f.2.2.2 = .inl f' := by
        cases hr : zrti i with
        | true => rw [hr] at hs; exact hs
        | false =>
          rw [hr] at hs
          dsimp only [cond_false] at hs
          unfold zon at hs
          split at hs
          · next hq => rw [hq]; exact hs
          · cases hs
      obtain ⟨pc, L, S, h⟩ := f
      dsimp only at *
      cases ht : ztsw i with
      | true =>
        cases i <;> first | (cases ht; done) | exact z_tsw hX hdg hs'
      | false =>
        rw [ht] at hg
        have : len = zlen i := Nat.eq_of_beq_eq_true (by simpa using hg)
        subst this
        exact z_ins hX hLl hC hdg hs'
  · cases hs
/-- a step that ends -/
theorem z_fin {f : mF} {x : mR} (hs : stp E C M f = .inr (some x)) : ∃ i : Instr, decode (zcod M) f.1 = .ok (i, 1) ∧ ((i = .ireturn ∧ i_ret M f.2.2.1 f.2.2.2 = .inr (some x)) ∨ (i = .lreturn ∧ i_lret M f.2.2.1 f.2.2.2 = .inr (some x)) ∨ (i = .areturn ∧ i_aret M f.2.2.1 f.2.2.2 = .inr (some x)) ∨ (i = .return_ ∧ i_vret M f.2.2.1 f.2.2.2 = .inr (some x))) := by
  unfold stp at hs
  split at hs
  · next i len hdg =>
    cases hg : (ztsw i || Nat.beq len (zlen i)) with
    | false => rw [hg] at hs; cases hs
    | true =>
      rw [hg] at hs
      dsimp only [cond_true] at hs
      cases hr : zrti i with
      | false =>
        rw [hr] at hs
        dsimp only [cond_false] at hs
        unfold zon at hs
        split at hs <;> cases hs
      | true =>
        rw [hr] at hs
        dsimp only [cond_true] at hs
        cases i <;> first | (cases hr; done) | (have hl : len = 1 := Nat.eq_of_beq_eq_true hg; subst hl; exact ⟨_, hdg, by first | exact Or.inl ⟨rfl, hs⟩ | exact Or.inr (Or.inl ⟨rfl, hs⟩) | exact Or.inr (Or.inr (Or.inl ⟨rfl, hs⟩)) | exact Or.inr (Or.inr (Or.inr ⟨rfl, hs⟩))⟩)
  · cases hs
theorem z_endh {f : mF} {r : Option Value} (hs : stp E C M f = .inr (some (r, h'))) : f.2.2.2 = h' ∧ f.2.2.1 = r.toList := by
  obtain ⟨i, _, q⟩ := z_fin hs
  rcases q with ⟨_, q⟩ | ⟨_, q⟩ | ⟨_, q⟩ | ⟨_, q⟩
  · unfold i_ret at q
    repeat' split at q
    all_goals (first | (cases q; done) | (cases q; next hS => exact ⟨rfl, hS⟩) | (cases q; exact ⟨rfl, by assumption⟩))
  · unfold i_lret at q
    repeat' split at q
    all_goals (first | (cases q; done) | (cases q; exact ⟨rfl, by assumption⟩))
  · unfold i_aret at q
    cases hz : zisr (zrt M) <;> rw [hz] at q <;> dsimp only [cond_true, cond_false] at q <;> (repeat' split at q) <;> first | (cases q; done) | (cases q; exact ⟨rfl, by assumption⟩)
  · unfold i_vret at q
    repeat' split at q
    all_goals (first | (cases q; done) | (cases q; exact ⟨rfl, by assumption⟩))
/-- the return of a method -/
theorem z_retW {f : mF} {r : Option Value} {H : Heap} {locs : List Loc} {cells slots : Nat} {ls : Array Slot} {Qc : Array Value → State → Outcome → State → Prop} {free : Addr → Prop} (hX : zC p R s m args meth c D cs b E M d) (hr : meth.sig.returnType = zrt M) (hlocks : meth.locks = false) (hs : stp E C M f = .inr (some (r, h'))) (hq : ∀ t : State, t.heap = H → s.WarmedH t.vm → Qc args s (.returned r) t) (hf : ∀ q ∈ locs, free q.base) : W p l e R s m args below meth c H locs cells slots (MQ below Qc args s cells slots free) (F0 m f.1 ls f.2.2.1) := by
  obtain ⟨i, hdg, q⟩ := z_fin hs
  rcases q with ⟨rfl, q⟩ | ⟨rfl, q⟩ | ⟨rfl, q⟩ | ⟨rfl, q⟩
  · unfold i_ret at q
    split at q
    · next x hS =>
      rw [hS]
      split at q
      · next ht =>
        cases q
        exact W.iret hX.1 hX.2.1 (by rw [hr, ht]) hq hf hdg hlocks
      · next ht =>
        split at q
        · next hx =>
          cases q
          refine W.zret (ty := .boolean) hX.1 hX.2.1 (by rw [hr, ht]) ?_ hq hf hdg hlocks
          rcases hx with rfl | rfl <;> rfl
        · cases q
      · cases q
    · cases q
  · unfold i_lret at q
    split at q
    · next x hS =>
      rw [hS]
      split at q
      · next ht =>
        cases q
        exact W.lret hX.1 hX.2.1 (by rw [hr, ht]) hq hf hdg hlocks
      · cases q
    · cases q
  · unfold i_aret at q
    cases hz : zisr (zrt M) with
    | false =>
      rw [hz] at q
      dsimp only [cond_false] at q
      repeat' split at q
      all_goals cases q
    | true =>
      rw [hz] at q
      dsimp only [cond_true] at q
      have hrt : ∃ rt, zrt M = some rt ∧ ((∃ n, rt = .object n) ∨ ∃ t, rt = .array t) := by
        unfold zisr at hz
        split at hz
        · next n hn => exact ⟨_, hn, Or.inl ⟨_, rfl⟩⟩
        · next n hn => exact ⟨_, hn, Or.inr ⟨_, rfl⟩⟩
        · cases hz
      obtain ⟨rt, h1, h2⟩ := hrt
      split at q
      · next a hS =>
        rw [hS]
        cases q
        exact W.aret hX.1 hX.2.1 (by rw [hr, h1]) h2 (Or.inr ⟨_, rfl⟩) hq hf hdg hlocks
      · next hS =>
        rw [hS]
        cases q
        exact W.aret hX.1 hX.2.1 (by rw [hr, h1]) h2 (Or.inl rfl) hq hf hdg hlocks
      · cases q
  · unfold i_vret at q
    split at q
    · next hS =>
      rw [hS]
      split at q
      · next ht =>
        cases q
        exact W.vret hX.1 hX.2.1 (by rw [hr, ht]) hq hf hdg hlocks
      · cases q
    · cases q
/-- a run that ends with x is a run of the machine up to its return -/
theorem z_run {r : Option Value} {Q : State → Prop} {ct sT : Nat} (hC : zMet l D cs b E d C) (hX : zC p R s m args meth c D cs b E M d)
    (hE : ∀ (f : mF) (H : Heap) (locs : List Loc) (ls : Array Slot), stp E C M f = .inr (some (r, h')) → zHR D cs b h' H → va_S (zA b) s.heap H locs → W p l e R s m args below meth c H locs ct sT Q (F0 m f.1 ls f.2.2.1)) (r1 : ct ≤ R.cells) (r2 : sT ≤ R.slots) :
    ∀ (n : Nat) (f : mF), run E C M n f = some (r, h') → f.2.1.length = zmx M → hN f.2.2.2 ≤ hN h' ∧ hZ f.2.2.2 ≤ hZ h' ∧ ∀ (H : Heap) (locs : List Loc) (cells slots : Nat) (ls : Array Slot), zHR D cs b f.2.2.2 H → va_S (zA b) s.heap H locs → zLR f.2.1 ls → cells + (hN h' - hN f.2.2.2) = ct → slots + (hZ h' - hZ f.2.2.2) = sT → W p l e R s m args below meth c H locs cells slots Q (F0 m f.1 ls f.2.2.1)
  | 0, f, hr, _ => by cases hr
  | n + 1, f, hr, hl => by
    unfold run at hr
    cases hs : stp E C M f with
    | inl f' =>
      rw [hs] at hr
      obtain ⟨o1, o2, o3, o4⟩ := z_stp (l := l) (e := e) (below := below) hX hl hC hs
      obtain ⟨i1, i2, i3⟩ := z_run hC hX hE r1 r2 n f' hr (by rw [o1]; exact hl)
      refine ⟨Nat.le_trans o2 i1, Nat.le_trans o3 i2, fun H locs cells slots ls hR hS hL c1 c2 => ?_⟩
      refine o4 Q H locs cells slots ls hR hS hL (by omega) (by omega) (fun H' locs' ls' hR' hS' hL' => ?_)
      exact i3 H' locs' _ _ ls' hR' hS' hL' (by omega) (by omega)
    | inr x =>
      rw [hs] at hr
      have hr : x = some (r, h') := hr
      subst hr
      obtain ⟨e1, e2⟩ := z_endh hs
      rw [e1]
      refine ⟨Nat.le_refl _, Nat.le_refl _, fun H locs cells slots ls hR hS hL c1 c2 => ?_⟩
      rw [Nat.sub_self, Nat.add_zero] at c1 c2
      subst c1; subst c2
      exact hE f H locs ls hs hR hS
/-- what is made stays -/
def zkp (h : mH) (x : mX) : Prop := ∀ f' : mF, x = .inl f' → hN h ≤ hN f'.2.2.2 ∧ hZ h ≤ hZ f'.2.2.2
theorem zkp.no : zkp h zno := fun _ q => by cases q
theorem zkp.nr {x : Option mR} : zkp h (.inr x) := fun _ q => by cases q
theorem zkp.to {f : mF} (h1 : hN h ≤ hN f.2.2.2) (h2 : hZ h ≤ hZ f.2.2.2) : zkp h (.inl f) := fun _ q => by cases q; exact ⟨h1, h2⟩
theorem zkp.eq {f : mF} (h1 : hN f.2.2.2 = hN h) (h2 : hZ f.2.2.2 = hZ h) : zkp h (.inl f) := zkp.to (Nat.le_of_eq h1.symm) (Nat.le_of_eq h2.symm)
theorem zkp.co {x y : mX} (q : Bool) (hx : zkp h x) (hy : zkp h y) : zkp h (bif q then x else y) := by cases q <;> assumption
theorem zkp.it {x y : mX} (q : Prop) {dq : Decidable q} (hx : zkp h x) (hy : zkp h y) : zkp h (@ite mX q dq x y) := by split <;> assumption
theorem zkp.go {off : Int} : zkp h (zgo pc off L S h) := by
  unfold zgo
  split
  · exact zkp.eq rfl rfl
  · exact zkp.no
theorem zkp.call {st : Bool} {t n nx : Nat} (hC : ∀ (M : Nat) (vs : List Value) (h : mH) (r : Option Value) (h' : mH), C M vs h = some (r, h') → hN h ≤ hN h' ∧ hZ h ≤ hZ h') : zkp h (i_call C st t n nx L S h) := by
  unfold i_call
  refine zkp.co _ (zkp.co _ ?_ zkp.no) zkp.no
  split
  · next r h' hc => exact zkp.to (hC _ _ _ _ _ hc).1 (hC _ _ _ _ _ hc).2
  · exact zkp.no
theorem zkp.al {t n z : Nat} {g : Nat → Value} : zkp h (.inl (pc, L, S, aH h t n z g)) := zkp.to (Nat.le_succ _) (Nat.le_add_right _ _)
set_option maxHeartbeats 4000000 in
theorem zkp.ii {i : Instr} {nx : Nat} (hC : ∀ (M : Nat) (vs : List Value) (h : mH) (r : Option Value) (h' : mH), C M vs h = some (r, h') → hN h ≤ hN h' ∧ hZ h ≤ hZ h') : zkp h (ins E C M i pc nx L S h) := by
  cases i
  all_goals dsimp only [ins]
  all_goals try unfold i_ild
  all_goals try unfold i_lld
  all_goals try unfold i_ald
  all_goals try unfold i_ist
  all_goals try unfold i_lst
  all_goals try unfold i_ast
  all_goals try unfold i_inc
  all_goals try unfold i_b
  all_goals try unfold i_bd
  all_goals try unfold i_lb
  all_goals try unfold i_ls
  all_goals try unfold i_u
  all_goals try unfold i_l2i
  all_goals try unfold i_lcmp
  all_goals try unfold i_dup
  all_goals try unfold i_dup2
  all_goals try unfold i_if1
  all_goals try unfold i_if2
  all_goals try unfold i_nul
  all_goals try unfold i_tsw
  all_goals try unfold i_iald
  all_goals try unfold i_lald
  all_goals try unfold i_zald
  all_goals try unfold i_aald
  all_goals try unfold i_iast
  all_goals try unfold i_last
  all_goals try unfold i_zast
  all_goals try unfold i_aast
  all_goals try unfold i_alen
  all_goals try unfold i_newa
  all_goals try unfold i_newq
  all_goals try unfold i_new
  all_goals try unfold i_getf
  all_goals try unfold i_putf
  all_goals try unfold i_gets
  all_goals try unfold i_ldc
  all_goals try unfold i_ldc2
  all_goals try unfold i_virt
  all_goals try unfold i_spec
  all_goals try unfold i_stat
  all_goals try unfold i_cpy
  all_goals try unfold i_mm
  all_goals try unfold i_ret
  all_goals try unfold i_lret
  all_goals try unfold i_aret
  all_goals try unfold i_vret
  all_goals (repeat' first | exact zkp.no | exact zkp.nr | exact zkp.eq rfl rfl | exact zkp.al | exact zkp.go | exact zkp.call hC | refine zkp.co _ ?_ ?_ | split)
theorem z_growS {f : mF} (hC : ∀ (M : Nat) (vs : List Value) (h : mH) (r : Option Value) (h' : mH), C M vs h = some (r, h') → hN h ≤ hN h' ∧ hZ h ≤ hZ h') (hs : stp E C M f = .inl f') : hN f.2.2.2 ≤ hN f'.2.2.2 ∧ hZ f.2.2.2 ≤ hZ f'.2.2.2 := by
  have : zkp f.2.2.2 (stp E C M f) := by
    unfold stp
    split
    · refine zkp.co _ (zkp.co _ (zkp.ii hC) ?_) zkp.no
      unfold zon
      split
      · next g hg => exact fun f' e => by cases e; exact zkp.ii hC g hg
      · exact zkp.no
    · exact zkp.no
  exact this f' hs
theorem z_growR {r : Option Value} (hC : ∀ (M : Nat) (vs : List Value) (h : mH) (r : Option Value) (h' : mH), C M vs h = some (r, h') → hN h ≤ hN h' ∧ hZ h ≤ hZ h') : ∀ (n : Nat) (f : mF), run E C M n f = some (r, h') → hN f.2.2.2 ≤ hN h' ∧ hZ f.2.2.2 ≤ hZ h'
  | 0, f, hr => by cases hr
  | n + 1, f, hr => by
    unfold run at hr
    cases hs : stp E C M f with
    | inl f' =>
      rw [hs] at hr
      have a := z_growS hC hs
      have q := z_growR hC n f' hr
      exact ⟨Nat.le_trans a.1 q.1, Nat.le_trans a.2 q.2⟩
    | inr x =>
      rw [hs] at hr
      have hr : x = some (r, h') := hr
      subst hr
      rw [(z_endh hs).1]
      exact ⟨Nat.le_refl _, Nat.le_refl _⟩
theorem z_grow (E : mE) : ∀ (d M : Nat) (vs : List Value) (h : mH) (r : Option Value) (h' : mH), cal E d M vs h = some (r, h') → hN h ≤ hN h' ∧ hZ h ≤ hZ h'
  | 0, M, vs, h, r, h', q => by cases q
  | d + 1, M, vs, h, r, h', q => by
    rw [cal_eq] at q
    cases hb : Nat.ble (zsl vs).length (zmx M) with
    | false => rw [hb] at q; cases q
    | true =>
      rw [hb] at q
      obtain ⟨n, hn⟩ := lim_iff.mp q
      exact z_growR (z_grow E d) n _ hn
/-- every method of my machine, at every depth -/
theorem z_met (l : Launch) (D : va_G) (cs : Nat → ClassId) (b : Nat) (E : mE) : ∀ d : Nat, zMet l D cs b E d (cal E d)
  | 0 => fun M vs h r h' q => by cases q
  | d + 1 => by
    intro M vs h r h' q
    obtain ⟨g1, g2⟩ := z_grow E (d + 1) M vs h r h' q
    refine ⟨g1, g2, fun hM => ?_⟩
    rw [cal_eq] at q
    cases hb : Nat.ble (zsl vs).length (zmx M) with
    | false => rw [hb] at q; cases q
    | true =>
      rw [hb] at q
      obtain ⟨n, hn⟩ := lim_iff.mp q
      have hfit := Nat.le_of_ble_eq_true hb
      obtain ⟨i1, i2, i3, i4, i5, i6, i7⟩ := z_mi M hM
      refine Met.ofW (cc := zcod M) (maxL := zmx M) (ret := zrt M) i3 rfl ?_
      intro p e s m args below meth c s₁ B hml hv
      obtain ⟨rfl, hG, hR⟩ := hv
      have hts := atoms_spec (ws := zws M) B.pre
      have hown : s.vm.findClass (zmn M).cls = some m.cls := findClass_of_methodNamed B.named
      have hlocks := B.notSynchronized
      rw [lg_entry_eq]
      have hX : zC p (headSpec (zws M) (zrm (d + 1) (hN h' - hN h) (hZ h' - hZ h))).room s m vs.toArray meth c D cs b E M d := by
        refine ⟨B.exec, B.bytes, hml, by rw [← i4]; exact hown, fun w hw => hts w (List.mem_cons_of_mem _ hw), fun hk => ?_, hG, Nat.le_refl _, Nat.le_refl _, by rw [hR.1]; exact hR.2.1⟩
        have := (z_ms M hM).2.2 hk
        rw [(name_of_methodNamed B.named B.method).1]
        exact this.2.2.1
      have hlen : (zen M vs).length = zmx M := by
        unfold zen
        rw [List.length_append, List.length_replicate]
        omega
      obtain ⟨_, _, w⟩ := z_run (l := l) (e := e) (below := below) (Q := MQ below (zQc D cs b r h') vs.toArray s (hN h' - hN h) (hZ h' - hZ h) (zA b)) (ct := hN h' - hN h) (sT := hZ h' - hZ h) (z_met l D cs b E d) hX (fun f H locs ls hs hR' hS' => z_retW hX B.returns hlocks hs (fun t ht _ => ⟨rfl, by rw [ht]; exact hR', hS'.F ht⟩) hS'.2.2) (Nat.le_refl _) (Nat.le_refl _) n _ hn hlen
      exact w s.heap [] 0 0 _ hR va_S.rf (zLR.entry hfit) (Nat.zero_add _) (Nat.zero_add _)
end
