/-! ===== kinds stay, answers are of the method's type ===== -/
section
variable {E : mE} {M : Nat} {pc : Nat} {L : mL} {S : List Value} {h h' : mH} {f' : mF} {C : Nat → List Value → mH → Option mR}
def zkk (h : mH) (x : mX) : Prop := ∀ f' : mF, x = .inl f' → hN h ≤ hN f'.2.2.2 ∧ ∀ a, a < hN h → hK f'.2.2.2 a = hK h a
theorem zkk.no : zkk h zno := fun _ q => by cases q
theorem zkk.nr {x : Option mR} : zkk h (.inr x) := fun _ q => by cases q
theorem zkk.to {f : mF} (h1 : hN h ≤ hN f.2.2.2) (h2 : ∀ a, a < hN h → hK f.2.2.2 a = hK h a) : zkk h (.inl f) := fun _ q => by cases q; exact ⟨h1, h2⟩
theorem zkk.eq {f : mF} (h1 : hN f.2.2.2 = hN h) (h2 : hK f.2.2.2 = hK h) : zkk h (.inl f) := zkk.to (Nat.le_of_eq h1.symm) (fun a _ => by rw [h2])
theorem zkk.co {x y : mX} (q : Bool) (hx : zkk h x) (hy : zkk h y) : zkk h (bif q then x else y) := by cases q <;> assumption
theorem zkk.go {off : Int} : zkk h (zgo pc off L S h) := by
  unfold zgo
  split
  · exact zkk.eq rfl rfl
  · exact zkk.no
theorem zkk.call {st : Bool} {t n nx : Nat} (hC : ∀ (M : Nat) (vs : List Value) (h : mH) (r : Option Value) (h' : mH), C M vs h = some (r, h') → hN h ≤ hN h' ∧ ∀ a, a < hN h → hK h' a = hK h a) : zkk h (i_call C st t n nx L S h) := by
  unfold i_call
  refine zkk.co _ (zkk.co _ ?_ zkk.no) zkk.no
  split
  · next r h' hc => exact zkk.to (hC _ _ _ _ _ hc).1 (hC _ _ _ _ _ hc).2
  · exact zkk.no
theorem zkk.al {t n z : Nat} {g : Nat → Value} : zkk h (.inl (pc, L, S, aH h t n z g)) := zkk.to (Nat.le_succ _) (fun a ha => va_up_ne (hK h) (t, n) (Nat.ne_of_lt ha))
set_option maxHeartbeats 4000000 in
theorem zkk.ii {i : Instr} {nx : Nat} (hC : ∀ (M : Nat) (vs : List Value) (h : mH) (r : Option Value) (h' : mH), C M vs h = some (r, h') → hN h ≤ hN h' ∧ ∀ a, a < hN h → hK h' a = hK h a) : zkk h (ins E C M i pc nx L S h) := by
  cases i
  all_goals dsimp only [ins]
  all_goals try unfold i_ild
  all_goals try unfold i_lld
  all_goals try unfold i_ald
  all_goals try unfold i_ist
  all_goals try unfold i_lst
  all_goals try unfold i_ast
  all_goals try unfold i_inc
  all_goals try unfold i_b
  all_goals try unfold i_bd
  all_goals try unfold i_lb
  all_goals try unfold i_ls
  all_goals try unfold i_u
  all_goals try unfold i_l2i
  all_goals try unfold i_lcmp
  all_goals try unfold i_dup
  all_goals try unfold i_dup2
  all_goals try unfold i_if1
  all_goals try unfold i_if2
  all_goals try unfold i_nul
  all_goals try unfold i_tsw
  all_goals try unfold i_iald
  all_goals try unfold i_lald
  all_goals try unfold i_zald
  all_goals try unfold i_aald
  all_goals try unfold i_iast
  all_goals try unfold i_last
  all_goals try unfold i_zast
  all_goals try unfold i_aast
  all_goals try unfold i_alen
  all_goals try unfold i_newa
  all_goals try unfold i_newq
  all_goals try unfold i_new
  all_goals try unfold i_getf
  all_goals try unfold i_putf
  all_goals try unfold i_gets
  all_goals try unfold i_ldc
  all_goals try unfold i_ldc2
  all_goals try unfold i_virt
  all_goals try unfold i_spec
  all_goals try unfold i_stat
  all_goals try unfold i_cpy
  all_goals try unfold i_mm
  all_goals try unfold i_ret
  all_goals try unfold i_lret
  all_goals try unfold i_aret
  all_goals try unfold i_vret
  all_goals (repeat' first | exact zkk.no | exact zkk.nr | exact zkk.eq rfl rfl | exact zkk.al | exact zkk.go | exact zkk.call hC | refine zkk.co _ ?_ ?_ | split)
theorem z_kinS {f : mF} (hC : ∀ (M : Nat) (vs : List Value) (h : mH) (r : Option Value) (h' : mH), C M vs h = some (r, h') → hN h ≤ hN h' ∧ ∀ a, a < hN h → hK h' a = hK h a) (hs : stp E C M f = .inl f') : hN f.2.2.2 ≤ hN f'.2.2.2 ∧ ∀ a, a < hN f.2.2.2 → hK f'.2.2.2 a = hK f.2.2.2 a := by
  have : zkk f.2.2.2 (stp E C M f) := by
    unfold stp
    split
    · refine zkk.co _ (zkk.co _ (zkk.ii hC) ?_) zkk.no
      unfold zon
      split
      · next g hg => exact fun f' e => by cases e; exact zkk.ii hC g hg
      · exact zkk.no
    · exact zkk.no
  exact this f' hs
theorem z_kinR {r : Option Value} (hC : ∀ (M : Nat) (vs : List Value) (h : mH) (r : Option Value) (h' : mH), C M vs h = some (r, h') → hN h ≤ hN h' ∧ ∀ a, a < hN h → hK h' a = hK h a) : ∀ (n : Nat) (f : mF), run E C M n f = some (r, h') → hN f.2.2.2 ≤ hN h' ∧ ∀ a, a < hN f.2.2.2 → hK h' a = hK f.2.2.2 a
  | 0, f, hr => by cases hr
  | n + 1, f, hr => by
    unfold run at hr
    cases hs : stp E C M f with
    | inl f' =>
      rw [hs] at hr
      have a := z_kinS hC hs
      have q := z_kinR hC n f' hr
      exact ⟨Nat.le_trans a.1 q.1, fun t ht => by rw [q.2 t (by omega), a.2 t ht]⟩
    | inr x =>
      rw [hs] at hr
      have hr : x = some (r, h') := hr
      subst hr
      rw [(z_endh hs).1]
      exact ⟨Nat.le_refl _, fun _ _ => rfl⟩
theorem z_kin (E : mE) : ∀ (d M : Nat) (vs : List Value) (h : mH) (r : Option Value) (h' : mH), cal E d M vs h = some (r, h') → hN h ≤ hN h' ∧ ∀ a, a < hN h → hK h' a = hK h a
  | 0, M, vs, h, r, h', q => by cases q
  | d + 1, M, vs, h, r, h', q => by
    rw [cal_eq] at q
    cases hb : Nat.ble (zsl vs).length (zmx M) with
    | false => rw [hb] at q; cases q
    | true =>
      rw [hb] at q
      obtain ⟨n, hn⟩ := lim_iff.mp q
      exact z_kinR (z_kin E d) n _ hn
theorem z_typS {f : mF} {r : Option Value} (hs : stp E C M f = .inr (some (r, h'))) : (zrt M = some .int ∨ zrt M = some .boolean → ∃ x, r = some (.int x)) ∧ (zrt M = some .long → ∃ x, r = some (.long x)) := by
  obtain ⟨i, _, q⟩ := z_fin hs
  rcases q with ⟨_, q⟩ | ⟨_, q⟩ | ⟨_, q⟩ | ⟨_, q⟩
  · unfold i_ret at q
    repeat' split at q
    · next hz => cases q; exact ⟨fun _ => ⟨_, rfl⟩, fun e => by rw [hz] at e; cases e⟩
    · next hz _ => cases q; exact ⟨fun _ => ⟨_, rfl⟩, fun e => by rw [hz] at e; cases e⟩
    all_goals (cases q; done)
  · unfold i_lret at q
    repeat' split at q
    · next hz => cases q; exact ⟨fun e => by rcases e with e | e <;> (rw [hz] at e; cases e), fun _ => ⟨_, rfl⟩⟩
    all_goals (cases q; done)
  · have hz : zisr (zrt M) = true := by
      cases hz : zisr (zrt M) with
      | true => rfl
      | false =>
        unfold i_aret at q
        rw [hz] at q
        dsimp only [cond_false] at q
        split at q <;> cases q
    refine ⟨fun e => ?_, fun e => ?_⟩
    · rcases e with e | e <;> (rw [e] at hz; cases hz)
    · rw [e] at hz
      cases hz
  · unfold i_vret at q
    repeat' split at q
    · next hz => exact ⟨fun e => by rcases e with e | e <;> (rw [hz] at e; cases e), fun e => by rw [hz] at e; cases e⟩
    all_goals (cases q; done)
theorem z_typR {r : Option Value} : ∀ (n : Nat) (f : mF), run E C M n f = some (r, h') → (zrt M = some .int ∨ zrt M = some .boolean → ∃ x, r = some (.int x)) ∧ (zrt M = some .long → ∃ x, r = some (.long x))
  | 0, f, hr => by cases hr
  | n + 1, f, hr => by
    unfold run at hr
    cases hs : stp E C M f with
    | inl f' =>
      rw [hs] at hr
      exact z_typR n f' hr
    | inr x =>
      rw [hs] at hr
      have hr : x = some (r, h') := hr
      subst hr
      exact z_typS hs
theorem z_typ {d : Nat} {vs : List Value} {r : Option Value} (q : cal E d M vs h = some (r, h')) : (zrt M = some .int ∨ zrt M = some .boolean → ∃ x, r = some (.int x)) ∧ (zrt M = some .long → ∃ x, r = some (.long x)) := by
  cases d with
  | zero => cases q
  | succ d =>
    rw [cal_eq] at q
    cases hb : Nat.ble (zsl vs).length (zmx M) with
    | false => rw [hb] at q; cases q
    | true =>
      rw [hb] at q
      obtain ⟨n, hn⟩ := lim_iff.mp q
      exact z_typR n _ hn
end
