/-! ===== my machine beside the kit's: what stands where ===== -/
abbrev zA (b : Nat) : Nat → Prop := fun q => b ≤ q
def zcE (cs : Nat → ClassId) (h : mH) (a : Nat) : va_E :=
  if (hK h a).1 = 1 then .inl (cs 0, (hK h a).2, .inl (hI h a))
  else if (hK h a).1 = 2 then .inl (cs 1, (hK h a).2, .inr (.inl (hJ h a)))
  else if (hK h a).1 = 3 then .inl (cs 2, (hK h a).2, .inl (hI h a))
  else if (hK h a).1 = 4 then .inl (cs 3, (hK h a).2, .inr (.inr (.inr (.inr (fun i => zrf (hF h a i))))))
  else if (hK h a).1 = 5 then .inl (cs 4, (hK h a).2, .inr (.inr (.inr (.inr (fun i => zrf (hF h a i))))))
  else .inr ((hK h a).1 - 10, (List.range (hK h a).2).map (hF h a))
theorem zcE_1 {cs : Nat → ClassId} {h : mH} {a : Nat} (k : (hK h a).1 = 1) : zcE cs h a = .inl (cs 0, (hK h a).2, .inl (hI h a)) := by simp [zcE, k]
theorem zcE_2 {cs : Nat → ClassId} {h : mH} {a : Nat} (k : (hK h a).1 = 2) : zcE cs h a = .inl (cs 1, (hK h a).2, .inr (.inl (hJ h a))) := by simp [zcE, k]
theorem zcE_3 {cs : Nat → ClassId} {h : mH} {a : Nat} (k : (hK h a).1 = 3) : zcE cs h a = .inl (cs 2, (hK h a).2, .inl (hI h a)) := by simp [zcE, k]
theorem zcE_4 {cs : Nat → ClassId} {h : mH} {a : Nat} (k : (hK h a).1 = 4) : zcE cs h a = .inl (cs 3, (hK h a).2, .inr (.inr (.inr (.inr (fun i => zrf (hF h a i)))))) := by simp [zcE, k]
theorem zcE_5 {cs : Nat → ClassId} {h : mH} {a : Nat} (k : (hK h a).1 = 5) : zcE cs h a = .inl (cs 4, (hK h a).2, .inr (.inr (.inr (.inr (fun i => zrf (hF h a i)))))) := by simp [zcE, k]
theorem zcE_o {cs : Nat → ClassId} {h : mH} {a ci n : Nat} (k : hK h a = (10 + ci, n)) : zcE cs h a = .inr (ci, (List.range n).map (hF h a)) := by
  have k1 : (hK h a).1 = 10 + ci := by rw [k]
  have k2 : (hK h a).2 = n := by rw [k]
  unfold zcE
  rw [k1, k2]
  rw [if_neg (by omega), if_neg (by omega), if_neg (by omega), if_neg (by omega), if_neg (by omega), Nat.add_sub_cancel_left]
/-- the heap of the machine holds mine -/
def zHR (D : va_G) (cs : Nat → ClassId) (b : Nat) (h : mH) (H : Heap) : Prop := H.size = hN h ∧ b ≤ hN h ∧ ∀ a : Nat, (hK h a).1 ≠ 0 → b ≤ a ∧ a < hN h ∧ va_at D vwCl (a, zcE cs h a) H
theorem zHR.upd {D : va_G} {cs : Nat → ClassId} {b a : Nat} {h h' : mH} {H H1 : Heap} (hR : zHR D cs b h H) (n : hN h' = hN h) (k : hK h' = hK h) (z : H1.size = H.size) (oq : ∀ q : Nat, q ≠ a → H1[q]? = H[q]?) (he : va_at D vwCl (a, zcE cs h' a) H1) (ho : ∀ q : Nat, q ≠ a → zcE cs h' q = zcE cs h q) : zHR D cs b h' H1 := by
  refine ⟨by rw [z, n]; exact hR.1, by rw [n]; exact hR.2.1, fun q hq => ?_⟩
  rw [k] at hq
  obtain ⟨h1, h2, h3⟩ := hR.2.2 q hq
  refine ⟨h1, by rw [n]; exact h2, ?_⟩
  by_cases e : q = a
  · subst e; exact he
  · rw [ho q e]
    exact h3.kept (oq q e)
theorem zHR.new {D : va_G} {cs : Nat → ClassId} {b t n z : Nat} {f : Nat → Value} {h : mH} {H H1 : Heap} (hR : zHR D cs b h H) (z1 : H1.size = hN h + 1) (o1 : ∀ q : Nat, q < hN h → H1[q]? = H[q]?) (he : va_at D vwCl (hN h, zcE cs (aH h t n z f) (hN h)) H1) : zHR D cs b (aH h t n z f) H1 := by
  refine ⟨z1, Nat.le_trans hR.2.1 (Nat.le_succ _), fun q hq => ?_⟩
  by_cases e : q = hN h
  · subst e
    exact ⟨hR.2.1, Nat.lt_succ_self _, he⟩
  · have k : hK (aH h t n z f) q = hK h q := va_up_ne _ _ e
    rw [k] at hq
    obtain ⟨h1, h2, h3⟩ := hR.2.2 q hq
    refine ⟨h1, Nat.lt_succ_of_lt h2, ?_⟩
    have e2 : zcE cs (aH h t n z f) q = zcE cs h q := by
      have i1 : hI (aH h t n z f) q = hI h q := va_up_ne _ _ e
      have i2 : hJ (aH h t n z f) q = hJ h q := va_up_ne _ _ e
      have i3 : hF (aH h t n z f) q = hF h q := va_up_ne _ _ e
      unfold zcE
      rw [k, i1, i2, i3]
    rw [e2]
    exact h3.kept (o1 q h2)
theorem zcE_sI {cs : Nat → ClassId} {h : mH} {a q : Nat} {f : Nat → Int32} (e : q ≠ a) : zcE cs (sI h a f) q = zcE cs h q := by
  unfold zcE
  rw [hK_sI, hI_sI_ne h f e, hJ_sI, hF_sI]
theorem zcE_sJ {cs : Nat → ClassId} {h : mH} {a q : Nat} {f : Nat → Int64} (e : q ≠ a) : zcE cs (sJ h a f) q = zcE cs h q := by
  unfold zcE
  rw [hK_sJ, hJ_sJ_ne h f e, hI_sJ, hF_sJ]
theorem hF_sF_ne {h : mH} {a q k : Nat} {v : Value} (e : q ≠ a) : hF (sF h a k v) q = hF h q := va_up_ne _ _ e
theorem hF_sF_same {h : mH} {a k : Nat} {v : Value} : hF (sF h a k v) a = va_up (hF h a) k v := va_up_self _ _ _
theorem zcE_sF {cs : Nat → ClassId} {h : mH} {a q k : Nat} {v : Value} (e : q ≠ a) : zcE cs (sF h a k v) q = zcE cs h q := by
  unfold zcE
  rw [hK_sF, hF_sF_ne e, hI_sF, hJ_sF]
/-- locals: what is known of them -/
def zlo (L : mL) : List (Nat × Value) := (List.range L.length).filterMap fun i => match L[i]? with
  | some (some v) => some (i, v)
  | _ => none
theorem zlo_mem {L : mL} {i : Nat} {v : Value} : (i, v) ∈ zlo L ↔ L[i]? = some (some v) := by
  unfold zlo
  rw [List.mem_filterMap]
  constructor
  · intro ⟨j, _, hj⟩
    split at hj
    · next w hw =>
      cases hj
      exact hw
    · cases hj
  · intro h
    refine ⟨i, List.mem_range.mpr (List.getElem?_eq_some_iff.mp h).1, ?_⟩
    rw [h]
def zLR (L : mL) (ls : Array Slot) : Prop := lv_has ls L.length (zlo L)
theorem zLR.at {L : mL} {ls : Array Slot} (h : zLR L ls) {i : Nat} {v : Value} (e : L[i]? = some (some v)) : ls[i]? = some (.val v) := h.2.2 (i, v) (zlo_mem.mpr e)
theorem zLR.mk {L : mL} {ls : Array Slot} {n : Nat} {l : List (Nat × Value)} (h : lv_has ls n l) (hn : n = L.length) (hl : ∀ (i : Nat) (v : Value), L[i]? = some (some v) → (i, v) ∈ l) : zLR L ls := ⟨by rw [← hn]; exact h.1, h.2.1, fun q hq => h.2.2 q (hl q.1 q.2 (zlo_mem.mp hq))⟩
theorem zv_some {u : Option Value} {w : Value} (h : zv u = some w) : u = some w ∧ w.category = 1 := by
  cases u with
  | none => cases h
  | some x => cases x <;> first | (cases h; exact ⟨rfl, rfl⟩) | cases h
theorem zLR.st1 {L : mL} {ls : Array Slot} {k : Nat} {v : Value} (hk : k < L.length) (h : lv_has ls L.length ((k, v) :: (zlo L).filter (fun q => !(q.1 == k) && !(q.1 + 1 == k && q.2.category == 2)))) : zLR (zs1 L k v) ls := by
  refine zLR.mk h (by simp [zs1]) (fun i w hw => ?_)
  unfold zs1 at hw
  rw [List.getElem?_set] at hw
  by_cases e : k = i
  · subst e
    rw [if_pos rfl] at hw
    have hw : some v = some w := by
      have := hw
      simp [hk] at this
      rw [this]
    cases hw
    exact List.mem_cons_self
  · rw [if_neg e, List.getElem?_modify] at hw
    refine List.mem_cons_of_mem _ (List.mem_filter.mpr ?_)
    cases hL : L[i]? with
    | none => rw [hL] at hw; cases hw
    | some u =>
      rw [hL] at hw
      have hw : (if k - 1 = i then zv u else u) = some w := Option.some.inj hw
      by_cases q : k - 1 = i
      · rw [if_pos q] at hw
        obtain ⟨r1, r2⟩ := zv_some hw
        subst r1
        refine ⟨zlo_mem.mpr hL, ?_⟩
        have e' : ¬ i = k := fun x => e x.symm
        simp [e', r2]
      · rw [if_neg q] at hw
        subst hw
        refine ⟨zlo_mem.mpr hL, ?_⟩
        have e' : ¬ i = k := fun x => e x.symm
        have e2 : ¬ i + 1 = k := fun x => q (by omega)
        simp [e', e2]
theorem zLR.st2 {L : mL} {ls : Array Slot} {k : Nat} {v : Value} (hk : k + 1 < L.length) (h : lv_has ls L.length ((k, v) :: (zlo L).filter (fun q => !(q.1 == k) && (!(q.1 == k + 1) && !(q.1 + 1 == k && q.2.category == 2))))) : zLR (zs2 L k v) ls := by
  refine zLR.mk h (by simp [zs2]) (fun i w hw => ?_)
  unfold zs2 at hw
  rw [List.getElem?_set] at hw
  by_cases e0 : k + 1 = i
  · rw [if_pos e0] at hw
    split at hw <;> cases hw
  rw [if_neg e0, List.getElem?_set] at hw
  by_cases e : k = i
  · subst e
    rw [if_pos rfl] at hw
    have hw : some v = some w := by
      have := hw
      simp [show k < L.length by omega] at this
      rw [this]
    cases hw
    exact List.mem_cons_self
  · rw [if_neg e, List.getElem?_modify] at hw
    refine List.mem_cons_of_mem _ (List.mem_filter.mpr ?_)
    have e3 : ¬ i = k + 1 := fun x => e0 x.symm
    have e' : ¬ i = k := fun x => e x.symm
    cases hL : L[i]? with
    | none => rw [hL] at hw; cases hw
    | some u =>
      rw [hL] at hw
      have hw : (if k - 1 = i then zv u else u) = some w := Option.some.inj hw
      by_cases q : k - 1 = i
      · rw [if_pos q] at hw
        obtain ⟨r1, r2⟩ := zv_some hw
        subst r1
        refine ⟨zlo_mem.mpr hL, ?_⟩
        simp [e', e3, r2]
      · rw [if_neg q] at hw
        subst hw
        refine ⟨zlo_mem.mpr hL, ?_⟩
        have e2 : ¬ i + 1 = k := fun x => q (by omega)
        simp [e', e3, e2]
theorem zsl_len (vs : List Value) : (zsl vs).length = (lg_sl vs).length := by
  unfold zsl lg_sl
  induction vs with
  | nil => rfl
  | cons v t ih =>
    simp only [List.flatMap_cons, List.length_append, ih]
    split <;> rfl
theorem zsl_args (vs : List Value) : ∀ (o i : Nat) (v : Value), (zsl vs)[i]? = some (some v) → (o + i, v) ∈ lv_args o vs := by
  induction vs with
  | nil => intro o i v h; cases h
  | cons u t ih =>
    intro o i v h
    unfold zsl at h
    rw [List.flatMap_cons] at h
    have ih' : ∀ (o i : Nat) (v : Value), (List.flatMap (fun v : Value => if v.category = 2 then [some v, none] else [some v]) t)[i]? = some (some v) → (o + i, v) ∈ lv_args o t := ih
    by_cases c : u.category = 2
    · rw [if_pos c] at h
      match i, h with
      | 0, h =>
        have h : some u = some v := Option.some.inj h
        cases h
        unfold lv_args
        exact List.mem_cons_self
      | 1, h => cases h
      | i + 2, h =>
        have := ih' (o + 2) i v h
        unfold lv_args
        refine List.mem_cons_of_mem _ ?_
        rw [c, show o + (i + 2) = o + 2 + i by omega]
        exact this
    · rw [if_neg c] at h
      have c1 : u.category = 1 := by cases u <;> first | rfl | exact absurd rfl c
      match i, h with
      | 0, h =>
        have h : some u = some v := Option.some.inj h
        cases h
        unfold lv_args
        exact List.mem_cons_self
      | i + 1, h =>
        have := ih' (o + 1) i v h
        unfold lv_args
        refine List.mem_cons_of_mem _ ?_
        rw [c1, show o + (i + 1) = o + 1 + i by omega]
        exact this
theorem zLR.entry {M : Nat} {vs : List Value} (h : (zsl vs).length ≤ zmx M) : zLR (zen M vs) ((lg_sl vs ++ List.replicate (zmx M - (lg_sl vs).length) Slot.unset).toArray) := by
  have hl := lv_entry vs (n := zmx M) (by rw [← zsl_len]; exact h)
  refine zLR.mk hl (by unfold zen; rw [List.length_append, List.length_replicate]; omega) (fun i v hi => ?_)
  unfold zen at hi
  have : (zsl vs)[i]? = some (some v) := by
    rw [List.getElem?_append] at hi
    split at hi
    · exact hi
    · rw [List.getElem?_replicate] at hi
      split at hi <;> cases hi
  have := zsl_args vs 0 i v this
  rw [Nat.zero_add] at this
  exact this
