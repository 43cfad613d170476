/-! ===== the class holds and seeks ===== -/
section
variable {E : mE} {d : Nat} {h h1 h2 : mH} {b : Nat}
/-- the first i numbers of a sheet can be held -/
def hokP (r : Nat → Int32) (N i : Nat) : Prop := ∀ j, j < i → r j = 0 ∨ ∃ v, 1 ≤ v ∧ v ≤ N ∧ r j = nI v ∧ ∀ k, k < j → r k ≠ r j
/-- a held number -/
def hdv (r : Nat → Int32) (p : Nat) : Nat := (r p).toInt.toNat
theorem hdv_ok {r : Nat → Int32} {N : Nat} (hN : N ≤ 16) (H : hokP r N N) : ∀ p, p < N → r p = nI (hdv r p) ∧ hdv r p ≤ N := fun p hp => by
  unfold hdv
  rcases H p hp with q | ⟨v, v1, v2, e, _⟩
  · rw [q]
    exact ⟨rfl, Nat.zero_le _⟩
  · rw [e, nIt (by omega)]
    exact ⟨rfl, v2⟩
theorem hokP_HD {r : Nat → Int32} {n : Nat} (hn : 1 ≤ n ∧ n ≤ 4) (H : hokP r (n * n) (n * n)) : HD n (hdv r) := by
  have nn : n * n ≤ 16 := Nat.mul_le_mul hn.2 hn.2
  have hv := hdv_ok nn H
  refine ⟨fun p hp => (hv p hp).2, ?_⟩
  have key : ∀ p q, p < q → q < n * n → hdv r q ≠ 0 → hdv r p ≠ hdv r q := fun p q hpq hq h0 e => by
    have h1 := hv p (by omega)
    have h2 := hv q hq
    rcases H q hq with c | ⟨v, v1, v2, ev, ne⟩
    · apply h0
      unfold hdv
      rw [c]
      rfl
    · apply ne p hpq
      rw [h1.1, h2.1, e]
  intro p q hp hq hne h0 e
  rcases Nat.lt_or_gt_of_ne hne with l | l
  · exact key p q l hq (e ▸ h0) e
  · exact key q p l hp h0 e.symm
def hoh (h : mH) (b : Nat) (r : Nat → Int32) (g : Nat → Int32) (u : Int32) (i : Nat) : mH := sI (sF h (b + 8) 9 (.int u)) (b + 11) (rw_ r g i)
theorem lp_hold {n s N : Nat} {r g : Nat → Int32} (L : Lay b h) (hs : s < 4) (hN : N = n * n) (hN16 : N ≤ 16) (c6 : hF h (b + 8) 6 = .int (nI N)) (er : r = hI h (aT b s)) : ∀ (k i : Nat) (u : Int32) (v3 : Option Value), i + k = N → hokP r N i → (∀ v, 1 ≤ v → v ≤ N → (ub u v ↔ ∀ j, j < i → r j ≠ nI v)) → (hokP r N N ∧ ∃ u', (∀ v, 1 ≤ v → v ≤ N → (ub u' v ↔ ∀ j, j < N → r j ≠ nI v)) ∧ zl E (d + 1) kX0_hold 2 [some (.ref (b + 8)), some (.ref (aS b s)), some (.int (nI i)), v3] [] (hoh h b r g u i) = some (some (.int 1), hoh h b r g u' N)) ∨ (¬ hokP r N N ∧ ∃ u' i', zl E (d + 1) kX0_hold 2 [some (.ref (b + 8)), some (.ref (aS b s)), some (.int (nI i)), v3] [] (hoh h b r g u i) = some (some (.int 0), hoh h b r g u' i'))
  | 0, i, u, v3, e, H, U => by
    have : i = N := by omega
    subst this
    refine Or.inl ⟨H, u, U, ?_⟩
    have LH : Lay b (hoh h b r g u i) := (L.sF 8 9 _ (by decide +kernel)).sI _ _
    have c6' : hF (hoh h b r g u i) (b + 8) 6 = .int (nI i) := by unfold hoh; rw [hF_sI, hF_sF, if_neg (by omega)]; exact c6
    rw [s_X0_hold_2]
    simp (decide := true) only [s_X0_hold_0, s_X0_hold_1, s_X0_hold_3, s_X0_hold_4, s_X0_hold_7, s_X0_hold_10, s_X0_hold_11, s_X0_hold_12, s_X0_hold_15, s_X0_hold_16, s_X0_hold_19, s_X0_hold_20, s_X0_hold_23, s_X0_hold_24, s_X0_hold_25, s_X0_hold_26, s_X0_hold_27, s_X0_hold_30, s_X0_hold_31, s_X0_hold_32, s_X0_hold_33, s_X0_hold_34, s_X0_hold_37, s_X0_hold_38, s_X0_hold_39, s_X0_hold_42, s_X0_hold_45, s_X0_hold_46, s_X0_hold_47, s_X0_hold_48, s_X0_hold_49, s_X0_hold_52, s_X0_hold_53, s_X0_hold_54, s_X0_hold_55, s_X0_hold_56, s_X0_hold_59, s_X0_hold_62, s_X0_hold_65, s_X0_hold_66, if_true, if_false, and_true, true_and, and_false, false_and, true_or, or_true, or_false, false_or, eq_self, not_true_eq_false, not_false_eq_true, zv_int, zv_ref, zv_null, zv_none, hK_sI, hF_sI, hJ_sI, hN_sI, hZ_sI, hI_sI_same, hK_sJ, hF_sJ, hI_sJ, hN_sJ, hZ_sJ, hJ_sJ_same, hK_sF, hI_sF, hJ_sF, hN_sF, hZ_sF, Option.bind_some, Option.toList_some, Option.toList_none, List.cons_append, List.nil_append, zq_ref, zq_null, LH.k8, c6', Int32.le_refl]
  | k + 1, i, u, v3, e, H, U => by
    have LH : Lay b (hoh h b r g u i) := (L.sF 8 9 _ (by decide +kernel)).sI _ _
    have c6' : hF (hoh h b r g u i) (b + 8) 6 = .int (nI N) := by unfold hoh; rw [hF_sI, hF_sF, if_neg (by omega)]; exact c6
    have rT : hI (hoh h b r g u i) (aT b s) = r := by unfold hoh; rw [hI_sI_ne _ _ (by unfold aT; omega), hI_sF, er]
    have q1 : ¬ nI N ≤ nI i := nI_ge (by omega) (by omega)
    have q2 : ¬ nI 16 ≤ nI i := nI_ge (by omega) (by omega)
    have z0 : zR (nI i) 150 := zR_to (by decide) (by omega)
    have z1 : (nI i).toNatClampNeg = i := nI_clamp (by omega)
    have z2 : zR (nI i) 16 := zR_to (by decide) (by omega)
    have h11 : hI (hoh h b r g u i) (b + 11) = rw_ r g i := by unfold hoh; rw [hI_sI_same]
    have st1 : sI (hoh h b r g u i) (b + 11) (upd (rw_ r g i) i (r i)) = hoh h b r g u (i + 1) := by
      unfold hoh
      rw [sI_sI, rw_s r]
    have LS : Lay b (hoh h b r g u (i + 1)) := (L.sF 8 9 _ (by decide +kernel)).sI _ _
    have c6s : hF (hoh h b r g u (i + 1)) (b + 8) 6 = .int (nI N) := by unfold hoh; rw [hF_sI, hF_sF, if_neg (by omega)]; exact c6
    have c9s : hF (hoh h b r g u (i + 1)) (b + 8) 9 = .int u := by unfold hoh; rw [hF_sI, hF_sF, if_pos ⟨rfl, rfl⟩]
    by_cases c0 : r i = 0
    · have ih := lp_hold (g := g) L hs hN hN16 c6 er k (i + 1) u (some (.int (r i))) (by omega) (fun j hj => by
        by_cases cj : j = i
        · rw [cj]; exact Or.inl c0
        · exact H j (by omega)) (fun v v1 v2 => by
        rw [U v v1 v2]
        constructor
        · intro q j hj
          by_cases cj : j = i
          · rw [cj, c0]
            exact fun e => nI_ne0 (n := v) (by omega) (by omega) e.symm
          · exact q j (by omega)
        · exact fun q j hj => q j (by omega))
      have step : zl E (d + 1) kX0_hold 2 [some (.ref (b + 8)), some (.ref (aS b s)), some (.int (nI i)), v3] [] (hoh h b r g u i) = zl E (d + 1) kX0_hold 2 [some (.ref (b + 8)), some (.ref (aS b s)), some (.int (nI (i + 1))), some (.int (r i))] [] (hoh h b r g u (i + 1)) := by
        rw [s_X0_hold_2]
        simp (decide := true) only [s_X0_hold_0, s_X0_hold_1, s_X0_hold_3, s_X0_hold_4, s_X0_hold_7, s_X0_hold_10, s_X0_hold_11, s_X0_hold_12, s_X0_hold_15, s_X0_hold_16, s_X0_hold_19, s_X0_hold_20, s_X0_hold_23, s_X0_hold_24, s_X0_hold_25, s_X0_hold_26, s_X0_hold_27, s_X0_hold_30, s_X0_hold_31, s_X0_hold_32, s_X0_hold_33, s_X0_hold_34, s_X0_hold_37, s_X0_hold_38, s_X0_hold_39, s_X0_hold_42, s_X0_hold_45, s_X0_hold_46, s_X0_hold_47, s_X0_hold_48, s_X0_hold_49, s_X0_hold_52, s_X0_hold_53, s_X0_hold_54, s_X0_hold_55, s_X0_hold_56, s_X0_hold_59, s_X0_hold_62, s_X0_hold_65, s_X0_hold_66, if_true, if_false, and_true, true_and, and_false, false_and, true_or, or_true, or_false, false_or, eq_self, not_true_eq_false, not_false_eq_true, zv_int, zv_ref, zv_null, zv_none, hK_sI, hF_sI, hJ_sI, hN_sI, hZ_sI, hI_sI_same, hK_sJ, hF_sJ, hI_sJ, hN_sJ, hZ_sJ, hJ_sJ_same, hK_sF, hI_sF, hJ_sF, hN_sF, hZ_sF, Option.bind_some, Option.toList_some, Option.toList_none, List.cons_append, List.nil_append, zq_ref, zq_null, LH.k8, LH.p8_1, LH.k11, LH.kS hs, LH.pS hs, LH.kT hs, c6', rT, q1, q2, z0, z1, z2, h11, st1, c0, nI_1]
        rw [c0] at st1
        rw [st1]
      rw [step]
      exact ih
    · have eF := c_X0_isFree (E := E) (d := d) (x := r i) LS.k8 c6s c9s
      cases ef : fre (nI N) u (r i) with
      | false =>
        rw [ef] at eF
        refine Or.inr ⟨fun Q => ?_, u, i + 1, ?_⟩
        · rcases Q i (by omega) with c | ⟨v, v1, v2, ev, ne⟩
          · exact c0 c
          · rw [ev] at ef
            unfold fre at ef
            have a1 : ¬ nI v < 1 := nI_nlt (a := v) (b := 1) v1 (by omega)
            have a2 : ¬ nI N < nI v := nI_nlt v2 (by omega)
            have a3 : u &&& (1 <<< (nI v &&& 31)) = 0 := (U v v1 v2).mpr (fun j hj q => ne j hj (by rw [q, ev]))
            simp only [a1, a2, a3, not_false_eq_true, decide_true, Bool.and_self] at ef
            cases ef
        · rw [s_X0_hold_2]
          simp (decide := true) only [s_X0_hold_0, s_X0_hold_1, s_X0_hold_3, s_X0_hold_4, s_X0_hold_7, s_X0_hold_10, s_X0_hold_11, s_X0_hold_12, s_X0_hold_15, s_X0_hold_16, s_X0_hold_19, s_X0_hold_20, s_X0_hold_23, s_X0_hold_24, s_X0_hold_25, s_X0_hold_26, s_X0_hold_27, s_X0_hold_30, s_X0_hold_31, s_X0_hold_32, s_X0_hold_33, s_X0_hold_34, s_X0_hold_37, s_X0_hold_38, s_X0_hold_39, s_X0_hold_42, s_X0_hold_45, s_X0_hold_46, s_X0_hold_47, s_X0_hold_48, s_X0_hold_49, s_X0_hold_52, s_X0_hold_53, s_X0_hold_54, s_X0_hold_55, s_X0_hold_56, s_X0_hold_59, s_X0_hold_62, s_X0_hold_65, s_X0_hold_66, if_true, if_false, and_true, true_and, and_false, false_and, true_or, or_true, or_false, false_or, eq_self, not_true_eq_false, not_false_eq_true, zv_int, zv_ref, zv_null, zv_none, hK_sI, hF_sI, hJ_sI, hN_sI, hZ_sI, hI_sI_same, hK_sJ, hF_sJ, hI_sJ, hN_sJ, hZ_sJ, hJ_sJ_same, hK_sF, hI_sF, hJ_sF, hN_sF, hZ_sF, Option.bind_some, Option.toList_some, Option.toList_none, List.cons_append, List.nil_append, zq_ref, zq_null, LH.k8, LH.p8_1, LH.k11, LH.kS hs, LH.pS hs, LH.kT hs, c6', rT, q1, q2, z0, z1, z2, h11, st1, eq_false c0, LS.k8, eF]
      | true =>
        rw [ef] at eF
        unfold fre at ef
        rw [Bool.and_eq_true, Bool.and_eq_true, decide_eq_true_iff, decide_eq_true_iff, decide_eq_true_iff] at ef
        obtain ⟨v, v1, v2, ev⟩ : ∃ v, 1 ≤ v ∧ v ≤ N ∧ r i = nI v := by
          rcases rng1 (N := N) (by omega) (r i) with q | q
          · exact absurd q (fun q => q.elim ef.1 ef.2.1)
          · exact q
        have uv : ub u v := by
          have := ef.2.2
          rw [ev] at this
          exact this
        have nw := (U v v1 v2).mp uv
        have ih := lp_hold (g := g) L hs hN hN16 c6 er k (i + 1) (u ||| (1 <<< (nI v &&& 31))) (some (.int (r i))) (by omega) (fun j hj => by
          by_cases cj : j = i
          · rw [cj]
            exact Or.inr ⟨v, v1, v2, ev, fun k hk => by rw [ev]; exact nw k hk⟩
          · exact H j (by omega)) (fun w w1 w2 => by
          rw [ub_or (by omega) (by omega), U w w1 w2]
          constructor
          · rintro ⟨q, ne⟩ j hj
            by_cases cj : j = i
            · rw [cj, ev]
              exact fun e => ne ((nI_eq (by omega) (by omega)).mp e).symm
            · exact q j (by omega)
          · intro q
            refine ⟨fun j hj => q j (by omega), fun e => ?_⟩
            have := q i (by omega)
            rw [ev, e] at this
            exact this rfl)
        have stU : sF (hoh h b r g u (i + 1)) (b + 8) 9 (.int (u ||| (1 <<< (r i &&& 31)))) = hoh h b r g (u ||| (1 <<< (nI v &&& 31))) (i + 1) := by
          unfold hoh
          rw [ev]
          exact sF_sI_sF _ _ _ _ _ _ _
        have step : zl E (d + 1) kX0_hold 2 [some (.ref (b + 8)), some (.ref (aS b s)), some (.int (nI i)), v3] [] (hoh h b r g u i) = zl E (d + 1) kX0_hold 2 [some (.ref (b + 8)), some (.ref (aS b s)), some (.int (nI (i + 1))), some (.int (r i))] [] (hoh h b r g (u ||| (1 <<< (nI v &&& 31))) (i + 1)) := by
          rw [s_X0_hold_2]
          simp (decide := true) only [s_X0_hold_0, s_X0_hold_1, s_X0_hold_3, s_X0_hold_4, s_X0_hold_7, s_X0_hold_10, s_X0_hold_11, s_X0_hold_12, s_X0_hold_15, s_X0_hold_16, s_X0_hold_19, s_X0_hold_20, s_X0_hold_23, s_X0_hold_24, s_X0_hold_25, s_X0_hold_26, s_X0_hold_27, s_X0_hold_30, s_X0_hold_31, s_X0_hold_32, s_X0_hold_33, s_X0_hold_34, s_X0_hold_37, s_X0_hold_38, s_X0_hold_39, s_X0_hold_42, s_X0_hold_45, s_X0_hold_46, s_X0_hold_47, s_X0_hold_48, s_X0_hold_49, s_X0_hold_52, s_X0_hold_53, s_X0_hold_54, s_X0_hold_55, s_X0_hold_56, s_X0_hold_59, s_X0_hold_62, s_X0_hold_65, s_X0_hold_66, if_true, if_false, and_true, true_and, and_false, false_and, true_or, or_true, or_false, false_or, eq_self, not_true_eq_false, not_false_eq_true, zv_int, zv_ref, zv_null, zv_none, hK_sI, hF_sI, hJ_sI, hN_sI, hZ_sI, hI_sI_same, hK_sJ, hF_sJ, hI_sJ, hN_sJ, hZ_sJ, hJ_sJ_same, hK_sF, hI_sF, hJ_sF, hN_sF, hZ_sF, Option.bind_some, Option.toList_some, Option.toList_none, List.cons_append, List.nil_append, zq_ref, zq_null, LH.k8, LH.p8_1, LH.k11, LH.kS hs, LH.pS hs, LH.kT hs, c6', rT, q1, q2, z0, z1, z2, h11, st1, eq_false c0, LS.k8, eF, c9s, zfit, stU, nI_1]
        rw [step]
        exact ih
end
