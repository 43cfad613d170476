/-! ===== the calls that ask, and drop, lose: good ===== -/
section
variable {E : mE} {d : Nat} {h h1 h2 : mH} {b : Nat}
theorem good0 {o : Nat → Nat} {z : Nat → Option Nat} {kc km : Nat} {as : List Value} (R : Rel b o z h) (p : Op E d b kc km as h h) : Good E d b kc km as h := ⟨h, o, z, p, R, sameF_refl⟩
theorem good_kinds {o : Nat → Nat} {z : Nat → Option Nat} {q : Int32} (R : Rel b o z h) : Good E (d + 9) b kX3_kinds kX4_kinds [.int q] h := by
  obtain ⟨h2, p, c⟩ := op_kinds (E := E) (d := d) (q := q) R
  rcases c with rfl | ⟨f, g, rfl⟩
  · exact good0 R p
  · exact ⟨_, o, z, p, Rel_scr g (Rel_scr f R (by omega)) (by omega), sameF_trans (sameF_sI _ (by omega)) (sameF_sI _ (by omega))⟩
theorem good_drop {o : Nat → Nat} {z : Nat → Option Nat} {q : Int32} (R : Rel b o z h) : Good E (d + 9) b kX3_drop kX4_drop [.int q] h := by
  obtain ⟨h2, p, c⟩ := op_drop (E := E) (d := d) (q := q) R
  rcases c with rfl | ⟨k, hk, rfl⟩
  · exact good0 R p
  · exact ⟨_, _, z, p, Rel_ord R hk, sameF_trans (sameF_sF _ (by unfold aQ; omega) (by unfold aQ; omega) (by unfold aQ; omega)) (sameF_sI _ (by omega))⟩
theorem good_lose {o : Nat → Nat} {z : Nat → Option Nat} {q : Int32} (R : Rel b o z h) : Good E (d + 9) b kX3_lose kX4_lose [.int q] h := by
  obtain ⟨h2, p, c⟩ := op_lose (E := E) (d := d) (q := q) R
  rcases c with rfl | rfl | ⟨k, hk, rfl⟩
  · exact good0 R p
  · exact ⟨_, o, z, p, Rel_blame R (by decide), sameF_trans sameF_blm sameF_mts⟩
  · exact ⟨_, o, _, p, Rel_lose R hk, sameF_trans (sameF_sF _ (by unfold aS; omega) (by unfold aS; omega) (by unfold aS; omega)) (sameF_sI _ (by omega))⟩
end
