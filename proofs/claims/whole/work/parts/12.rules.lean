/-! ===== equations of my machine, an instruction each ===== -/
section
variable {E : mE} {d M pc len : Nat} {L L' : mL} {S S' : List Value} {h h' : mH} {i : Instr}
def zR (x : Int32) (n : Nat) : Prop := 0 ≤ x ∧ x.toNatClampNeg < n
theorem zR_iff {x : Int32} {n : Nat} : zin_ x n = true ↔ zR x n := by
  unfold zin_ zR
  rw [Bool.and_eq_true, decide_eq_true_eq, decide_eq_true_eq]
theorem zR_no {x : Int32} {n : Nat} (q : ¬ zR x n) : zin_ x n = false := by
  cases hz : zin_ x n with
  | false => rfl
  | true => exact absurd (zR_iff.mp hz) q
theorem zR_n {k n : Nat} (hk : k < 2 ^ 31) : zR (nI k) n ↔ k < n := by
  unfold zR
  rw [nI_clamp hk]
  exact ⟨fun q => q.2, fun q => ⟨nI_pos' hk, q⟩⟩
theorem zR_to {k n : Nat} (hn : n < 2 ^ 31) (hk : k < n) : zR (nI k) n := (zR_n (by omega)).mpr hk
theorem stp_of {C : Nat → List Value → mH → Option mR} {x : mF} (hd : decode (zcod M) pc = .ok (i, len)) (hl : (ztsw i || Nat.beq len (zlen i)) = true) (hr : zrti i = false) (hx : ins E C M i pc (pc + zlen i) L S h = .inl x) : stp E C M (pc, L, S, h) = .inl x := by
  unfold stp
  dsimp only
  rw [hd]
  dsimp only
  rw [hl, hr, hx]
  rfl
theorem stp_no {C : Nat → List Value → mH → Option mR} (hd : decode (zcod M) pc = .ok (i, len)) (hl : (ztsw i || Nat.beq len (zlen i)) = true) (hr : zrti i = false) (hx : ins E C M i pc (pc + zlen i) L S h = .inr none) : stp E C M (pc, L, S, h) = .inr none := by
  unfold stp
  dsimp only
  rw [hd]
  dsimp only
  rw [hl, hr, hx]
  rfl
theorem stp_re {C : Nat → List Value → mH → Option mR} {x : Option mR} (hd : decode (zcod M) pc = .ok (i, len)) (hl : (ztsw i || Nat.beq len (zlen i)) = true) (hr : zrti i = true) (hx : ins E C M i pc (pc + zlen i) L S h = .inr x) : stp E C M (pc, L, S, h) = .inr x := by
  unfold stp
  dsimp only
  rw [hd]
  dsimp only
  rw [hl, hr, hx]
  rfl
/-- any instruction whose step is plain -/
theorem r1 {pc' : Nat} (hd : decode (zcod M) pc = .ok (i, len)) (hl : (ztsw i || Nat.beq len (zlen i)) = true) (hr : zrti i = false) (hx : ins E (cal E d) M i pc (pc + zlen i) L S h = .inl (pc', L', S', h')) : zl E d M pc L S h = zl E d M pc' L' S' h' := lim_next (stp_of hd hl hr hx)
theorem r0 (hd : decode (zcod M) pc = .ok (i, len)) (hl : (ztsw i || Nat.beq len (zlen i)) = true) (hr : zrti i = false) (hx : ins E (cal E d) M i pc (pc + zlen i) L S h = .inr none) : zl E d M pc L S h = none := lim_end (stp_no hd hl hr hx)
theorem r_iconst {n : Int} {v : Int32} (hd : decode (zcod M) pc = .ok (.iconst n, 1)) (hv : Int32.ofInt n = v) : zl E d M pc L S h = zl E d M (pc + 1) L (.int v :: S) h := r1 hd rfl rfl (by subst hv; rfl)
theorem r_bipush {n : Int} {v : Int32} (hd : decode (zcod M) pc = .ok (.bipush n, 2)) (hv : (Int8.ofInt n).toInt32 = v) : zl E d M pc L S h = zl E d M (pc + 2) L (.int v :: S) h := r1 hd rfl rfl (by subst hv; rfl)
theorem r_sipush {n : Int} {v : Int32} (hd : decode (zcod M) pc = .ok (.sipush n, 3)) (hv : (Int16.ofInt n).toInt32 = v) : zl E d M pc L S h = zl E d M (pc + 3) L (.int v :: S) h := r1 hd rfl rfl (by subst hv; rfl)
theorem r_lconst {n : Fin 2} {v : Int64} (hd : decode (zcod M) pc = .ok (.lconst n, 1)) (hv : Int64.ofNat (n : Nat) = v) : zl E d M pc L S h = zl E d M (pc + 1) L (.long v :: S) h := r1 hd rfl rfl (by subst hv; rfl)
theorem r_ldc {k o pl : Nat} {v : Int32} (hd : decode (zcod M) pc = .ok (.ldc k, 2)) (ho : zow M = o) (hq : zlk o k zct = some (v, pl)) : zl E d M pc L S h = zl E d M (pc + 2) L (.int v :: S) h := r1 hd rfl rfl (by
  simp only [ins, i_ldc, zlen, ho, hq, cond_true, cond_false])
theorem r_ldc2 {k o pl : Nat} {v : Int64} (hd : decode (zcod M) pc = .ok (.ldc2_w k, 3)) (ho : zow M = o) (hq : zlk o k zdt = some (v, pl)) : zl E d M pc L S h = zl E d M (pc + 3) L (.long v :: S) h := r1 hd rfl rfl (by
  simp only [ins, i_ldc2, zlen, ho, hq, cond_true, cond_false])
theorem r_iinc {k : Nat} {n : Int} {x v : Int32} (hd : decode (zcod M) pc = .ok (.iinc k n, 3)) (hx : L[k]? = some (some (.int x))) (hv : Int32.ofInt n = v) (hL : zs1 L k (.int (x + v)) = L') : zl E d M pc L S h = zl E d M (pc + 3) L' S h := r1 hd rfl rfl (by
  simp only [ins, i_inc, zlen, hx, hv, hL, cond_true, cond_false])
theorem r_goto {off : Int} {t : Nat} (hd : decode (zcod M) pc = .ok (.goto off, 3)) (ht : zt pc off = some t) : zl E d M pc L S h = zl E d M t L S h := r1 hd rfl rfl (by
  show zgo pc off L S h = _
  unfold zgo; rw [ht])
theorem r_if2 {cd : Jvm.ClassFile.Cond} {off : Int} {t : Nat} {x y : Int32} (P : Prop) [Decidable P] (hP : zcm cd x y = decide P) (hd : decode (zcod M) pc = .ok (.if_icmp cd off, 3)) (ht : zt pc off = some t) : zl E d M pc L (.int y :: .int x :: S) h = if P then zl E d M t L S h else zl E d M (pc + 3) L S h := by
  rw [r1 (L' := L) (S' := S) (h' := h) (pc' := bif zcm cd x y then t else pc + 3) hd rfl rfl (by
    simp only [ins, i_if2, zlen, ht, cond_true, cond_false])]
  rw [hP]
  by_cases q : P
  · rw [if_pos q, decide_eq_true q]; rfl
  · rw [if_neg q, decide_eq_false q]; rfl
theorem r_if1 {cd : Jvm.ClassFile.Cond} {off : Int} {t : Nat} {x : Int32} (P : Prop) [Decidable P] (hP : zcm cd x 0 = decide P) (hd : decode (zcod M) pc = .ok (.ifCond cd off, 3)) (ht : zt pc off = some t) : zl E d M pc L (.int x :: S) h = if P then zl E d M t L S h else zl E d M (pc + 3) L S h := by
  rw [r1 (L' := L) (S' := S) (h' := h) (pc' := bif zcm cd x 0 then t else pc + 3) hd rfl rfl (by
    simp only [ins, i_if1, zlen, ht, cond_true, cond_false])]
  rw [hP]
  by_cases q : P
  · rw [if_pos q, decide_eq_true q]; rfl
  · rw [if_neg q, decide_eq_false q]; rfl
theorem r_nulN {off : Int} {t : Nat} (hd : decode (zcod M) pc = .ok (.ifnull off, 3)) (ht : zt pc off = some t) : zl E d M pc L (.null :: S) h = zl E d M t L S h := r1 hd rfl rfl (by
  simp only [ins, i_nul, zlen, ht, cond_true, cond_false])
theorem r_nulR {off : Int} {t a : Nat} (hd : decode (zcod M) pc = .ok (.ifnull off, 3)) (ht : zt pc off = some t) : zl E d M pc L (.ref a :: S) h = zl E d M (pc + 3) L S h := r1 hd rfl rfl (by
  simp only [ins, i_nul, zlen, ht, cond_true, cond_false])
theorem r_nonN {off : Int} {t : Nat} (hd : decode (zcod M) pc = .ok (.ifnonnull off, 3)) (ht : zt pc off = some t) : zl E d M pc L (.null :: S) h = zl E d M (pc + 3) L S h := r1 hd rfl rfl (by
  simp only [ins, i_nul, zlen, ht, cond_true, cond_false])
theorem r_nonR {off : Int} {t a : Nat} (hd : decode (zcod M) pc = .ok (.ifnonnull off, 3)) (ht : zt pc off = some t) : zl E d M pc L (.ref a :: S) h = zl E d M t L S h := r1 hd rfl rfl (by
  simp only [ins, i_nul, zlen, ht, cond_true, cond_false])
theorem r_tswIn {df lo hi o : Int} {offs : Array Int} {t : Nat} {x : Int32} (hd : decode (zcod M) pc = .ok (.tableswitch df lo hi offs, len)) (h1 : ¬ (x.toInt < lo ∨ hi < x.toInt)) (h2 : offs[(x.toInt - lo).toNat]? = some o) (ht : zt pc o = some t) : zl E d M pc L (.int x :: S) h = zl E d M t L S h := r1 hd rfl rfl (by
  simp only [ins, i_tsw, zgo, zlen, if_neg h1, h2, ht, cond_true, cond_false])
theorem r_tswOut {df lo hi : Int} {offs : Array Int} {t : Nat} {x : Int32} (hd : decode (zcod M) pc = .ok (.tableswitch df lo hi offs, len)) (h1 : x.toInt < lo ∨ hi < x.toInt) (ht : zt pc df = some t) : zl E d M pc L (.int x :: S) h = zl E d M t L S h := r1 hd rfl rfl (by
  simp only [ins, i_tsw, zgo, zlen, if_pos h1, ht, cond_true, cond_false])
theorem r_div {x y : Int32} (hd : decode (zcod M) pc = .ok (.idiv, 1)) : zl E d M pc L (.int y :: .int x :: S) h = if y = 0 then none else zl E d M (pc + 1) L (.int (x / y) :: S) h := by
  by_cases q : y = 0
  · rw [if_pos q]
    exact r0 hd rfl rfl (if_pos q)
  · rw [if_neg q]
    exact r1 hd rfl rfl (if_neg q)
theorem r_rem {x y : Int32} (hd : decode (zcod M) pc = .ok (.irem, 1)) : zl E d M pc L (.int y :: .int x :: S) h = if y = 0 then none else zl E d M (pc + 1) L (.int (x - x / y * y) :: S) h := by
  by_cases q : y = 0
  · rw [if_pos q]
    exact r0 hd rfl rfl (if_pos q)
  · rw [if_neg q]
    exact r1 hd rfl rfl (if_neg q)
theorem r_ialdg {x : Int32} {a n : Nat} {f : Nat → Int32} (hd : decode (zcod M) pc = .ok (.iaload, 1)) (hf : zir E h a = some (n, f)) : zl E d M pc L (.int x :: .ref a :: S) h = @ite _ (zR x n) (Classical.propDecidable _) (zl E d M (pc + 1) L (.int (f x.toNatClampNeg) :: S) h) none := by
  by_cases q : zR x n
  · rw [if_pos q]
    exact r1 hd rfl rfl (by
      simp only [ins, i_iald, zlen, hf, zR_iff.mpr q, cond_true, cond_false])
  · rw [if_neg q]
    exact r0 hd rfl rfl (by
      simp only [ins, i_iald, zlen, hf, zR_no q, cond_true, cond_false])
theorem r_iald {x : Int32} {a : Nat} (hd : decode (zcod M) pc = .ok (.iaload, 1)) (hk : (hK h a).1 = 1) (q : zR x (hK h a).2) : zl E d M pc L (.int x :: .ref a :: S) h = zl E d M (pc + 1) L (.int (hI h a x.toNatClampNeg) :: S) h := by
  rw [r_ialdg hd (show zir E h a = some ((hK h a).2, hI h a) from if_pos hk), if_pos q]
theorem r_iald6 {x : Int32} {a n : Nat} {f : Nat → Int32} (hd : decode (zcod M) pc = .ok (.iaload, 1)) (hk : (hK h a).1 = 0) (hf : E.2 a = some (n, f)) (q : zR x n) : zl E d M pc L (.int x :: .ref a :: S) h = zl E d M (pc + 1) L (.int (f x.toNatClampNeg) :: S) h := by
  rw [r_ialdg hd (show zir E h a = some (n, f) by unfold zir; rw [if_neg (by rw [hk]; decide), if_pos hk]; exact hf), if_pos q]
theorem r_lald {x : Int32} {a : Nat} (hd : decode (zcod M) pc = .ok (.laload, 1)) (hk : (hK h a).1 = 2) (q : zR x (hK h a).2) : zl E d M pc L (.int x :: .ref a :: S) h = zl E d M (pc + 1) L (.long (hJ h a x.toNatClampNeg) :: S) h := r1 hd rfl rfl (by
  simp only [ins, i_lald, zlen, if_pos hk, zR_iff.mpr q, cond_true, cond_false])
theorem r_zald {x : Int32} {a : Nat} (hd : decode (zcod M) pc = .ok (.baload, 1)) (hk : (hK h a).1 = 3) (q : zR x (hK h a).2) : zl E d M pc L (.int x :: .ref a :: S) h = zl E d M (pc + 1) L (.int (hI h a x.toNatClampNeg) :: S) h := r1 hd rfl rfl (by
  simp only [ins, i_zald, zlen, if_pos hk, zR_iff.mpr q, cond_true, cond_false])
theorem r_aald {x : Int32} {a : Nat} (hd : decode (zcod M) pc = .ok (.aaload, 1)) (hk : (hK h a).1 = 4 ∨ (hK h a).1 = 5) (q : zR x (hK h a).2) : zl E d M pc L (.int x :: .ref a :: S) h = zl E d M (pc + 1) L (zq (hF h a x.toNatClampNeg) :: S) h := r1 hd rfl rfl (by
  simp only [ins, i_aald, zlen, if_pos hk, zR_iff.mpr q, cond_true, cond_false])
theorem r_iast {x y : Int32} {a : Nat} (hd : decode (zcod M) pc = .ok (.iastore, 1)) (hk : (hK h a).1 = 1) (q : zR x (hK h a).2) : zl E d M pc L (.int y :: .int x :: .ref a :: S) h = zl E d M (pc + 1) L S (sI h a (upd (hI h a) x.toNatClampNeg y)) := r1 hd rfl rfl (by
  simp only [ins, i_iast, zlen, if_pos hk, zR_iff.mpr q, cond_true, cond_false])
theorem r_zast {x y : Int32} {a : Nat} (hd : decode (zcod M) pc = .ok (.bastore, 1)) (hk : (hK h a).1 = 3) (q : zR x (hK h a).2) : zl E d M pc L (.int y :: .int x :: .ref a :: S) h = zl E d M (pc + 1) L S (sI h a (upd (hI h a) x.toNatClampNeg (vp_nar .boolean y))) := r1 hd rfl rfl (by
  simp only [ins, i_zast, zlen, if_pos hk, zR_iff.mpr q, cond_true, cond_false])
theorem r_last {x : Int32} {y : Int64} {a : Nat} (hd : decode (zcod M) pc = .ok (.lastore, 1)) (hk : (hK h a).1 = 2) (q : zR x (hK h a).2) : zl E d M pc L (.long y :: .int x :: .ref a :: S) h = zl E d M (pc + 1) L S (sJ h a (vp_updL (hJ h a) x.toNatClampNeg y)) := r1 hd rfl rfl (by
  simp only [ins, i_last, zlen, if_pos hk, zR_iff.mpr q, cond_true, cond_false])
theorem r_aast {x : Int32} {v a : Nat} (hd : decode (zcod M) pc = .ok (.aastore, 1)) (hk : (hK h a).1 = 4 ∧ hK h v = (11, 3) ∨ (hK h a).1 = 5 ∧ hK h v = (12, 2)) (q : zR x (hK h a).2) : zl E d M pc L (.ref v :: .int x :: .ref a :: S) h = zl E d M (pc + 1) L S (sF h a x.toNatClampNeg (.ref v)) := r1 hd rfl rfl (by
  simp only [ins, i_aast, zlen, if_pos hk, zR_iff.mpr q, cond_true, cond_false])
theorem r_alen {a : Nat} (hd : decode (zcod M) pc = .ok (.arraylength, 1)) (hk : (hK h a).1 = 1 ∨ (hK h a).1 = 2 ∨ (hK h a).1 = 3 ∨ (hK h a).1 = 4 ∨ (hK h a).1 = 5) : zl E d M pc L (.ref a :: S) h = zl E d M (pc + 1) L (.int (nI (hK h a).2) :: S) h := r1 hd rfl rfl (by
  simp only [ins, i_alen, zal, zlen, if_pos hk, cond_true, cond_false, nI])
theorem r_alen6 {a n : Nat} {f : Nat → Int32} (hd : decode (zcod M) pc = .ok (.arraylength, 1)) (hk : (hK h a).1 = 0) (hf : E.2 a = some (n, f)) : zl E d M pc L (.ref a :: S) h = zl E d M (pc + 1) L (.int (nI n) :: S) h := r1 hd rfl rfl (by
  simp [ins, i_alen, zal, zlen, hk, hf, nI])
theorem r_newi {n : Int32} (hd : decode (zcod M) pc = .ok (.newarray .int, 2)) (hn : 0 ≤ n ∧ n.toNatClampNeg ≤ 1000000) : zl E d M pc L (.int n :: S) h = zl E d M (pc + 2) L (.ref (hN h) :: S) (aH h 1 n.toNatClampNeg n.toNatClampNeg (fun _ => .null)) := r1 hd rfl rfl (if_pos hn)
theorem r_newl {n : Int32} (hd : decode (zcod M) pc = .ok (.newarray .long, 2)) (hn : 0 ≤ n ∧ n.toNatClampNeg ≤ 1000000) : zl E d M pc L (.int n :: S) h = zl E d M (pc + 2) L (.ref (hN h) :: S) (aH h 2 n.toNatClampNeg n.toNatClampNeg (fun _ => .null)) := r1 hd rfl rfl (if_pos hn)
theorem r_newz {n : Int32} (hd : decode (zcod M) pc = .ok (.newarray .boolean, 2)) (hn : 0 ≤ n ∧ n.toNatClampNeg ≤ 1000000) : zl E d M pc L (.int n :: S) h = zl E d M (pc + 2) L (.ref (hN h) :: S) (aH h 3 n.toNatClampNeg n.toNatClampNeg (fun _ => .null)) := r1 hd rfl rfl (if_pos hn)
theorem r_newq1 {n : Int32} {k o pl : Nat} (hd : decode (zcod M) pc = .ok (.anewarray k, 3)) (ho : zow M = o) (hq : zlk o k znt = some (1, pl)) (hn : 0 ≤ n ∧ n.toNatClampNeg ≤ 1000000) : zl E d M pc L (.int n :: S) h = zl E d M (pc + 3) L (.ref (hN h) :: S) (aH h 4 n.toNatClampNeg n.toNatClampNeg (fun _ => .null)) := r1 hd rfl rfl (by
  simp only [ins, i_newq, zlen, if_pos hn, ho, hq, cond_true, cond_false])
theorem r_newq2 {n : Int32} {k o pl : Nat} (hd : decode (zcod M) pc = .ok (.anewarray k, 3)) (ho : zow M = o) (hq : zlk o k znt = some (2, pl)) (hn : 0 ≤ n ∧ n.toNatClampNeg ≤ 1000000) : zl E d M pc L (.int n :: S) h = zl E d M (pc + 3) L (.ref (hN h) :: S) (aH h 5 n.toNatClampNeg n.toNatClampNeg (fun _ => .null)) := r1 hd rfl rfl (by
  simp only [ins, i_newq, zlen, if_pos hn, ho, hq, cond_true, cond_false])
theorem r_new {k o ci pl : Nat} (hd : decode (zcod M) pc = .ok (.new k, 3)) (ho : zow M = o) (hq : zlk o k znt = some (ci, pl)) : zl E d M pc L S h = zl E d M (pc + 3) L (.ref (hN h) :: S) (aH h (10 + ci) (zNf ci) (zNf ci) (fun k => (zdf ci).getD k .null)) := r1 hd rfl rfl (by
  simp only [ins, i_new, zlen, ho, hq, cond_true, cond_false])
theorem r_getf {k o ci j kd pl a : Nat} {fin : Bool} (hd : decode (zcod M) pc = .ok (.getfield k, 3)) (ho : zow M = o) (hq : zlk o k zft = some (ci, j, kd, fin, pl)) (hk : hK h a = (10 + ci, zNf ci)) : zl E d M pc L (.ref a :: S) h = zl E d M (pc + 3) L (hF h a j :: S) h := r1 hd rfl rfl (by
  simp only [ins, i_getf, zlen, ho, hq, if_pos hk, cond_true, cond_false])
theorem r_putf {k o ci j kd pl a : Nat} {fin : Bool} {v : Value} (hd : decode (zcod M) pc = .ok (.putfield k, 3)) (ho : zow M = o) (hq : zlk o k zft = some (ci, j, kd, fin, pl)) (hfi : fin = false ∨ zkd M = 2 ∧ ci = o) (hk : hK h a = (10 + ci, zNf ci)) (hf : zfit kd v = true) : zl E d M pc L (v :: .ref a :: S) h = zl E d M (pc + 3) L S (sF h a j v) := r1 hd rfl rfl (by
  simp only [ins, i_putf, zlen, ho, hq, if_pos (⟨hk, hf, hfi⟩ : hK h a = (10 + ci, zNf ci) ∧ zfit kd v = true ∧ (fin = false ∨ zkd M = 2 ∧ ci = o)), cond_true, cond_false])
theorem r_gets {k o j : Nat} (hd : decode (zcod M) pc = .ok (.getstatic k, 3)) (ho : zow M = o) (hq : zlk o k zst = some j) : zl E d M pc L S h = zl E d M (pc + 3) L (.ref (E.1 j) :: S) h := r1 hd rfl rfl (by
  simp only [ins, i_gets, zlen, ho, hq, cond_true, cond_false])
theorem r_call {C : Nat → List Value → mH → Option mR} {st : Bool} {t n : Nat} {A rest : List Value} (hn : Nat.ble (bif st then n else n + 1) S.length = true) (hA : (S.take (bif st then n else n + 1)).reverse = A) (hr : S.drop (bif st then n else n + 1) = rest) (hc : Nat.ble (zcat rest) 8 = true) : i_call C st t n (pc + 3) L S h = (match C t A h with
    | some (r, h') => .inl (pc + 3, L, r.toList ++ rest, h')
    | none => zno) := by
  subst hA; subst hr
  unfold i_call
  rw [hn, hc]
  rfl
theorem r_ca {t : Nat} {A rest : List Value} (hd : decode (zcod M) pc = .ok (i, 3)) (hl : (ztsw i || Nat.beq 3 (zlen i)) = true) (hr : zrti i = false) (hx : ins E (cal E d) M i pc (pc + zlen i) L S h = (match cal E d t A h with
    | some (r, h') => .inl (pc + 3, L, r.toList ++ rest, h')
    | none => zno)) : zl E d M pc L S h = (cal E d t A h).bind (fun x => zl E d M (pc + 3) L (x.1.toList ++ rest) x.2) := by
  cases hc : cal E d t A h with
  | none =>
    rw [hc] at hx
    exact r0 hd hl hr hx
  | some x =>
    obtain ⟨r, h'⟩ := x
    rw [hc] at hx
    exact r1 hd hl hr hx
theorem r_virt {k o t n pl a : Nat} {A rest : List Value} (hd : decode (zcod M) pc = .ok (.invokevirtual k, 3)) (ho : zow M = o) (hq : zlk o k zlt = some (1, t, n, pl)) (hS : S[n]? = some (.ref a)) (hA : (S.take (n + 1)).reverse = A) (hr : S.drop (n + 1) = rest) (hc : Nat.ble (zcat rest) 8 = true) (hn : Nat.ble (n + 1) S.length = true) {o' : Nat} (ho' : zow t = o') (hk : hK h a = (10 + o', zNf o')) : zl E d M pc L S h = (cal E d t A h).bind (fun x => zl E d M (pc + 3) L (x.1.toList ++ rest) x.2) := r_ca hd rfl rfl (by
  show i_virt (cal E d) (zow M) k (pc + 3) L S h = _
  unfold i_virt
  simp only [ho, hq, hS, ho', if_pos hk]
  exact r_call (st := false) hn hA hr hc)
theorem r_stat {k o t n pl : Nat} {A rest : List Value} (hd : decode (zcod M) pc = .ok (.invokestatic k, 3)) (ho : zow M = o) (hq : zlk o k zlt = some (0, t, n, pl)) (hA : (S.take n).reverse = A) (hr : S.drop n = rest) (hc : Nat.ble (zcat rest) 8 = true) (hn : Nat.ble n S.length = true) : zl E d M pc L S h = (cal E d t A h).bind (fun x => zl E d M (pc + 3) L (x.1.toList ++ rest) x.2) := r_ca hd rfl rfl (by
  show i_stat (cal E d) (zow M) k (pc + 3) L S h = _
  unfold i_stat
  simp only [ho, hq]
  exact r_call (st := true) hn hA hr hc)
theorem r_spec {k o t n pl a : Nat} {A rest : List Value} (hd : decode (zcod M) pc = .ok (.invokespecial k, 3)) (ho : zow M = o) (hq : zlk o k zlt = some (2, t, n, pl) ∨ zlk o k zlt = some (3, t, n, pl)) (hS : S[n]? = some (.ref a)) (hA : (S.take (n + 1)).reverse = A) (hr : S.drop (n + 1) = rest) (hc : Nat.ble (zcat rest) 8 = true) (hn : Nat.ble (n + 1) S.length = true) : zl E d M pc L S h = (cal E d t A h).bind (fun x => zl E d M (pc + 3) L (x.1.toList ++ rest) x.2) := r_ca hd rfl rfl (by
  show i_spec (cal E d) (zow M) k (pc + 3) L S h = _
  unfold i_spec; rw [ho]
  rcases hq with hq | hq <;> simp only [hq, hS] <;> exact r_call (st := false) hn hA hr hc)
theorem r_obj {k o a : Nat} {q : Nat × Nat × Nat} (hd : decode (zcod M) pc = .ok (.invokespecial k, 3)) (ho : zow M = o) (hq : zlk o k zlt = some (4, q)) (hc : zcat S ≤ 8) : zl E d M pc L (.ref a :: S) h = zl E d M (pc + 3) L S h := r1 hd rfl rfl (by
  simp only [ins, i_spec, zlen, ho, hq, if_pos hc, cond_true, cond_false])
theorem r_min {k o : Nat} {q : Nat × Nat × Nat} {x y : Int32} (hd : decode (zcod M) pc = .ok (.invokestatic k, 3)) (ho : zow M = o) (hq : zlk o k zlt = some (6, q)) (hc : zcat S ≤ 8) : zl E d M pc L (.int y :: .int x :: S) h = zl E d M (pc + 3) L (.int (if y < x then y else x) :: S) h := r1 hd rfl rfl (by
  simp only [ins, i_stat, i_mm, zlen, ho, hq, if_pos hc, cond_true, cond_false])
theorem r_max {k o : Nat} {q : Nat × Nat × Nat} {x y : Int32} (hd : decode (zcod M) pc = .ok (.invokestatic k, 3)) (ho : zow M = o) (hq : zlk o k zlt = some (7, q)) (hc : zcat S ≤ 8) : zl E d M pc L (.int y :: .int x :: S) h = zl E d M (pc + 3) L (.int (if x < y then y else x) :: S) h := r1 hd rfl rfl (by
  simp only [ins, i_stat, i_mm, zlen, ho, hq, if_pos hc, cond_true, cond_false])
theorem r_cpyi {k o a b : Nat} {q : Nat × Nat × Nat} {sp dp n : Int32} (hd : decode (zcod M) pc = .ok (.invokestatic k, 3)) (ho : zow M = o) (hq : zlk o k zlt = some (5, q)) (hc : 0 ≤ sp ∧ 0 ≤ dp ∧ 0 ≤ n ∧ sp.toNatClampNeg + n.toNatClampNeg ≤ (hK h a).2 ∧ dp.toNatClampNeg + n.toNatClampNeg ≤ (hK h b).2 ∧ zcat S ≤ 8) (hk : (hK h a).1 = 1 ∧ (hK h b).1 = 1) : zl E d M pc L (.int n :: .int dp :: .ref b :: .int sp :: .ref a :: S) h = zl E d M (pc + 3) L S (sI h b (va_cpy (hI h a) (hI h b) sp.toNatClampNeg dp.toNatClampNeg n.toNatClampNeg)) := r1 hd rfl rfl (by
  simp only [ins, i_stat, i_cpy, zlen, ho, hq, if_pos hc, if_pos hk, cond_true, cond_false])
theorem r_cpyl {k o a b : Nat} {q : Nat × Nat × Nat} {sp dp n : Int32} (hd : decode (zcod M) pc = .ok (.invokestatic k, 3)) (ho : zow M = o) (hq : zlk o k zlt = some (5, q)) (hc : 0 ≤ sp ∧ 0 ≤ dp ∧ 0 ≤ n ∧ sp.toNatClampNeg + n.toNatClampNeg ≤ (hK h a).2 ∧ dp.toNatClampNeg + n.toNatClampNeg ≤ (hK h b).2 ∧ zcat S ≤ 8) (hk : (hK h a).1 = 2 ∧ (hK h b).1 = 2) : zl E d M pc L (.int n :: .int dp :: .ref b :: .int sp :: .ref a :: S) h = zl E d M (pc + 3) L S (sJ h b (va_cpy (hJ h a) (hJ h b) sp.toNatClampNeg dp.toNatClampNeg n.toNatClampNeg)) := r1 hd rfl rfl (by
  simp only [ins, i_stat, i_cpy, zlen, ho, hq, if_pos hc, if_neg (show ¬ ((hK h a).1 = 1 ∧ (hK h b).1 = 1) from fun q => by rw [hk.1] at q; exact absurd q.1 (by decide)), if_pos hk, cond_true, cond_false])
theorem r_iret {x : Int32} (hd : decode (zcod M) pc = .ok (.ireturn, 1)) (ht : zrt M = some .int) : zl E d M pc L [.int x] h = some (some (.int x), h) := lim_end (stp_re hd rfl rfl (by
  simp only [ins, i_ret, zlen, ht, cond_true, cond_false]))
theorem r_zret {x : Int32} (hd : decode (zcod M) pc = .ok (.ireturn, 1)) (ht : zrt M = some .boolean) (hx : x = 0 ∨ x = 1) : zl E d M pc L [.int x] h = some (some (.int x), h) := lim_end (stp_re hd rfl rfl (by
  simp only [ins, i_ret, zlen, ht, if_pos hx, cond_true, cond_false]))
theorem r_lret {x : Int64} (hd : decode (zcod M) pc = .ok (.lreturn, 1)) (ht : zrt M = some .long) : zl E d M pc L [.long x] h = some (some (.long x), h) := lim_end (stp_re hd rfl rfl (if_pos ht))
theorem r_vret (hd : decode (zcod M) pc = .ok (.return_, 1)) (ht : zrt M = none) : zl E d M pc L [] h = some (none, h) := lim_end (stp_re hd rfl rfl (if_pos ht))
theorem r_aret {a : Nat} (hd : decode (zcod M) pc = .ok (.areturn, 1)) (ht : zisr (zrt M) = true) : zl E d M pc L [.ref a] h = some (some (.ref a), h) := lim_end (stp_re hd rfl rfl (by
  simp only [ins, i_aret, zlen, ht, cond_true, cond_false]))
theorem r_aretN (hd : decode (zcod M) pc = .ok (.areturn, 1)) (ht : zisr (zrt M) = true) : zl E d M pc L [.null] h = some (some .null, h) := lim_end (stp_re hd rfl rfl (by
  simp only [ins, i_aret, zlen, ht, cond_true, cond_false]))
theorem r_cal {vs : List Value} {L : mL} {n : Nat} (hn : Nat.ble (zsl vs).length (zmx M) = true) (hL : zen M vs = L) : cal E (d + 1) M vs h = zl E d M 0 L [] h := by
  rw [cal_eq, hn, hL]
  rfl
end
