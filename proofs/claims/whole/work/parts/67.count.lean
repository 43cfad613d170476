/-! ===== how many there are, at most ===== -/
/-- a number, worked out before it is used -/
noncomputable def frc (x : Nat) (f : Nat → Nat) : Nat := Nat.rec (motive := fun _ => Nat) 0 (fun k _ => f k) (Nat.add x 1)
theorem frc_eq (x : Nat) (f : Nat → Nat) : frc x f = f x := rfl
/-- digit a is free in the mask -/
noncomputable def fre1 (m a : Nat) (x : Nat) : Nat := Nat.rec (motive := fun _ => Nat) x (fun _ _ => 0) (Nat.land (Nat.shiftRight m a) 1)
/-- all free digits below k -/
noncomputable def lpc (m : Nat) (f : Nat → Nat) (k : Nat) : Nat := Nat.rec (motive := fun _ => Nat) 0 (fun a ih => Nat.add (fre1 m a (f a)) ih) k
/-- the digit w - 1, if free -/
noncomputable def foc (m : Nat) (f : Nat → Nat) (w : Nat) : Nat := Nat.rec (motive := fun _ => Nat) 0 (fun a _ => fre1 m a (f a)) w
/-- the digits of row R at the places ds, summed -/
noncomputable def dgs (R : Nat) (ds : List Nat) : Nat := List.rec (motive := fun _ => Nat) 0 (fun c _ ih => Nat.add (Nat.land (Nat.shiftRight R (Nat.mul 4 c)) 15) ih) ds
noncomputable def cnt (B W : Nat) (P : List (Nat × List Nat)) : Nat → Nat → Nat := List.rec (motive := fun _ => Nat → Nat → Nat) (fun _ _ => 1) (fun s _ ih R m => List.rec (motive := fun _ => Nat) (lpc m (fun a => frc (Nat.lor R (Nat.shiftLeft a (Nat.mul 4 s.1))) (fun R' => frc (Nat.lor m (Nat.shiftLeft 1 a)) (fun m' => ih R' m'))) B) (fun _ _ _ => foc m (fun a => frc (Nat.lor R (Nat.shiftLeft a (Nat.mul 4 s.1))) (fun R' => frc (Nat.lor m (Nat.shiftLeft 1 a)) (fun m' => ih R' m'))) (Nat.sub W (dgs R s.2))) s.2) P
def pl3 : List (Nat × List Nat) := [(0, []), (1, []), (2, [0, 1]), (3, []), (6, [0, 3]), (4, [2, 6]), (5, [3, 4]), (7, [1, 4]), (8, [6, 7])]
def pl4 : List (Nat × List Nat) := [(0, []), (1, []), (2, []), (3, [0, 1, 2]), (12, []), (15, [0, 3, 12]), (6, []), (9, [3, 6, 12]), (5, []), (10, [0, 5, 15]), (13, [1, 5, 9]), (14, [2, 6, 10]), (4, []), (8, [0, 4, 12]), (7, [4, 5, 6]), (11, [8, 9, 10])]
set_option maxRecDepth 100000 in
theorem cnt3 : Nat.ble (cnt 9 13 pl3 0 4294966784) 100 = true := by decide +kernel
set_option maxRecDepth 100000 in
theorem cnt4a : Nat.ble (cnt 16 31 pl4.tail 0 (4294901760 + 1)) 1000 = true := by decide +kernel
