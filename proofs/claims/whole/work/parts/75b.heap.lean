/-! ===== heaps written twice ===== -/
section
theorem sF_sI_sF (h : mH) (a k c : Nat) (v w : Value) (f : Nat → Int32) : sF (sI (sF h a k v) c f) a k w = sI (sF h a k w) c f := by
  have e : va_up (va_up (hF h) a (va_up (hF h a) k v)) a (va_up ((va_up (hF h) a (va_up (hF h a) k v)) a) k w) = va_up (hF h) a (va_up (hF h a) k w) := by
    funext x y
    unfold va_up
    by_cases c1 : x = a
    · simp only [c1, if_true]
      by_cases c2 : y = k
      · simp only [c2, if_true]
      · simp only [c2, if_false]
    · simp only [c1, if_false]
  show (hN h, hZ h, hK h, va_up (hI h) c f, hJ h, va_up (va_up (hF h) a (va_up (hF h a) k v)) a (va_up ((va_up (hF h) a (va_up (hF h a) k v)) a) k w)) = (hN h, hZ h, hK h, va_up (hI h) c f, hJ h, va_up (hF h) a (va_up (hF h a) k w))
  rw [e]
theorem sF_self (h : mH) (a k : Nat) : sF h a k (hF h a k) = h := by
  have e : va_up (hF h) a (va_up (hF h a) k (hF h a k)) = hF h := by
    funext x y
    unfold va_up
    by_cases c1 : x = a
    · simp only [c1, if_true]
      by_cases c2 : y = k
      · simp only [c2, if_true]
      · simp only [c2, if_false]
    · simp only [c1, if_false]
  show (hN h, hZ h, hK h, hI h, hJ h, va_up (hF h) a (va_up (hF h a) k (hF h a k))) = _
  rw [e]
  rfl
theorem zero_and32 (x : Int32) : (0 : Int32) &&& x = 0 := by
  apply Int32.toBitVec_inj.mp
  show (0#32) &&& x.toBitVec = 0#32
  exact BitVec.zero_and
end
