/-! ===== writes of two rows change places ===== -/
section
theorem sI_com (h : mH) (a c : Nat) (f g k : Nat → Int32) (hne : a ≠ c) : sI (sI (sI h a f) c g) a k = sI (sI h a k) c g := by
  have e : va_up (va_up (va_up (hI h) a f) c g) a k = va_up (va_up (hI h) a k) c g := by
    funext x
    unfold va_up
    by_cases c1 : x = a
    · have : ¬ x = c := fun q => hne (c1.symm.trans q)
      simp only [c1, if_true]
      rw [if_neg hne]
    · simp only [c1, if_false]
  show (hN h, hZ h, hK h, va_up (va_up (va_up (hI h) a f) c g) a k, hJ h, hF h) = (hN h, hZ h, hK h, va_up (va_up (hI h) a k) c g, hJ h, hF h)
  rw [e]
end
