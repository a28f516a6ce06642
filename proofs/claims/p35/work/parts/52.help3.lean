abbrev ALX : Type := Int32 × Int32 × Int32 × Int32 × (Nat → Int32) × (Nat → Int32)
def alXS0 (t : ALX) (x : Int32) : ALX := (x, t.2.1, t.2.2.1, t.2.2.2.1, t.2.2.2.2.1, t.2.2.2.2.2)
theorem alX_s0 (v : Nat → Int32) (F : Nat → Nat → Int32) (x : Int32) : alX (va_up v 20 x) F = alXS0 (alX v F) x := by simp [alX, alXS0, va_up]
def alXS1 (t : ALX) (x : Int32) : ALX := (t.1, x, t.2.2.1, t.2.2.2.1, t.2.2.2.2.1, t.2.2.2.2.2)
theorem alX_s1 (v : Nat → Int32) (F : Nat → Nat → Int32) (x : Int32) : alX (va_up v 40 x) F = alXS1 (alX v F) x := by simp [alX, alXS1, va_up]
def alXS2 (t : ALX) (x : Int32) : ALX := (t.1, t.2.1, x, t.2.2.2.1, t.2.2.2.2.1, t.2.2.2.2.2)
theorem alX_s2 (v : Nat → Int32) (F : Nat → Nat → Int32) (x : Int32) : alX (va_up v 11 x) F = alXS2 (alX v F) x := by simp [alX, alXS2, va_up]
def alXS3 (t : ALX) (x : Int32) : ALX := (t.1, t.2.1, t.2.2.1, x, t.2.2.2.2.1, t.2.2.2.2.2)
theorem alX_s3 (v : Nat → Int32) (F : Nat → Nat → Int32) (x : Int32) : alX (va_up v 161 x) F = alXS3 (alX v F) x := by simp [alX, alXS3, va_up]
def alXS4 (t : ALX) (x : Nat → Int32) : ALX := (t.1, t.2.1, t.2.2.1, t.2.2.2.1, x, t.2.2.2.2.2)
theorem alX_s4 (v : Nat → Int32) (F : Nat → Nat → Int32) (x : Nat → Int32) : alX v (va_up F 20 x) = alXS4 (alX v F) x := by simp [alX, alXS4, va_up]
def alXS5 (t : ALX) (x : Nat → Int32) : ALX := (t.1, t.2.1, t.2.2.1, t.2.2.2.1, t.2.2.2.2.1, x)
theorem alX_s5 (v : Nat → Int32) (F : Nat → Nat → Int32) (x : Nat → Int32) : alX v (va_up F 21 x) = alXS5 (alX v F) x := by simp [alX, alXS5, va_up]
