/-- behind a night of drift: the three rows, once -/
theorem dr_X {a b g : Nat} (hab : a ≠ b) (hag : a ≠ g) (hbg : b ≠ g) (S : Nat → Nat → Int32) (O1 O2 O3 V1 V2 G1 G2 : Nat → Int32) : va_up (va_up (va_up S a O3) b V2) g G2 = va_up (va_up (va_up (va_up (va_up (va_up (va_up S a O1) b V1) g G1) a O2) b V2) g G2) a O3 := by
  funext q
  by_cases h1 : q = a
  · subst h1; simp [va_up, hab, hag]
  · by_cases h2 : q = b
    · subst h2; simp [va_up, h1, hbg]
    · by_cases h3 : q = g
      · subst h3; simp [va_up, h1]
      · simp [va_up, h1, h2, h3]
