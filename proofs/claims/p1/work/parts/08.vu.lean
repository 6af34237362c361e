theorem sv_us {α : Type} {f : Nat → α} {a : Nat} {v : α} : va_up f a v a = v := by simp [va_up]
theorem sv_un {α : Type} {f : Nat → α} {a b : Nat} {v : α} (h : b ≠ a) : va_up f a v b = f b := by simp [va_up, h]
theorem sv_uu {α : Type} {f : Nat → α} {a : Nat} {v w : α} : va_up (va_up f a v) a w = va_up f a w := by
  funext j
  by_cases h : j = a <;> simp [va_up, h]
theorem sv_uc {α : Type} {f : Nat → α} {a b : Nat} {v w : α} (h : a ≠ b) : va_up (va_up f a v) b w = va_up (va_up f b w) a v := by
  funext j
  by_cases h1 : j = a
  · subst h1; simp [va_up, h]
  · by_cases h2 : j = b
    · subst h2; simp [va_up, h1]
    · simp [va_up, h1, h2]
