theorem xL_to {α β : Type} {v w : α} {f : α → β} (h : w = v) : xL v f = f w := by rw [h]; rfl
